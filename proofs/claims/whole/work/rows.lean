section
/-! ===== BEGIN words of one list among another's, by their places ===== -/
theorem goodIn_r {big : List Cond} (ws : List Cond) (ps : List Nat) (hp : ws = ps.filterMap (fun i => big[i]?)) (h : ws.all goodWord = true) : GoodIn big ws := by
  intro w hw
  have h1 := List.all_eq_true.mp h w hw
  rw [hp] at hw
  obtain ⟨i, -, hi⟩ := List.mem_filterMap.mp hw
  have hm : w ∈ big := by first | exact List.mem_of_getElem? hi | exact List.getElem?_mem hi
  exact ⟨hm, good_of_word h1⟩
theorem goodIn_app {big a b : List Cond} (ha : GoodIn big a) (hb : GoodIn big b) : GoodIn big (a ++ b) := fun w h => (List.mem_append.mp h).elim (ha w) (hb w)
theorem goodIn_ca {big a b : List Cond} {c : Cond} (ha : GoodIn big (c :: a)) (hb : GoodIn big b) : GoodIn big (c :: (a ++ b)) := fun w h => (List.mem_cons.mp h).elim (fun e => ha w (List.mem_cons.mpr (Or.inl e))) (fun h => (List.mem_append.mp h).elim (fun h => ha w (List.mem_cons.mpr (Or.inr h))) (hb w))
theorem goodIn_sub {big ws : List Cond} (hm : ∀ w ∈ ws, w ∈ big) (h : ws.all goodWord = true) : GoodIn big ws := fun w hw => ⟨hm w hw, good_of_word (List.all_eq_true.mp h w hw)⟩
/-! ===== END ===== -/

/-! ===== BEGIN exceptions that leave a method, and their catching by the caller (launches without stack traces) ===== -/
section VXA
/-! The laws vx_back, vx_callV, vx_callS, vx_callSW, vx_throw0, vx_throwS follow proofs of the library, with one case more: JvmDerived/Free/Laws.lean (Back.of_free), Shelf42/LK1.lean (callV, callS), Shelf/KitTraced.lean (throwNew0V, throwNewS). -/
/-- where a method has thrown q: the class by its name, the cell, what was written, the world -/
def vx_T (XC : String → State → State → Prop) (st : State) (q : Addr) (t : State) (mc ms : Nat) (free : Addr → Prop) : Prop :=
  ∃ (E : String) (ce : Cell) (L : List Loc), XC E st t ∧ t.heap[q]? = some ce ∧ ce.vm = .none ∧ st.vm.findClass E = some ce.cls ∧ st.WarmedH t.vm ∧ st.sameButNew ({ t with vm := st.vm } : State) L mc ms ∧ ∀ z ∈ L, free z.base
def vx_Q (Qc : Array Value → State → Outcome → State → Prop) (XC : String → State → State → Prop) (mc ms : Nat) (free : Addr → Prop) : Array Value → State → Outcome → State → Prop := fun a st o t =>
  (Qc a st o t ∧ ∃ L, FrameEnd st o t L mc ms ∧ ∀ q ∈ L, free q.base) ∨ ∃ q, o = .threw q ∧ vx_T XC st q t mc ms free
/-- a callee that returns or throws -/
def vx_Met (l : Launch) (y : MethodName) (ws : List Cond) (rm : Room) (Pc : Array Value → State → Prop) (Qc : Array Value → State → Outcome → State → Prop) (XC : String → State → State → Prop) (mc ms : Nat) (free : Addr → Prop) : Prop :=
  MetFree l y (headSpec ws rm) Pc (fun _ _ _ _ _ => True) (vx_Q Qc XC mc ms free)
def vx_Post (XC : String → State → State → Prop) (mc ms : Nat) (free : Addr → Prop) : Pt → Array Value → Addr → Pt → Prop := fun A a q B =>
  ∃ (g : JFrame) (mk : MethodId) (t : State) (L : List Loc) (E : String) (ce : Cell), B.U.heap = t.heap ∧ B.U.vm = t.vm ∧ XC E (A.U.calling g mk a) t ∧ t.heap[q]? = some ce ∧ ce.vm = .none ∧ A.U.vm.findClass E = some ce.cls ∧ B.locs = A.locs ++ L ∧ (∀ z ∈ L, free z.base) ∧ B.cells = A.cells + mc ∧ B.slots = A.slots + ms
def vx_Back (l : Launch) (R : Room) (p : Program) (e : Env) (below : List Frame) (s : State) (sargs : Array Value) (y : MethodName) (len W9 : Nat)
    (Pre : Pt → Array Value → Prop) (Post : Pt → Array Value → Option Value → Pt → Prop) (PostX : Pt → Array Value → Addr → Pt → Prop) : Prop :=
  ∀ (m : MethodId) (meth : Method) (c : Code) (A : Pt) (g : JFrame) (ig : Instr) (mk : MethodId) (a : Array Value),
    Stand p l e R s m sargs below meth c A.U A.locs A.cells A.slots → g.method = m → g.locals.size = c.maxLocals → decode c.code g.pc = .ok (ig, len) →
    2 * g.monitorRoom + (g.stack.map fun v => v.category).sum ≤ W9 → A.U.methodNamed? y = some mk → Pre A a →
    (∃ (v : Option Value) (B : Pt), Stand p l e R s m sargs below meth c B.U B.locs B.cells B.slots ∧ Post A a v B ∧
      Steps p.tables e below (doInvoke e (A.U.setTop g) [] mk a).1 (B.U.setTop { g with pc := g.pc + len, stack := v.toList ++ g.stack })) ∨
    (∃ (q : Addr) (B : Pt), Stand p l e R s m sargs below meth c B.U B.locs B.cells B.slots ∧ PostX A a q B ∧
      Steps p.tables e below (doInvoke e (A.U.setTop g) [] mk a).1 ((B.U.setTop g).pushFrame (.throwing q)))
section Payer
variable {l : Launch} {R : Room} {p : Program} {e : Env} {below : List Frame} {s : State} {sargs : Array Value} {y : MethodName} {len W9 : Nat}
theorem vx_back {ws : List Cond} {rm : Room} {Pc : Array Value → State → Prop} {Qc : Array Value → State → Outcome → State → Prop} {XC : String → State → State → Prop} {mc ms : Nat} {free : Addr → Prop} {bytes : ByteArray} {maxL : Nat} {ret : Option FieldType}
    (hM : vx_Met l y ws rm Pc Qc XC mc ms free) (hblind : FrameBlind Pc) (hrc : rm.cells = mc) (hrs : rm.slots = ms)
    (hframes : rm.frames + 1 ≤ R.frames) (hlocals : W9 + (maxL + 11) + rm.locals ≤ R.locals)
    (hws : ∀ w ∈ ws, ∀ a' U, s.WarmedH U.vm → w.before a' U = true) (hcode : Cond.code y bytes maxL ret ∈ ws) (hinit : ∀ a' U, s.WarmedH U.vm → (Cond.initialized y.cls).before a' U = true) :
    vx_Back l R p e below s sargs y len W9 (PreOf R mc ms Pc) (PostOf Qc mc ms free) (vx_Post XC mc ms free) := by
  intro m meth c A g ig mk a X hg hsize hdg hW hn hp
  have h1 : (headSpec ws rm).pre.before a A.U = true := atoms_intro fun w hw => hws w hw _ _ X.warmed
  have h2 : (Cond.code y bytes maxL ret).before a A.U = true := hws _ hcode _ _ X.warmed
  have h3 : (Cond.initialized y.cls).before a A.U = true := hinit _ _ X.warmed
  have h4 : A.cells + (headSpec ws rm).room.cells ≤ R.cells := by rw [show (headSpec ws rm).room.cells = mc from hrc]; exact hp.1
  have h5 : A.slots + (headSpec ws rm).room.slots ≤ R.slots := by rw [show (headSpec ws rm).room.slots = ms from hrs]; exact hp.2.1
  have hPc : Pc a (A.U.calling g mk a) := hblind _ _ _ _ hp.2.2
  obtain ⟨U, Ls, c0, s0⟩ := A
  dsimp only [Pt.U, Pt.locs, Pt.cells, Pt.slots] at h1 h2 h3 h4 h5 X hn hPc ⊢
  obtain ⟨methY, cY, hmY, hcY, -, hlY, -, -, -, -⟩ := Cond.code_spec hn h2
  obtain ⟨kY, hkY, -⟩ := className_of_methodNamed hn
  have hinitY : kY.init = .initialized := Cond.initialized_spec (findClass_of_methodNamed hn) hkY h3
  have h : At U g.method c below := by rw [hg]; exact X.here
  have hlocals9 : W9 + (maxL + 11) + (headSpec ws rm).room.locals ≤ R.locals := hlocals
  have happ : (headSpec ws rm).appliesLoose y e.platform (U.calling g mk a) = true :=
    Spec.appliesLoose_calling (g := g) h hdg hn hkY hinitY
      (X.room_calling (g := g) (R' := (headSpec ws rm).room) hsize hmY hcY hframes (by rw [hlY]; omega) h4 h5) h1
  obtain ⟨mid, hmid⟩ := h.above
  have hfr : (U.setTop g).frames = (.java g :: mid) ++ below := by rw [State.frames_setTop' g h.top, hmid]; rfl
  obtain ⟨o, s₂, hsteps, -, hend, hq⟩ := Steps.callFree hM p X.admits X.cas X.clock (acts := []) hfr happ hPc trivial
  have hq' : vx_Q Qc XC mc ms free a (U.calling g mk a) o s₂ := hq
  rw [State.frames_setTop' g h.top] at hend
  obtain ⟨g₀, hg0⟩ := Option.isSome_iff_exists.mp h.top
  obtain ⟨r, hr⟩ := State.topJava?_eq_some.mp hg0
  have hr' : (({ U with heap := s₂.heap, slotsUsed := s₂.slotsUsed } : State).setVm s₂.vm).frames = .java g₀ :: r := hr
  rcases hq' with ⟨hqc, L, hfe, hL⟩ | ⟨q, rfl, E, ce, L, hx, hce, hcv, hcl, hW₂, hsm, hL⟩
  · obtain ⟨⟨v, rfl⟩, hW₂, e2, q2, q3, q4, q5, q6⟩ := id hfe
    have e3 : s₂ = ({ (U.calling g mk a).setFrames s₂.frames with heap := s₂.heap, slotsUsed := s₂.slotsUsed } : State).setVm s₂.vm := by
      have : s₂ = ({ s₂ with vm := (U.calling g mk a).vm } : State).setVm s₂.vm := rfl
      rw [e2] at this
      exact this
    obtain ⟨c₂, i₂, len₂, hc₂, hd₂, hf₂⟩ := hend
    have hW' : U.WarmedH s₂.vm := hW₂
    have hcc : c₂ = c := by
      have h1 : s₂.code? g.method = U.code? g.method := by
        rw [State.code?_eq, State.code?_eq, hW'.alike.method?]
      exact Option.some.inj (hc₂.symm.trans (h1.trans h.code))
    subst hcc
    have hlen : len₂ = len := by rw [hdg] at hd₂; cases hd₂; rfl
    subst hlen
    have hs₂ : s₂ = (({ U with heap := s₂.heap, slotsUsed := s₂.slotsUsed } : State).setVm s₂.vm).setTop { g with pc := g.pc + len₂, stack := v.toList ++ g.stack } := by
      refine e3.trans ?_
      rw [hf₂, State.calling_eq h.top, State.setFrames_setFrames, State.setTop_of_frames _ hr', hr]
      rfl
    have hsame : U.sameButNew ({ U with heap := s₂.heap, slotsUsed := s₂.slotsUsed } : State) L mc ms := by
      refine ⟨?_, q2, q3, q4, q5, q6⟩
      obtain ⟨t, ht, -⟩ := State.frames_cons hr
      show ({ U with heap := s₂.heap, slotsUsed := s₂.slotsUsed } : State) = { U.setFrames U.frames with heap := s₂.heap, slotsUsed := s₂.slotsUsed }
      rw [State.setFrames_self ht]
    subst hg
    refine Or.inl ⟨v, ⟨(({ U with heap := s₂.heap, slotsUsed := s₂.slotsUsed } : State).setVm s₂.vm), Ls ++ L, c0 + mc, s0 + ms⟩,
      ⟨X.admits, X.cas, X.clock, X.frames, X.room, X.hears, X.method, X.code, (X.here.setHeapUsed s₂.heap s₂.slotsUsed).setVm hW'.alike, X.tail, State.WarmedH.trans X.warmed hW', X.limits, X.bytes, X.same.trans (hsame.setVm s.vm)⟩,
      ⟨g, mk, s₂, L, rfl, rfl, hqc, rfl, hL, rfl, rfl⟩, ?_⟩
    show Steps p.tables e below _ ((({ U with heap := s₂.heap, slotsUsed := s₂.slotsUsed } : State).setVm s₂.vm).setTop { g with pc := g.pc + len₂, stack := v.toList ++ g.stack })
    rw [← hs₂]
    exact hsteps
  · obtain ⟨e2, q2, q3, q4, q5, q6⟩ := id hsm
    have e3 : s₂ = ({ (U.calling g mk a).setFrames s₂.frames with heap := s₂.heap, slotsUsed := s₂.slotsUsed } : State).setVm s₂.vm := by
      have : s₂ = ({ s₂ with vm := (U.calling g mk a).vm } : State).setVm s₂.vm := rfl
      rw [e2] at this
      exact this
    have hf₂ : s₂.frames = .throwing q :: .java g :: U.frames.tail := hend
    have hW' : U.WarmedH s₂.vm := hW₂
    have hs₂ : s₂ = ((({ U with heap := s₂.heap, slotsUsed := s₂.slotsUsed } : State).setVm s₂.vm).setTop g).pushFrame (.throwing q) := by
      refine e3.trans ?_
      rw [hf₂, State.calling_eq h.top, State.setFrames_setFrames, State.pushFrame, State.frames_setTop _ hr', State.setTop_of_frames _ hr', State.setFrames_setFrames, hr]
      rfl
    have hsame : U.sameButNew ({ U with heap := s₂.heap, slotsUsed := s₂.slotsUsed } : State) L mc ms := by
      refine ⟨?_, q2, q3, q4, q5, q6⟩
      obtain ⟨t, ht, -⟩ := State.frames_cons hr
      show ({ U with heap := s₂.heap, slotsUsed := s₂.slotsUsed } : State) = { U.setFrames U.frames with heap := s₂.heap, slotsUsed := s₂.slotsUsed }
      rw [State.setFrames_self ht]
    subst hg
    refine Or.inr ⟨q, ⟨(({ U with heap := s₂.heap, slotsUsed := s₂.slotsUsed } : State).setVm s₂.vm), Ls ++ L, c0 + mc, s0 + ms⟩,
      ⟨X.admits, X.cas, X.clock, X.frames, X.room, X.hears, X.method, X.code, (X.here.setHeapUsed s₂.heap s₂.slotsUsed).setVm hW'.alike, X.tail, State.WarmedH.trans X.warmed hW', X.limits, X.bytes, X.same.trans (hsame.setVm s.vm)⟩,
      ⟨g, mk, s₂, L, E, ce, rfl, rfl, hx, hce, hcv, hcl, rfl, hL, rfl, rfl⟩, ?_⟩
    show Steps p.tables e below _ (((({ U with heap := s₂.heap, slotsUsed := s₂.slotsUsed } : State).setVm s₂.vm).setTop g).pushFrame (.throwing q))
    rw [← hs₂]
    exact hsteps
end Payer
section Calls
variable {p : Program} {l : Launch} {e : Env} {R : Room} {s : State} {m : MethodId} {args : Array Value} {below : List Frame} {meth : Method} {c : Code} {T : State} {locs : List Loc} {cells slots : Nat}
theorem vx_callV (X : Stand p l e R s m args below meth c T locs cells slots) (hexec : p.tables.exec = Jvm.exec) {own C : String} {index : Nat} {y : MethodName} {bytes : ByteArray} {maxL : Nat} {ret : Option FieldType}
    (hown : s.vm.findClass own = some m.cls) (hlink : (Cond.methodLink own index y).before args s = true) (hinst : (Cond.instanceMethod y).before args s = true) (hsel : (Cond.selects C y y).before args s = true)
    (hcode : (Cond.code y bytes maxL ret).before args s = true) (hy : y.cls ≠ "java/lang/invoke/MethodHandle" ∧ y.cls ≠ "java/lang/invoke/VarHandle")
    {W9 : Nat} {Pre : Pt → Array Value → Prop} {Post : Pt → Array Value → Option Value → Pt → Prop} {PostX : Pt → Array Value → Addr → Pt → Prop} (hK : vx_Back l R p e below s args y 3 W9 Pre Post PostX)
    {b : Addr} {cellB : Cell} (hcell : T.heap[b]? = some cellB) (hobj : cellB.vm.isStatics = false) (hcls : s.vm.findClass C = some cellB.cls)
    {g : JFrame} (hg : g.method = m) (hsize : g.locals.size = c.maxLocals) {argsL rest : List Value} (hlen : ∀ sig, parseMethodDescriptor y.desc = some sig → argsL.length = sig.parameters.length)
    (hstack : g.stack = argsL.reverse ++ .ref b :: rest) (hW : 2 * g.monitorRoom + (rest.map fun v => v.category).sum ≤ W9) (hdg : decode c.code g.pc = .ok (.invokevirtual index, 3))
    (hpre : ∀ vm₁, s.WarmedH vm₁ → Pre ⟨T.setVm vm₁, locs, cells, slots⟩ (Value.ref b :: argsL).toArray) :
    (∃ (v : Option Value) (vm₁ : Vm) (B : Pt), s.WarmedH vm₁ ∧ Stand p l e R s m args below meth c B.U B.locs B.cells B.slots ∧ Post ⟨T.setVm vm₁, locs, cells, slots⟩ (Value.ref b :: argsL).toArray v B ∧
      ∀ target, Steps p.tables e below (B.U.setTop { g with pc := g.pc + 3, stack := v.toList ++ rest }) target → Steps p.tables e below (T.setTop g) target) ∨
    (∃ (q : Addr) (vm₁ : Vm) (B : Pt), s.WarmedH vm₁ ∧ Stand p l e R s m args below meth c B.U B.locs B.cells B.slots ∧ PostX ⟨T.setVm vm₁, locs, cells, slots⟩ (Value.ref b :: argsL).toArray q B ∧
      Steps p.tables e below (T.setTop g) ((B.U.setTop { g with stack := rest }).pushFrame (.throwing q))) := by
  obtain ⟨mk, methM, hnamed, hmethM, hstM, habM⟩ := Cond.instanceMethod_spec hinst
  obtain ⟨methM', cM, hmethM', -, -, -, -, -, -, hsigM⟩ := Cond.code_spec hnamed hcode
  cases hmethM.symm.trans hmethM'
  obtain ⟨c2, r2, m2, q1, q2, q3, q4, kP, hkP, hkPi⟩ := Cond.selects_spec hsel
  cases hcls.symm.trans q1
  cases (State.methodFound?_of_named hnamed hy).symm.trans q2
  cases hnamed.symm.trans q3
  have hselP : selectMethod e.platform s.vm cellB.cls mk = .method mk := by rw [Launch.admits_selectMethod X.admits]; exact q4
  obtain ⟨vm₁, X₁, hstep₁⟩ := X.invokevirtual hexec hown hlink hnamed hmethM hstM hkP hkPi hy (a := b) (cell := cellB) hcell
    (fun z h => by rw [h] at hobj; cases hobj) hselP hmethM habM hkP hkPi (g := g) hg (argsL := argsL) (rest := rest) (hlen _ hsigM) hstack hdg
  rcases hK m meth c ⟨T.setVm vm₁, locs, cells, slots⟩ { g with stack := rest } (.invokevirtual index) mk (Value.ref b :: argsL).toArray X₁ hg hsize hdg hW (X₁.named hnamed) (hpre vm₁ X₁.warmed) with ⟨v, B, X', hpost, hsteps⟩ | ⟨q, B, X', hpost, hsteps⟩
  · exact Or.inl ⟨v, vm₁, B, X₁.warmed, X', hpost, fun target h => hstep₁ _ fun acts => by rw [doInvoke_state]; exact hsteps.trans h⟩
  · exact Or.inr ⟨q, vm₁, B, X₁.warmed, X', hpost, hstep₁ _ fun acts => by rw [doInvoke_state]; exact hsteps⟩
theorem vx_callS (X : Stand p l e R s m args below meth c T locs cells slots) (hexec : p.tables.exec = Jvm.exec) {own : String} {index : Nat} {y : MethodName} {bytes : ByteArray} {maxL : Nat} {ret : Option FieldType}
    (hown : s.vm.findClass own = some m.cls) (hlink : (Cond.methodLink own index y).before args s = true) (hstat : (Cond.static y).before args s = true) (hinit : (Cond.initialized y.cls).before args s = true)
    (hcode : (Cond.code y bytes maxL ret).before args s = true) (hy : y.cls ≠ "java/lang/invoke/MethodHandle" ∧ y.cls ≠ "java/lang/invoke/VarHandle")
    {W9 : Nat} {Pre : Pt → Array Value → Prop} {Post : Pt → Array Value → Option Value → Pt → Prop} {PostX : Pt → Array Value → Addr → Pt → Prop} (hK : vx_Back l R p e below s args y 3 W9 Pre Post PostX)
    {g : JFrame} (hg : g.method = m) (hsize : g.locals.size = c.maxLocals) {argsL rest : List Value} (hlen : ∀ sig, parseMethodDescriptor y.desc = some sig → argsL.length = sig.parameters.length)
    (hstack : g.stack = argsL.reverse ++ rest) (hW : 2 * g.monitorRoom + (rest.map fun v => v.category).sum ≤ W9) (hdg : decode c.code g.pc = .ok (.invokestatic index, 3))
    (hpre : ∀ vm₁, s.WarmedH vm₁ → Pre ⟨T.setVm vm₁, locs, cells, slots⟩ argsL.toArray) :
    (∃ (v : Option Value) (vm₁ : Vm) (B : Pt), s.WarmedH vm₁ ∧ Stand p l e R s m args below meth c B.U B.locs B.cells B.slots ∧ Post ⟨T.setVm vm₁, locs, cells, slots⟩ argsL.toArray v B ∧
      ∀ target, Steps p.tables e below (B.U.setTop { g with pc := g.pc + 3, stack := v.toList ++ rest }) target → Steps p.tables e below (T.setTop g) target) ∨
    (∃ (q : Addr) (vm₁ : Vm) (B : Pt), s.WarmedH vm₁ ∧ Stand p l e R s m args below meth c B.U B.locs B.cells B.slots ∧ PostX ⟨T.setVm vm₁, locs, cells, slots⟩ argsL.toArray q B ∧
      Steps p.tables e below (T.setTop g) ((B.U.setTop { g with stack := rest }).pushFrame (.throwing q))) := by
  obtain ⟨mk, hnamed⟩ := Cond.code_named hcode
  obtain ⟨methM, cM, hmethM, -, -, -, -, -, -, hsigM⟩ := Cond.code_spec hnamed hcode
  have hstatic : methM.isStatic = true := Cond.static_spec hnamed hmethM hstat
  obtain ⟨kP, hkP, -⟩ := className_of_methodNamed hnamed
  have hinitP : kP.init = .initialized := Cond.initialized_spec (findClass_of_methodNamed hnamed) hkP hinit
  obtain ⟨vm₁, X₁, hstep₁⟩ := X.invokestatic hexec hown hlink hnamed hmethM hstatic hkP hinitP hy (g := g) hg (argsL := argsL) (rest := rest) (hlen _ hsigM) hstack hdg
  rcases hK m meth c ⟨T.setVm vm₁, locs, cells, slots⟩ { g with stack := rest } (.invokestatic index) mk argsL.toArray X₁ hg hsize hdg hW (X₁.named hnamed) (hpre vm₁ X₁.warmed) with ⟨v, B, X', hpost, hsteps⟩ | ⟨q, B, X', hpost, hsteps⟩
  · exact Or.inl ⟨v, vm₁, B, X₁.warmed, X', hpost, fun target h => hstep₁ _ fun acts => by rw [doInvoke_state]; exact hsteps.trans h⟩
  · exact Or.inr ⟨q, vm₁, B, X₁.warmed, X', hpost, hstep₁ _ fun acts => by rw [doInvoke_state]; exact hsteps⟩
end Calls
theorem vx_cls {s : State} {T : State} {vm₁ : Vm} {E : String} {k : ClassId} (hW : s.WarmedH vm₁) (h : (T.setVm vm₁).vm.findClass E = some k) : s.vm.findClass E = some k := by
  have h1 : vm₁.findClass E = some k := h
  rw [hW.alike.findClass] at h1
  exact h1
/-- the method's frame g, with q thrown over it -/
def vx_W (p : Program) (l : Launch) (e : Env) (R : Room) (s : State) (m : MethodId) (args : Array Value) (below : List Frame) (meth : Method) (c : Code) (H : Heap) (locs : List Loc) (cells slots : Nat) (Q : State → Prop) (g : JFrame) (q : Addr) : Prop :=
  ∀ T : State, T.heap = H → Stand p l e R s m args below meth c T locs cells slots → ∃ t, Steps p.tables e below ((T.setTop g).pushFrame (.throwing q)) t ∧ Q t
def vx_Run (p : Program) (l : Launch) (e : Env) (R : Room) (s : State) (m : MethodId) (args : Array Value) (below : List Frame) (meth : Method) (c : Code) (H : Heap) (locs : List Loc) (cells slots mc ms : Nat) (g : JFrame) (rest : List Value) (Qa : State → Outcome → State → Prop) (XC : String → State → State → Prop) (free : Addr → Prop) : Prop :=
  ∀ T : State, T.heap = H → Stand p l e R s m args below meth c T locs cells slots →
    (∃ (v : Option Value) (st₀ t T' : State) (L : List Loc), st₀.heap = H ∧ Stand p l e R s m args below meth c T' (locs ++ L) (cells + mc) (slots + ms) ∧ (∀ q ∈ L, free q.base) ∧ T'.heap = t.heap ∧ T'.vm = t.vm ∧ Qa st₀ (.returned v) t ∧
      Goes p e below T g T' { g with pc := g.pc + 3, stack := v.toList ++ rest }) ∨
    (∃ (q : Addr) (st₀ t T' : State) (L : List Loc) (E : String) (ce : Cell), st₀.heap = H ∧ Stand p l e R s m args below meth c T' (locs ++ L) (cells + mc) (slots + ms) ∧ (∀ z ∈ L, free z.base) ∧ T'.heap = t.heap ∧ T'.vm = t.vm ∧ XC E st₀ t ∧ t.heap[q]? = some ce ∧ ce.vm = .none ∧ s.vm.findClass E = some ce.cls ∧
      Steps p.tables e below (T.setTop g) ((T'.setTop { g with stack := rest }).pushFrame (.throwing q)))
def vx_X {S : Type} (px : S → Prop) (B : String → S → State → Prop) (A : Nat → Prop) : String → State → State → Prop := fun E st t => ∃ u : S, px u ∧ B E u t ∧ va_F A st t
section Runs
variable {p : Program} {l : Launch} {e : Env} {R : Room} {s : State} {m : MethodId} {args : Array Value} {below : List Frame} {meth : Method} {c : Code} {H : Heap} {locs : List Loc} {cells slots : Nat}
variable {y : MethodName} {bytes cc : ByteArray} {maxL nL mc ms n index : Nat} {ret : Option FieldType} {ws : List Cond} {rm : Room} {Pc : Array Value → State → Prop} {Qc : Array Value → State → Outcome → State → Prop} {XC : String → State → State → Prop} {free : Addr → Prop} {Ts : List Cond} {own C : String} {b : Addr} {As rest : List Value} {g : JFrame}
theorem vx_callBack (cb : CallB R s args own index y bytes maxL ret ws rm mc ms n) (hM : vx_Met l y ws rm Pc Qc XC mc ms free) (hbl : FrameBlind Pc) : vx_Back l R p e below s args y 3 8 (PreOf R mc ms Pc) (PostOf Qc mc ms free) (vx_Post XC mc ms free) := by
  obtain ⟨hrc, hrs, hfr, hlo, hws, hcw, -, hini, -⟩ := cb
  exact vx_back (bytes := bytes) (maxL := maxL) (ret := ret) hM hbl hrc hrs hfr hlo hws hcw (fun a' U hW => word_at hW (Or.inl (by first | rfl | simp [Cond.onTables, Cond.keeps, Cond.steady])) hini)
theorem vx_runV (S : CallFix p m c cc nL s args Ts own) (hM : vx_Met l y ws rm Pc Qc XC mc ms free) (cw : CallW R s args own C index y bytes maxL ret ws rm mc ms n) (hp : PreV s H C b Pc As)
    (hg : g.method = m) (hn : As.length = n) (hsize : g.locals.size = nL) (hstack : g.stack = As.reverse ++ .ref b :: rest) (hW : 2 * g.monitorRoom + (rest.map fun v => v.category).sum ≤ 8) (hdg : decode cc g.pc = .ok (.invokevirtual index, 3)) (hf : cells + mc ≤ R.cells ∧ slots + ms ≤ R.slots) :
    vx_Run p l e R s m args below meth c H locs cells slots mc ms g rest (Qc (Value.ref b :: As).toArray) XC free := by
  have hK : vx_Back l R p e below s args y 3 8 (PreOf R mc ms Pc) (PostOf Qc mc ms free) (vx_Post XC mc ms free) := vx_callBack cw.1 hM hp.1
  obtain ⟨⟨-, -, -, -, -, -, hcode, -, hy, hlen, hl⟩, hin, hse⟩ := cw
  obtain ⟨hx, hb, hml, ho, -⟩ := S
  obtain ⟨-, ⟨cellB, hcB, hoB, hclB⟩, hPc⟩ := hp
  intro T hT X
  rcases vx_callV X hx (C := C) (bytes := bytes) (maxL := maxL) (ret := ret) ho hl hin hse hcode hy hK (by rw [hT]; exact hcB) hoB hclB hg (hsize.trans hml.symm) (argsL := As) (rest := rest) (fun sig h => hn.trans (hlen sig h)) hstack hW (by rw [hb]; exact hdg)
    (fun vm₁ hW₁ => ⟨hf.1, hf.2, hPc (T.setVm vm₁) hT hW₁⟩) with ⟨v, vm₁, ⟨U', l2, c2, s2⟩, hW₁, X', ⟨g', mk, t, L, e1, e2, hq, h1, hL, h2, h3⟩, st⟩ | ⟨q, vm₁, ⟨U', l2, c2, s2⟩, hW₁, X', ⟨g', mk, t, L, E, ce, e1, e2, hq, hce, hcv, hcl, h1, hL, h2, h3⟩, st⟩
  · dsimp only [Pt.U, Pt.locs, Pt.cells, Pt.slots] at X' e1 e2 h1 h2 h3 st
    subst h1; subst h2; subst h3
    exact Or.inl ⟨v, (T.setVm vm₁).calling g' mk (Value.ref b :: As).toArray, t, U', L, hT, X', hL, e1, e2, hq, st⟩
  · dsimp only [Pt.U, Pt.locs, Pt.cells, Pt.slots] at X' e1 e2 h1 h2 h3 st hcl
    subst h1; subst h2; subst h3
    exact Or.inr ⟨q, (T.setVm vm₁).calling g' mk (Value.ref b :: As).toArray, t, U', L, E, ce, hT, X', hL, e1, e2, hq, hce, hcv, vx_cls hW₁ hcl, st⟩
theorem vx_runS (S : CallFix p m c cc nL s args Ts own) (hM : vx_Met l y ws rm Pc Qc XC mc ms free) (cw : CallB R s args own index y bytes maxL ret ws rm mc ms n ∧ (Cond.static y).before args s = true) (hp : PreS s H Pc As)
    (hg : g.method = m) (hn : As.length = n) (hsize : g.locals.size = nL) (hstack : g.stack = As.reverse ++ rest) (hW : 2 * g.monitorRoom + (rest.map fun v => v.category).sum ≤ 8) (hdg : decode cc g.pc = .ok (.invokestatic index, 3)) (hf : cells + mc ≤ R.cells ∧ slots + ms ≤ R.slots) :
    vx_Run p l e R s m args below meth c H locs cells slots mc ms g rest (Qc As.toArray) XC free := by
  have hK : vx_Back l R p e below s args y 3 8 (PreOf R mc ms Pc) (PostOf Qc mc ms free) (vx_Post XC mc ms free) := vx_callBack cw.1 hM hp.1
  obtain ⟨⟨-, -, -, -, -, -, hcode, hini, hy, hlen, hl⟩, hstt⟩ := cw
  obtain ⟨hx, hb, hml, ho, -⟩ := S
  intro T hT X
  rcases vx_callS X hx (bytes := bytes) (maxL := maxL) (ret := ret) ho hl hstt hini hcode hy hK hg (hsize.trans hml.symm) (argsL := As) (rest := rest) (fun sig h => hn.trans (hlen sig h)) hstack hW (by rw [hb]; exact hdg)
    (fun vm₁ hW₁ => ⟨hf.1, hf.2, hp.2 (T.setVm vm₁) hT hW₁⟩) with ⟨v, vm₁, ⟨U', l2, c2, s2⟩, hW₁, X', ⟨g', mk, t, L, e1, e2, hq, h1, hL, h2, h3⟩, st⟩ | ⟨q, vm₁, ⟨U', l2, c2, s2⟩, hW₁, X', ⟨g', mk, t, L, E, ce, e1, e2, hq, hce, hcv, hcl, h1, hL, h2, h3⟩, st⟩
  · dsimp only [Pt.U, Pt.locs, Pt.cells, Pt.slots] at X' e1 e2 h1 h2 h3 st
    subst h1; subst h2; subst h3
    exact Or.inl ⟨v, (T.setVm vm₁).calling g' mk As.toArray, t, U', L, hT, X', hL, e1, e2, hq, st⟩
  · dsimp only [Pt.U, Pt.locs, Pt.cells, Pt.slots] at X' e1 e2 h1 h2 h3 st hcl
    subst h1; subst h2; subst h3
    exact Or.inr ⟨q, (T.setVm vm₁).calling g' mk As.toArray, t, U', L, E, ce, hT, X', hL, e1, e2, hq, hce, hcv, vx_cls hW₁ hcl, st⟩
end Runs
section Rows
variable {p : Program} {l : Launch} {e : Env} {R : Room} {s : State} {m : MethodId} {args : Array Value} {below : List Frame} {meth : Method} {c : Code} {H : Heap} {locs : List Loc} {cells slots : Nat} {Q : State → Prop}
variable {mc ms : Nat} {free : Addr → Prop} {A0 A1 : Nat → Prop} {H0 : Heap} {a : Array Value} {pc : Nat} {ls : Array Slot} {st0 rest : List Value}
theorem vx_keep {st₀ t T' : State} {L : List Loc} (h0 : st₀.heap = H) (e1 : T'.heap = t.heap) (hS : va_S A0 H0 H locs) (hA : ∀ q, q < H.size → A1 q → A0 q) (hf : ∀ q, free q → A0 q) (hL : ∀ q ∈ L, free q.base) (hF : va_F A1 st₀ t) :
    H.size ≤ T'.heap.size ∧ (∀ q : Nat, q < H.size → ¬ A1 q → T'.heap[q]? = H[q]?) ∧ va_S A0 H0 T'.heap (locs ++ L) := by
  obtain ⟨hz, hk⟩ := hF
  rw [h0] at hz hk
  exact ⟨by rw [e1]; exact hz, fun q h1 h2 => by rw [e1]; exact hk q h1 h2,
    ⟨Nat.le_trans hS.1 (by rw [e1]; exact hz), fun q h1 h2 => by rw [e1, hk q (Nat.lt_of_lt_of_le h1 hS.1) (fun z => h2 (hA q (Nat.lt_of_lt_of_le h1 hS.1) z))]; exact hS.2.1 q h1 h2, fun q hq => by
      rcases List.mem_append.mp hq with h | h
      · exact hS.2.2 q h
      · exact hf _ (hL q h)⟩⟩
theorem vx_calli {S SX : Type} {post : Int32 → S → Prop} {px : SX → Prop} {B : S → State → Prop} {BX : String → SX → State → Prop} {AX : Nat → Prop} (hr : vx_Run p l e R s m args below meth c H locs cells slots mc ms (F0 m pc ls st0) rest (va_Qi post B A1 a) (vx_X px BX AX) free) (hS : va_S A0 H0 H locs) (hA : ∀ q, q < H.size → A1 q → A0 q) (hf : ∀ q, free q → A0 q) (hAX : ∀ q, q < H.size → AX q → A0 q)
    (kx : ∀ (E : String) (ce : Cell) (q9 : Addr) (u : SX) (t : State) (H1 : Heap) (locs1 : List Loc), t.heap = H1 → s.vm.Alike t.vm → px u → BX E u t → H.size ≤ H1.size → (∀ q : Nat, q < H.size → ¬ AX q → H1[q]? = H[q]?) → va_S A0 H0 H1 locs1 → H1[q9]? = some ce → ce.vm = .none → s.vm.findClass E = some ce.cls → vx_W p l e R s m args below meth c H1 locs1 (cells + mc) (slots + ms) Q (F0 m pc ls rest) q9)
    (kk : ∀ (r : Int32) (u : S) (t : State) (H1 : Heap) (locs1 : List Loc), t.heap = H1 → s.vm.Alike t.vm → post r u → B u t → H.size ≤ H1.size → (∀ q : Nat, q < H.size → ¬ A1 q → H1[q]? = H[q]?) → va_S A0 H0 H1 locs1 → W p l e R s m args below meth c H1 locs1 (cells + mc) (slots + ms) Q (F0 m (pc + 3) ls (.int r :: rest))) : W p l e R s m args below meth c H locs cells slots Q (F0 m pc ls st0) := by
  intro T hT X
  rcases hr T hT X with ⟨v, st₀, t, T', L, h0, X', hL, e1, e2, ⟨⟨r, u, hv, hp, hb⟩, hF⟩, st⟩ | ⟨q, st₀, t, T', L, E, ce, h0, X', hL, e1, e2, ⟨u, hp, hb, hF⟩, hce, hcv, hcl, st⟩
  · cases hv
    obtain ⟨k1, k2, k3⟩ := vx_keep h0 e1 hS hA hf hL hF
    obtain ⟨t2, a1, b1⟩ := kk r u t T'.heap (locs ++ L) e1.symm (by rw [← e2]; exact X'.warmed.alike) hp hb k1 k2 k3 T' rfl X'
    exact ⟨t2, st t2 a1, b1⟩
  · obtain ⟨k1, k2, k3⟩ := vx_keep h0 e1 hS hAX hf hL hF
    obtain ⟨t2, a1, b1⟩ := kx E ce q u t T'.heap (locs ++ L) e1.symm (by rw [← e2]; exact X'.warmed.alike) hp hb k1 k2 k3 (by rw [e1]; exact hce) hcv hcl T' rfl X'
    exact ⟨t2, st.trans a1, b1⟩
theorem vx_calll {S SX : Type} {post : Int64 → S → Prop} {px : SX → Prop} {B : S → State → Prop} {BX : String → SX → State → Prop} {AX : Nat → Prop} (hr : vx_Run p l e R s m args below meth c H locs cells slots mc ms (F0 m pc ls st0) rest (va_Ql post B A1 a) (vx_X px BX AX) free) (hS : va_S A0 H0 H locs) (hA : ∀ q, q < H.size → A1 q → A0 q) (hf : ∀ q, free q → A0 q) (hAX : ∀ q, q < H.size → AX q → A0 q)
    (kx : ∀ (E : String) (ce : Cell) (q9 : Addr) (u : SX) (t : State) (H1 : Heap) (locs1 : List Loc), t.heap = H1 → s.vm.Alike t.vm → px u → BX E u t → H.size ≤ H1.size → (∀ q : Nat, q < H.size → ¬ AX q → H1[q]? = H[q]?) → va_S A0 H0 H1 locs1 → H1[q9]? = some ce → ce.vm = .none → s.vm.findClass E = some ce.cls → vx_W p l e R s m args below meth c H1 locs1 (cells + mc) (slots + ms) Q (F0 m pc ls rest) q9)
    (kk : ∀ (r : Int64) (u : S) (t : State) (H1 : Heap) (locs1 : List Loc), t.heap = H1 → s.vm.Alike t.vm → post r u → B u t → H.size ≤ H1.size → (∀ q : Nat, q < H.size → ¬ A1 q → H1[q]? = H[q]?) → va_S A0 H0 H1 locs1 → W p l e R s m args below meth c H1 locs1 (cells + mc) (slots + ms) Q (F0 m (pc + 3) ls (.long r :: rest))) : W p l e R s m args below meth c H locs cells slots Q (F0 m pc ls st0) := by
  intro T hT X
  rcases hr T hT X with ⟨v, st₀, t, T', L, h0, X', hL, e1, e2, ⟨⟨r, u, hv, hp, hb⟩, hF⟩, st⟩ | ⟨q, st₀, t, T', L, E, ce, h0, X', hL, e1, e2, ⟨u, hp, hb, hF⟩, hce, hcv, hcl, st⟩
  · cases hv
    obtain ⟨k1, k2, k3⟩ := vx_keep h0 e1 hS hA hf hL hF
    obtain ⟨t2, a1, b1⟩ := kk r u t T'.heap (locs ++ L) e1.symm (by rw [← e2]; exact X'.warmed.alike) hp hb k1 k2 k3 T' rfl X'
    exact ⟨t2, st t2 a1, b1⟩
  · obtain ⟨k1, k2, k3⟩ := vx_keep h0 e1 hS hAX hf hL hF
    obtain ⟨t2, a1, b1⟩ := kx E ce q u t T'.heap (locs ++ L) e1.symm (by rw [← e2]; exact X'.warmed.alike) hp hb k1 k2 k3 (by rw [e1]; exact hce) hcv hcl T' rfl X'
    exact ⟨t2, st.trans a1, b1⟩
theorem vx_callf {S SX : Type} {post : UInt32 → S → Prop} {px : SX → Prop} {B : S → State → Prop} {BX : String → SX → State → Prop} {AX : Nat → Prop} (hr : vx_Run p l e R s m args below meth c H locs cells slots mc ms (F0 m pc ls st0) rest (va_Qf post B A1 a) (vx_X px BX AX) free) (hS : va_S A0 H0 H locs) (hA : ∀ q, q < H.size → A1 q → A0 q) (hf : ∀ q, free q → A0 q) (hAX : ∀ q, q < H.size → AX q → A0 q)
    (kx : ∀ (E : String) (ce : Cell) (q9 : Addr) (u : SX) (t : State) (H1 : Heap) (locs1 : List Loc), t.heap = H1 → s.vm.Alike t.vm → px u → BX E u t → H.size ≤ H1.size → (∀ q : Nat, q < H.size → ¬ AX q → H1[q]? = H[q]?) → va_S A0 H0 H1 locs1 → H1[q9]? = some ce → ce.vm = .none → s.vm.findClass E = some ce.cls → vx_W p l e R s m args below meth c H1 locs1 (cells + mc) (slots + ms) Q (F0 m pc ls rest) q9)
    (kk : ∀ (r : UInt32) (u : S) (t : State) (H1 : Heap) (locs1 : List Loc), t.heap = H1 → s.vm.Alike t.vm → post r u → B u t → H.size ≤ H1.size → (∀ q : Nat, q < H.size → ¬ A1 q → H1[q]? = H[q]?) → va_S A0 H0 H1 locs1 → W p l e R s m args below meth c H1 locs1 (cells + mc) (slots + ms) Q (F0 m (pc + 3) ls (.float r :: rest))) : W p l e R s m args below meth c H locs cells slots Q (F0 m pc ls st0) := by
  intro T hT X
  rcases hr T hT X with ⟨v, st₀, t, T', L, h0, X', hL, e1, e2, ⟨⟨r, u, hv, hp, hb⟩, hF⟩, st⟩ | ⟨q, st₀, t, T', L, E, ce, h0, X', hL, e1, e2, ⟨u, hp, hb, hF⟩, hce, hcv, hcl, st⟩
  · cases hv
    obtain ⟨k1, k2, k3⟩ := vx_keep h0 e1 hS hA hf hL hF
    obtain ⟨t2, a1, b1⟩ := kk r u t T'.heap (locs ++ L) e1.symm (by rw [← e2]; exact X'.warmed.alike) hp hb k1 k2 k3 T' rfl X'
    exact ⟨t2, st t2 a1, b1⟩
  · obtain ⟨k1, k2, k3⟩ := vx_keep h0 e1 hS hAX hf hL hF
    obtain ⟨t2, a1, b1⟩ := kx E ce q u t T'.heap (locs ++ L) e1.symm (by rw [← e2]; exact X'.warmed.alike) hp hb k1 k2 k3 (by rw [e1]; exact hce) hcv hcl T' rfl X'
    exact ⟨t2, st.trans a1, b1⟩
theorem vx_calld {S SX : Type} {post : UInt64 → S → Prop} {px : SX → Prop} {B : S → State → Prop} {BX : String → SX → State → Prop} {AX : Nat → Prop} (hr : vx_Run p l e R s m args below meth c H locs cells slots mc ms (F0 m pc ls st0) rest (va_Qd post B A1 a) (vx_X px BX AX) free) (hS : va_S A0 H0 H locs) (hA : ∀ q, q < H.size → A1 q → A0 q) (hf : ∀ q, free q → A0 q) (hAX : ∀ q, q < H.size → AX q → A0 q)
    (kx : ∀ (E : String) (ce : Cell) (q9 : Addr) (u : SX) (t : State) (H1 : Heap) (locs1 : List Loc), t.heap = H1 → s.vm.Alike t.vm → px u → BX E u t → H.size ≤ H1.size → (∀ q : Nat, q < H.size → ¬ AX q → H1[q]? = H[q]?) → va_S A0 H0 H1 locs1 → H1[q9]? = some ce → ce.vm = .none → s.vm.findClass E = some ce.cls → vx_W p l e R s m args below meth c H1 locs1 (cells + mc) (slots + ms) Q (F0 m pc ls rest) q9)
    (kk : ∀ (r : UInt64) (u : S) (t : State) (H1 : Heap) (locs1 : List Loc), t.heap = H1 → s.vm.Alike t.vm → post r u → B u t → H.size ≤ H1.size → (∀ q : Nat, q < H.size → ¬ A1 q → H1[q]? = H[q]?) → va_S A0 H0 H1 locs1 → W p l e R s m args below meth c H1 locs1 (cells + mc) (slots + ms) Q (F0 m (pc + 3) ls (.double r :: rest))) : W p l e R s m args below meth c H locs cells slots Q (F0 m pc ls st0) := by
  intro T hT X
  rcases hr T hT X with ⟨v, st₀, t, T', L, h0, X', hL, e1, e2, ⟨⟨r, u, hv, hp, hb⟩, hF⟩, st⟩ | ⟨q, st₀, t, T', L, E, ce, h0, X', hL, e1, e2, ⟨u, hp, hb, hF⟩, hce, hcv, hcl, st⟩
  · cases hv
    obtain ⟨k1, k2, k3⟩ := vx_keep h0 e1 hS hA hf hL hF
    obtain ⟨t2, a1, b1⟩ := kk r u t T'.heap (locs ++ L) e1.symm (by rw [← e2]; exact X'.warmed.alike) hp hb k1 k2 k3 T' rfl X'
    exact ⟨t2, st t2 a1, b1⟩
  · obtain ⟨k1, k2, k3⟩ := vx_keep h0 e1 hS hAX hf hL hF
    obtain ⟨t2, a1, b1⟩ := kx E ce q u t T'.heap (locs ++ L) e1.symm (by rw [← e2]; exact X'.warmed.alike) hp hb k1 k2 k3 (by rw [e1]; exact hce) hcv hcl T' rfl X'
    exact ⟨t2, st.trans a1, b1⟩
theorem vx_callv {S SX : Type} {post : S → Prop} {px : SX → Prop} {B : S → State → Prop} {BX : String → SX → State → Prop} {AX : Nat → Prop} (hr : vx_Run p l e R s m args below meth c H locs cells slots mc ms (F0 m pc ls st0) rest (va_Qv post B A1 a) (vx_X px BX AX) free) (hS : va_S A0 H0 H locs) (hA : ∀ q, q < H.size → A1 q → A0 q) (hf : ∀ q, free q → A0 q) (hAX : ∀ q, q < H.size → AX q → A0 q)
    (kx : ∀ (E : String) (ce : Cell) (q9 : Addr) (u : SX) (t : State) (H1 : Heap) (locs1 : List Loc), t.heap = H1 → s.vm.Alike t.vm → px u → BX E u t → H.size ≤ H1.size → (∀ q : Nat, q < H.size → ¬ AX q → H1[q]? = H[q]?) → va_S A0 H0 H1 locs1 → H1[q9]? = some ce → ce.vm = .none → s.vm.findClass E = some ce.cls → vx_W p l e R s m args below meth c H1 locs1 (cells + mc) (slots + ms) Q (F0 m pc ls rest) q9)
    (kk : ∀ (u : S) (t : State) (H1 : Heap) (locs1 : List Loc), t.heap = H1 → s.vm.Alike t.vm → post u → B u t → H.size ≤ H1.size → (∀ q : Nat, q < H.size → ¬ A1 q → H1[q]? = H[q]?) → va_S A0 H0 H1 locs1 → W p l e R s m args below meth c H1 locs1 (cells + mc) (slots + ms) Q (F0 m (pc + 3) ls (rest))) : W p l e R s m args below meth c H locs cells slots Q (F0 m pc ls st0) := by
  intro T hT X
  rcases hr T hT X with ⟨v, st₀, t, T', L, h0, X', hL, e1, e2, ⟨⟨u, hv, hp, hb⟩, hF⟩, st⟩ | ⟨q, st₀, t, T', L, E, ce, h0, X', hL, e1, e2, ⟨u, hp, hb, hF⟩, hce, hcv, hcl, st⟩
  · cases hv
    obtain ⟨k1, k2, k3⟩ := vx_keep h0 e1 hS hA hf hL hF
    obtain ⟨t2, a1, b1⟩ := kk u t T'.heap (locs ++ L) e1.symm (by rw [← e2]; exact X'.warmed.alike) hp hb k1 k2 k3 T' rfl X'
    exact ⟨t2, st t2 a1, b1⟩
  · obtain ⟨k1, k2, k3⟩ := vx_keep h0 e1 hS hAX hf hL hF
    obtain ⟨t2, a1, b1⟩ := kx E ce q u t T'.heap (locs ++ L) e1.symm (by rw [← e2]; exact X'.warmed.alike) hp hb k1 k2 k3 (by rw [e1]; exact hce) hcv hcl T' rfl X'
    exact ⟨t2, st.trans a1, b1⟩
/-- caught by the row x of this method's table; the rows ahead don't take it -/
theorem vx_catch {own name : String} {E : String} {ce : Cell} {q : Addr} (hown : s.vm.findClass own = some m.cls) (pre : List ExceptionTableEntry) (x : ExceptionTableEntry) (suf : List ExceptionTableEntry) (hsplit : c.exceptionTable.toList = pre ++ x :: suf)
    (hpass : ∀ z ∈ pre, covers z pc = false ∨ (z.catchType ≠ 0 ∧ ∃ nm : String, (Cond.classLink own z.catchType nm).before args s = true ∧ va_Nc E nm s)) (hx : covers x pc = true) (h0 : x.catchType ≠ 0)
    (hlink : (Cond.classLink own x.catchType name).before args s = true) (hcast : (Cond.castable E name).before args s = true) (hcell : H[q]? = some ce) (hv : ce.vm = .none) (hcl : s.vm.findClass E = some ce.cls)
    (kk : W p l e R s m args below meth c H locs cells slots Q (F0 m x.handlerPc ls [.ref q])) : vx_W p l e R s m args below meth c H locs cells slots Q (F0 m pc ls rest) q := by
  intro T hT X
  have hpl : e.platform.magicAccessors = ({} : Platform).magicAccessors := by rw [X.admits.platform]
  obtain ⟨c3, c4, hc3, hc4, hasg⟩ := Cond.castable_spec hcast
  cases Option.some.inj (hc3.symm.trans hcl)
  obtain ⟨c5, hc5, hcl5⟩ := Cond.classLink_spec hown hlink e.platform hpl
  cases Option.some.inj (hc4.symm.trans hc5)
  obtain ⟨vm', X', st⟩ := X.thenCaughtThrough q (g := F0 m pc ls rest) rfl (Steps.refl _) (by rw [hT]; exact hcell) (by rw [hv]; rfl) (by obtain ⟨k9, h9, -⟩ := Vm.findClass_spec hcl; exact ⟨k9, h9⟩) pre x suf hsplit
    (fun z hz => by
      rcases hpass z hz with h | ⟨hz0, nm, hl1, hn1⟩
      · exact Or.inl h
      · obtain ⟨c6, hc6, hcl6⟩ := Cond.classLink_spec hown hl1 e.platform hpl
        obtain ⟨a8, b8, h1, h2, h3⟩ := hn1
        cases Option.some.inj (h1.symm.trans hcl)
        cases Option.some.inj (h2.symm.trans hc6)
        exact Or.inr ⟨hz0, _, hcl6, h3⟩) hx (Or.inr ⟨h0, c4, hcl5, hasg⟩)
  obtain ⟨t, a1, b1⟩ := kk (T.setVm vm') hT X'
  exact ⟨t, st.trans a1, b1⟩
end Rows
section Ends
variable {p : Program} {l : Launch} {e : Env} {R : Room} {s : State} {m : MethodId} {args : Array Value} {below : List Frame} {meth : Method} {c : Code} {H : Heap} {locs : List Loc} {cells slots : Nat} {Q : State → Prop}
variable {mc ms : Nat} {free : Addr → Prop} {A0 A1 : Nat → Prop} {H0 : Heap} {a : Array Value} {ls : Array Slot} {st0 rest : List Value}
variable {Qc : Array Value → State → Outcome → State → Prop} {XC : String → State → State → Prop}
/-- what a body that may throw owes at its end -/
def vx_MQ (below : List Frame) (Qc : Array Value → State → Outcome → State → Prop) (XC : String → State → State → Prop) (a : Array Value) (s : State) (mc ms : Nat) (free : Addr → Prop) : State → Prop := fun t =>
  ∃ o, t.status = .running ∧ Ended t below o ∧ vx_Q Qc XC mc ms free a s o t
theorem vx_ret {g : JFrame} {mc ms : Nat} (k : W p l e R s m args below meth c H locs cells slots (MQ below Qc args s mc ms free) g) : W p l e R s m args below meth c H locs cells slots (vx_MQ below Qc XC args s mc ms free) g := by
  intro T hT X
  obtain ⟨t, a1, o, b1, b2, b3, b4⟩ := k T hT X
  exact ⟨t, a1, o, b1, b2, Or.inl ⟨b3, b4⟩⟩
/-- not caught here: it goes on to the caller -/
theorem vx_widen {g : JFrame} {q : Addr} {k n : Nat} (h1 : cells ≤ k) (h2 : slots ≤ n) (kk : vx_W p l e R s m args below meth c H locs k n Q g q) : vx_W p l e R s m args below meth c H locs cells slots Q g q := fun T hT X => kk T hT (stand_widen X h1 h2)
theorem vx_out {pc : Nat} {E : String} {ce : Cell} {q : Addr} {mc ms : Nat} (hout : ∀ x ∈ c.exceptionTable.toList, covers x pc = false) (hlocks : meth.locks = false) (hcell : H[q]? = some ce) (hv : ce.vm = .none) (hcl : s.vm.findClass E = some ce.cls)
    (hx : ∀ t : State, t.heap = H → s.vm.Alike t.vm → XC E s t) (hf : ∀ z ∈ locs, free z.base) (hc : cells ≤ mc) (hs : slots ≤ ms) :
    vx_W p l e R s m args below meth c H locs cells slots (vx_MQ below Qc XC args s mc ms free) (F0 m pc ls rest) q := by
  intro T hT X
  obtain ⟨st1, hrun, hend, hW, hsm⟩ := X.leaveThrown q (g := F0 m pc ls rest) rfl rfl rfl hout hlocks
  have hcell9 : (T.setFrames (.throwing q :: below)).heap[q]? = some ce := by
    show T.heap[q]? = some ce
    rw [hT]; exact hcell
  exact ⟨_, st1, .threw q, hrun, hend, Or.inr ⟨q, rfl, E, ce, locs, hx _ hT hW.alike, hcell9, hv, hcl, hW, hsm.mono hc hs, hf⟩⟩
theorem vx_frame {U : State} {k n : Nat} (h : s.sameButNew ({ U with vm := s.vm } : State) locs k n) : s.heap.size ≤ U.heap.size ∧ ∀ q : Nat, q < s.heap.size → (∀ z ∈ locs, z.base ≠ q) → U.heap[q]? = s.heap[q]? := by
  obtain ⟨-, h2, -, -, -, h6⟩ := h
  refine ⟨h2, fun q hq hz => ?_⟩
  obtain ⟨c9, e1, e2, e3, e4⟩ := h6 q _ (Array.getElem?_eq_getElem hq)
  have hs : c9.slots = (s.heap[q]).slots := Array.ext_getElem? fun i => e4 i fun hm => hz _ hm rfl
  have h9 : c9 = s.heap[q] := by
    rw [hs] at e2
    exact e2
  have e5 : U.heap[q]? = some c9 := e1
  rw [e5, h9, Array.getElem?_eq_getElem hq]
/-- the words of a throw but the four that speak of the heap -/
def vx_no (w : Cond) : Bool := decide (w ≠ .isRef (.static Bundle.tN "UNASSIGNED_STACK" Bundle.steD)) && decide (w ≠ .isRef (.static Bundle.tN "SUPPRESSED_SENTINEL" Bundle.listD)) && decide (w ≠ .laysStatic Bundle.tN "UNASSIGNED_STACK" Bundle.steD) && decide (w ≠ .laysStatic Bundle.tN "SUPPRESSED_SENTINEL" Bundle.listD)
def vx_at0 (own : String) (ic : Nat) (X : String) (names : List String) : List Cond := (Bundle.ownAtoms0 own ic X names).filter vx_no
def vx_atS (own : String) (ic : Nat) (X : String) (names : List String) : List Cond := (Bundle.ownAtoms own ic X names).filter vx_no
/-- a word that the tables alone decide, or a good one -/
def vx_ot (w : Cond) : Bool := w.onTables || goodWord w
theorem vx_ot_at {args a' : Array Value} {s U : State} {w : Cond} (hW : s.WarmedH U.vm) (hvm : s.vm = U.vm) (hg : vx_ot w = true) (h : w.before args s = true) : w.before a' U = true := by
  simp only [vx_ot, Bool.or_eq_true] at hg
  rcases hg with hg | hg
  · exact va_tabs hg hvm h
  · exact word_at hW (good_of_word hg) h
/-- a list's words: the good ones out of the method's own list, the others by premises of their own -/
theorem vx_hat {args : Array Value} {s : State} {L B : List Cond} (h1 : ∀ w ∈ L.filter goodWord, w.before args s = true) (h2 : ∀ w ∈ L.filter (fun w => !goodWord w), w ∈ B) (h3 : ∀ w ∈ B, w.before args s = true) : ∀ w ∈ L, w.before args s = true := by
  intro w hw
  by_cases g : goodWord w = true
  · exact h1 w (List.mem_filter.mpr ⟨hw, g⟩)
  · refine h3 w (h2 w (List.mem_filter.mpr ⟨hw, ?_⟩))
    show (!goodWord w) = true
    cases hgw : goodWord w
    · rfl
    · exact absurd hgw g
theorem vx_c {args : Array Value} {s : State} {w : Cond} {B : List Cond} (h : w.before args s = true) (t : ∀ w ∈ B, w.before args s = true) : ∀ w' ∈ w :: B, w'.before args s = true := fun w' h' => (List.mem_cons.mp h').elim (fun e => by rw [e]; exact h) (t w')
theorem vx_n {args : Array Value} {s : State} : ∀ w ∈ ([] : List Cond), w.before args s = true := fun _ h => nomatch h
theorem vx_own {args : Array Value} {s : State} {L : List Cond} (h1 : ∀ w ∈ L.filter vx_no, w.before args s = true)
    (hU : (Cond.isRef (.static Bundle.tN "UNASSIGNED_STACK" Bundle.steD)).before args s = true) (hN : (Cond.isRef (.static Bundle.tN "SUPPRESSED_SENTINEL" Bundle.listD)).before args s = true)
    (lU : (Cond.laysStatic Bundle.tN "UNASSIGNED_STACK" Bundle.steD).before args s = true) (lN : (Cond.laysStatic Bundle.tN "SUPPRESSED_SENTINEL" Bundle.listD).before args s = true) : ∀ w ∈ L, w.before args s = true := by
  intro w hw
  by_cases e1 : w = .isRef (.static Bundle.tN "UNASSIGNED_STACK" Bundle.steD)
  · rw [e1]; exact hU
  · by_cases e2 : w = .isRef (.static Bundle.tN "SUPPRESSED_SENTINEL" Bundle.listD)
    · rw [e2]; exact hN
    · by_cases e3 : w = .laysStatic Bundle.tN "UNASSIGNED_STACK" Bundle.steD
      · rw [e3]; exact lU
      · by_cases e4 : w = .laysStatic Bundle.tN "SUPPRESSED_SENTINEL" Bundle.listD
        · rw [e4]; exact lN
        · exact h1 w (List.mem_filter.mpr ⟨hw, by unfold vx_no; rw [decide_eq_true e1, decide_eq_true e2, decide_eq_true e3, decide_eq_true e4]; rfl⟩)
/-- where a static field lies, its class's statics cell in H -/
def vx_L (C n d : String) (A : Nat → Prop) (U : State) (H : Heap) : Prop := ∃ (c : ClassId) (k : Class) (i : Nat) (f : Field) (a : Nat) (cell : Cell), U.vm.findClass C = some c ∧ U.fieldFound? C n d = some (c, k, i, f) ∧ f.isStatic = true ∧ k.statics = some a ∧ H[a]? = some cell ∧ cell.vm.isStatics = true ∧ cell.cls = c ∧ f.slot < cell.slots.size ∧ k.staticTypes[f.slot]? = some f.type ∧ ¬ A a
theorem vx_L.moved {C n d : String} {A : Nat → Prop} {u U : State} {H : Heap} (hvm : u.vm.Alike U.vm) (h : vx_L C n d A u H) : vx_L C n d A U H := by
  obtain ⟨c, k, i, f, a, cell, h1, h2, h3, h4, h5, h6, h7, h8, h9, h10⟩ := h
  obtain ⟨k', hi', he⟩ := State.fieldFound?_setVm hvm h2
  exact ⟨c, k', i, f, a, cell, by rw [hvm.findClass]; exact h1, hi', h3, by rw [he]; exact h4, h5, h6, h7, h8, by rw [he]; exact h9, h10⟩
theorem vx_L.kept {C n d : String} {A : Nat → Prop} {U : State} {H H1 : Heap} (h : vx_L C n d A U H) (hq : ∀ a : Nat, a < H.size → ¬ A a → H1[a]? = H[a]?) : vx_L C n d A U H1 := by
  obtain ⟨c, k, i, f, a, cell, h1, h2, h3, h4, h5, h6, h7, h8, h9, h10⟩ := h
  exact ⟨c, k, i, f, a, cell, h1, h2, h3, h4, by rw [hq a (Array.getElem?_eq_some_iff.mp h5).1 h10]; exact h5, h6, h7, h8, h9, h10⟩
theorem vx_L.narrow {C n d : String} {A B : Nat → Prop} {U : State} {H : Heap} (h : vx_L C n d A U H) (hAB : ∀ q, B q → A q) : vx_L C n d B U H := by
  obtain ⟨c, k, i, f, a, cell, h1, h2, h3, h4, h5, h6, h7, h8, h9, h10⟩ := h
  exact ⟨c, k, i, f, a, cell, h1, h2, h3, h4, h5, h6, h7, h8, h9, fun z => h10 (hAB _ z)⟩
theorem vx_L.word {C n d : String} {A : Nat → Prop} {s : State} {args : Array Value} (h : vx_L C n d A s s.heap) : (Cond.laysStatic C n d).before args s = true := by
  obtain ⟨c, k, i, f, a, cell, h1, h2, h3, h4, h5, h6, h7, h8, h9, -⟩ := h
  show (Cond.laysStatic C n d).holds args s none s [] = true
  exact Cond.laysStatic_of h1 h2 h3 h4 h5 h6 h7 h8 h9
/-- .. and what it holds: null or some reference -/
def vx_Zq (C n d : String) (A : Nat → Prop) (U : State) (H : Heap) : Prop := va_Zq C n d A U H ∧ vx_L C n d A U H
theorem vx_Zq.moved {C n d : String} {A : Nat → Prop} {u U : State} {H : Heap} (hvm : u.vm.Alike U.vm) (h : vx_Zq C n d A u H) : vx_Zq C n d A U H := ⟨va_Zq.moved hvm h.1, vx_L.moved hvm h.2⟩
theorem vx_Zq.kept {C n d : String} {A : Nat → Prop} {U : State} {H H1 : Heap} (h : vx_Zq C n d A U H) (hq : ∀ a : Nat, a < H.size → ¬ A a → H1[a]? = H[a]?) : vx_Zq C n d A U H1 := ⟨va_Zq.kept h.1 hq, vx_L.kept h.2 hq⟩
theorem vx_Zq.narrow {C n d : String} {A B : Nat → Prop} {U : State} {H : Heap} (h : vx_Zq C n d A U H) (hAB : ∀ q, B q → A q) : vx_Zq C n d B U H := ⟨va_Zq.narrow h.1 hAB, vx_L.narrow h.2 hAB⟩
theorem vx_Zqof {args : Array Value} {s : State} {C n d : String} {A : Nat → Prop} (hl : (Cond.laysStatic C n d).before args s = true) (hini : (Cond.initialized C).before args s = true) (h : (Cond.isRef (.static C n d)).before args s = true) (hA : ∀ a : Nat, a < s.heap.size → ¬ A a) : vx_Zq C n d A s s.heap := by
  refine ⟨va_Zqof hl hini h hA, ?_⟩
  obtain ⟨c, k, i, f, a, cell, h1, h2, h3, h4, h5, h6, h7, h8, h9⟩ := Cond.laysStatic_spec hl
  exact ⟨c, k, i, f, a, cell, h1, h2, h3, h4, h5, h6, h7, h8, h9, hA a (Array.getElem?_eq_some_iff.mp h5).1⟩
theorem vx_isRef {C n d : String} {v : Value} {A : Nat → Prop} {s : State} {args : Array Value} (h : va_Z C n d v A s s.heap) (hv : v.isRef = true) : (Cond.isRef (.static C n d)).before args s = true := by
  obtain ⟨cf, kf, fi, f, a, cell, h1, h2, h3, h4, h5, h6, h7, -⟩ := h
  have he : (Term.static C n d).eval args s none [] s = some v := by
    simp [Term.eval, State.fieldNamed?, h1, h2, h4, h5, h6, h7]
  simp only [Cond.before, Cond.holds, Cond.value, he]
  cases v <;> simp_all [Value.isRef]
theorem vx_isRefq {C n d : String} {A : Nat → Prop} {s : State} {args : Array Value} (h : va_Zq C n d A s s.heap) : (Cond.isRef (.static C n d)).before args s = true := by
  rcases h with h | ⟨t, h⟩
  · exact vx_isRef h rfl
  · exact vx_isRef h rfl
/-- the same frame, seen from here: as if the method were called anew in this heap -/
theorem vx_rebase {T : State} (X : Stand p l e R s m args below meth c T locs cells slots) {R' : Room} (hf : R'.frames ≤ R.frames) (hl : R'.locals ≤ R.locals) (hc : cells + R'.cells ≤ R.cells) (hs : slots + R'.slots ≤ R.slots) :
    Stand p l e R' ((T.setVm s.vm).setFrames (.invoking m args :: below)) m args below meth c T [] 0 0 := by
  have htop : (T.setVm s.vm).topJava?.isSome := X.here.top
  have hF : ((T.setVm s.vm).setFrames (.invoking m args :: below)).frames = .invoking m args :: below := State.frames_setFrames _ (State.cur_lt_of_top htop)
  obtain ⟨g₀, hg0⟩ := Option.isSome_iff_exists.mp htop
  obtain ⟨r, hr⟩ := State.topJava?_eq_some.mp hg0
  have hl9 : e.platform.stackLimits (T.setVm s.vm).me = e.platform.stackLimits s.me := X.limits
  have hb9 : (T.setVm s.vm).me.stackBytes = s.me.stackBytes := X.bytes
  refine ⟨X.admits, X.cas, X.clock, hF, ?_, X.hears, X.method, X.code, X.here, X.tail, X.warmed, ?_, ?_, ?_⟩
  · have h := X.room
    have hU : ((T.setVm s.vm).setFrames (.invoking m args :: below)).localsInUse = s.localsInUse := by
      rw [State.localsInUse_invoking hF (meth := meth) (c := c) X.method X.code, State.localsInUse_invoking X.frames X.method X.code]
    simp only [State.hasRoom, Bool.and_eq_true, decide_eq_true_eq] at h ⊢
    obtain ⟨⟨⟨⟨h1, h2, h3, h4, h5, h6⟩, h7⟩, h8⟩, h9⟩ := h
    rw [X.frames, List.length_cons] at h2 h3
    have q1 := X.heapSize
    have q2 := X.used
    simp only [hF, hU, List.length_cons, State.stackLimits_setFrames, State.stackBytes_setFrames, hl9, hb9]
    refine ⟨⟨⟨⟨by omega, by omega, by omega, by omega, by omega, h6⟩, ?_⟩, ?_⟩, X.book⟩
    · show T.heap.size + R'.cells ≤ e.platform.maxCells
      omega
    · show T.slotsUsed + R'.slots ≤ e.platform.maxSlots
      omega
  · rw [State.stackLimits_setFrames]; rfl
  · rw [State.stackBytes_setFrames]; rfl
  · refine ⟨?_, Nat.le_refl _, Nat.le_refl _, ?_, ?_, fun a c9 h9 => ⟨c9, h9, rfl, rfl, fun _ _ => rfl⟩⟩
    · obtain ⟨t, ht, -⟩ := State.frames_cons hr
      show T.setVm s.vm = { ((T.setVm s.vm).setFrames (.invoking m args :: below)).setFrames (T.setVm s.vm).frames with heap := T.heap, slotsUsed := T.slotsUsed }
      rw [State.setFrames_setFrames, State.setFrames_self ht]
      rfl
    · show T.slotsUsed = T.slotsUsed + ((T.heap.toList.drop T.heap.size).map (·.slots.size)).sum
      rw [List.drop_eq_nil_of_le (Nat.le_of_eq Array.length_toList)]
      rfl
    · show ((T.heap.toList.drop T.heap.size).map (·.slots.size)).sum ≤ 0
      rw [List.drop_eq_nil_of_le (Nat.le_of_eq Array.length_toList)]
      exact Nat.le_refl _
/-- 'throw new E()': new; dup; invokespecial; athrow -/
theorem vx_throw0 {cc : ByteArray} {pc : Nat} (hexec : p.tables.exec = Jvm.exec) (hb : c.code = cc) (hl : l.stackTraces = false) {own cls : String} {names : List String} {ik ic mc ms : Nat} {A : Nat → Prop}
    (hown : s.vm.findClass own = some m.cls) (hcls : Bundle.fit cls = true) (hnames : ∀ n ∈ names, Bundle.fit n = true)
    (hk : (Cond.classLink own ik cls).before args s = true) (hini : (Cond.initialized cls).before args s = true) (hat : ∀ w ∈ vx_at0 own ic cls names, w.before args s = true)
    (hgood : ∀ w ∈ Cond.classLink own ik cls :: Cond.initialized cls :: vx_at0 own ic cls names, vx_ot w = true)
    (hU : vx_Zq Bundle.tN "UNASSIGNED_STACK" Bundle.steD A s s.heap) (hN : vx_Zq Bundle.tN "SUPPRESSED_SENTINEL" Bundle.listD A s s.heap) (hS : va_S A s.heap H locs) (hsize : ls.size = c.maxLocals)
    (d0 : decode cc pc = .ok (.new ik, 3)) (d3 : decode cc (pc + 3) = .ok (.dup, 1)) (d4 : decode cc (pc + 4) = .ok (.invokespecial ic, 3)) (d7 : decode cc (pc + 7) = .ok (.athrow, 1))
    (hout : ∀ x ∈ c.exceptionTable.toList, covers x (pc + 7) = false)
    (hRframes : names.length + 3 < R.frames) (hRlocals : (rest.map fun v => v.category).sum + (13 * (names.length + 1) + 42) ≤ R.locals) (hRcells : cells + 1 ≤ R.cells) (hRslots : slots + 6 ≤ R.slots) (hlocks : meth.locks = false)
    (hx : ∀ t : State, s.vm.Alike t.vm → H.size ≤ t.heap.size → (∀ q : Nat, q < H.size → t.heap[q]? = H[q]?) → XC cls s t)
    (hf : ∀ z ∈ locs, free z.base) (hc : cells + 1 ≤ mc) (hs : slots + 6 ≤ ms) :
    W p l e R s m args below meth c H locs cells slots (vx_MQ below Qc XC args s mc ms free) (F0 m pc ls rest) := by
  intro T hT X
  have htr : e.platform.stackTraces = false := (show e.platform.stackTraces = l.stackTraces by rw [X.admits.platform]).trans hl
  have Y := vx_rebase X (R' := { frames := R.frames, locals := R.locals, cells := 1, slots := 6 }) (Nat.le_refl _) (Nat.le_refl _) hRcells hRslots
  obtain ⟨s', hA⟩ : ∃ z, z = (T.setVm s.vm).setFrames (.invoking m args :: below) := ⟨_, rfl⟩
  rw [← hA] at Y
  have hvm : s'.vm = s.vm := by rw [hA]; rfl
  have hhp : s'.heap = H := by rw [hA]; exact hT
  have hW0 : s.WarmedH s'.vm := by rw [hvm]; exact State.WarmedH.refl s
  have hat' : ∀ w ∈ vx_at0 own ic cls names, w.before args s' = true := fun w hw => vx_ot_at hW0 hvm.symm (hgood w (List.mem_cons_of_mem _ (List.mem_cons_of_mem _ hw))) (hat w hw)
  have hk' : (Cond.classLink own ik cls).before args s' = true := vx_ot_at hW0 hvm.symm (hgood _ List.mem_cons_self) hk
  have hini' : (Cond.initialized cls).before args s' = true := vx_ot_at hW0 hvm.symm (hgood _ (List.mem_cons_of_mem _ List.mem_cons_self)) hini
  have hU' : vx_Zq Bundle.tN "UNASSIGNED_STACK" Bundle.steD A s' s'.heap := by rw [hhp]; exact vx_Zq.moved hW0.alike (hU.kept hS.2.1)
  have hN' : vx_Zq Bundle.tN "SUPPRESSED_SENTINEL" Bundle.listD A s' s'.heap := by rw [hhp]; exact vx_Zq.moved hW0.alike (hN.kept hS.2.1)
  have h : ∀ w ∈ Bundle.ownAtoms0 own ic cls names, w.before args s' = true := vx_own hat' (vx_isRefq hU'.1) (vx_isRefq hN'.1) hU'.2.word hN'.2.word
  have hown' : s'.vm.findClass own = some m.cls := by rw [hvm]; exact hown
  have hins : (Cond.instantiable cls 6).before args s' = true := h _ (by simp [Bundle.ownAtoms0])
  obtain ⟨vm₁, cX, kX, hfX, hkX, -, -, X₁, st1⟩ := Y.newCold hexec (own := own) (C := cls) (index := ik) (n := 6) hown' hk' hins hini'
    (g := F0 m pc ls rest) rfl (by rw [hb]; exact d0) (Nat.le_refl _) (Nat.le_refl _)
  generalize hT1 : (T.setVm vm₁).pushCell { cls := cX, slots := kX.instanceTypes.map defaultValue, vm := .none } = T1 at X₁ st1
  have hcat : (Value.ref T.heap.size).category = 1 := rfl
  have hcellA : T1.heap[T.heap.size]? = some (freshCell cX kX) := by rw [← hT1]; exact State.heap_pushCell_size _ _
  have d3' : decode c.code (pc + 3) = .ok (.dup, 1) := by rw [hb]; exact d3
  obtain ⟨U, hsteps, hrun, hend, hW, hsame, ce, hce, hO⟩ := X₁.ctorThrow0 hexec htr (own := own) (cls := cls) (names := names) (ic := ic) hown' hcls hnames h (fun x hx => nomatch hx) hfX hkX hcellA (by rw [hhp, hT]; exact Nat.le_refl _)
    (g := { method := m, pc := pc + 4, locals := ls, stack := .ref T.heap.size :: .ref T.heap.size :: rest, locked := none }) rfl hsize rfl rfl (rest := rest) rfl
    (by rw [hb]; exact d4) (by rw [hb]; exact d7) hout hRframes (by simp only [List.map_cons, List.sum_cons, hcat]; omega) hlocks
  obtain ⟨f1, f2⟩ := vx_frame hsame
  rw [hhp] at f1 f2
  have hWs : s.WarmedH U.vm := State.WarmedH.trans hW0 hW
  have hcl : s.vm.findClass cls = some ce.cls := by
    have h9 := hO.cls
    rw [hvm] at h9
    exact h9
  have hall : s.sameButNew ({ U with vm := s.vm } : State) locs mc ms := by
    subst hA
    obtain ⟨e1, e2⟩ := hsame
    rw [State.setFrames_setFrames] at e1
    have h2 : (T.setVm s.vm).sameButNew ({ U with vm := s.vm } : State) [] (0 + 1) (0 + 6) := ⟨e1, e2⟩
    have h3 := X.same.trans h2
    rw [List.append_nil] at h3
    exact h3.mono hc hs
  refine ⟨U, ?_, .threw T.heap.size, hrun, hend, Or.inr ⟨T.heap.size, rfl, cls, ce, locs, hx U hWs.alike f1 (fun q hq => f2 q hq (fun z hz => nomatch hz)), hce, hO.vm, hcl, hWs, hall, hf⟩⟩
  refine st1 _ ?_
  show Steps p.tables e below (T1.setTop { method := m, pc := pc + 3, locals := ls, stack := .ref T.heap.size :: rest, locked := none }) _
  jvm_step X₁.here [X₁.here.top, hexec, d3', Value.category]
  exact hsteps
/-- 'throw new E("text")': new; dup; ldc; invokespecial; athrow -/
theorem vx_throwS {cc : ByteArray} {pc : Nat} (hexec : p.tables.exec = Jvm.exec) (hb : c.code = cc) (hl : l.stackTraces = false) {own cls text : String} {names : List String} {ik is ic mc ms sa : Nat} {A : Nat → Prop}
    (hown : s.vm.findClass own = some m.cls) (hcls : Bundle.fit cls = true) (hnames : ∀ n ∈ names, Bundle.fit n = true)
    (hk : (Cond.classLink own ik cls).before args s = true) (hini : (Cond.initialized cls).before args s = true) (hstr : vk_R own is text sa s) (hat : ∀ w ∈ vx_atS own ic cls names, w.before args s = true)
    (hgood : ∀ w ∈ Cond.classLink own ik cls :: Cond.initialized cls :: vx_atS own ic cls names, vx_ot w = true)
    (hU : vx_Zq Bundle.tN "UNASSIGNED_STACK" Bundle.steD A s s.heap) (hN : vx_Zq Bundle.tN "SUPPRESSED_SENTINEL" Bundle.listD A s s.heap) (hS : va_S A s.heap H locs) (hsize : ls.size = c.maxLocals)
    (d0 : decode cc pc = .ok (.new ik, 3)) (d3 : decode cc (pc + 3) = .ok (.dup, 1)) (d4 : decode cc (pc + 4) = .ok (.ldc is, 2)) (d6 : decode cc (pc + 6) = .ok (.invokespecial ic, 3)) (d9 : decode cc (pc + 9) = .ok (.athrow, 1))
    (hout : ∀ x ∈ c.exceptionTable.toList, covers x (pc + 9) = false)
    (hRframes : names.length + 3 < R.frames) (hRlocals : (rest.map fun v => v.category).sum + (13 * (names.length + 1) + 43) ≤ R.locals) (hRcells : cells + 1 ≤ R.cells) (hRslots : slots + 6 ≤ R.slots) (hlocks : meth.locks = false)
    (hx : ∀ t : State, s.vm.Alike t.vm → H.size ≤ t.heap.size → (∀ q : Nat, q < H.size → t.heap[q]? = H[q]?) → XC cls s t)
    (hf : ∀ z ∈ locs, free z.base) (hc : cells + 1 ≤ mc) (hs : slots + 6 ≤ ms) :
    W p l e R s m args below meth c H locs cells slots (vx_MQ below Qc XC args s mc ms free) (F0 m pc ls rest) := by
  intro T hT X
  have htr : e.platform.stackTraces = false := (show e.platform.stackTraces = l.stackTraces by rw [X.admits.platform]).trans hl
  have Y := vx_rebase X (R' := { frames := R.frames, locals := R.locals, cells := 1, slots := 6 }) (Nat.le_refl _) (Nat.le_refl _) hRcells hRslots
  obtain ⟨s', hA⟩ : ∃ z, z = (T.setVm s.vm).setFrames (.invoking m args :: below) := ⟨_, rfl⟩
  rw [← hA] at Y
  have hvm : s'.vm = s.vm := by rw [hA]; rfl
  have hhp : s'.heap = H := by rw [hA]; exact hT
  have hW0 : s.WarmedH s'.vm := by rw [hvm]; exact State.WarmedH.refl s
  have hat' : ∀ w ∈ vx_atS own ic cls names, w.before args s' = true := fun w hw => vx_ot_at hW0 hvm.symm (hgood w (List.mem_cons_of_mem _ (List.mem_cons_of_mem _ hw))) (hat w hw)
  have hk' : (Cond.classLink own ik cls).before args s' = true := vx_ot_at hW0 hvm.symm (hgood _ List.mem_cons_self) hk
  have hini' : (Cond.initialized cls).before args s' = true := vx_ot_at hW0 hvm.symm (hgood _ (List.mem_cons_of_mem _ List.mem_cons_self)) hini
  have hU' : vx_Zq Bundle.tN "UNASSIGNED_STACK" Bundle.steD A s' s'.heap := by rw [hhp]; exact vx_Zq.moved hW0.alike (hU.kept hS.2.1)
  have hN' : vx_Zq Bundle.tN "SUPPRESSED_SENTINEL" Bundle.listD A s' s'.heap := by rw [hhp]; exact vx_Zq.moved hW0.alike (hN.kept hS.2.1)
  have h : ∀ w ∈ Bundle.ownAtoms own ic cls names, w.before args s' = true := vx_own hat' (vx_isRefq hU'.1) (vx_isRefq hN'.1) hU'.2.word hN'.2.word
  have hown' : s'.vm.findClass own = some m.cls := by rw [hvm]; exact hown
  have hins : (Cond.instantiable cls 6).before args s' = true := h _ (by simp [Bundle.ownAtoms])
  obtain ⟨vm₁, cX, kX, hfX, hkX, -, -, X₁, st1⟩ := Y.newCold hexec (own := own) (C := cls) (index := ik) (n := 6) hown' hk' hins hini'
    (g := F0 m pc ls rest) rfl (by rw [hb]; exact d0) (Nat.le_refl _) (Nat.le_refl _)
  generalize hT1 : (T.setVm vm₁).pushCell { cls := cX, slots := kX.instanceTypes.map defaultValue, vm := .none } = T1 at X₁ st1
  have hcat : (Value.ref T.heap.size).category = 1 := rfl
  have hcellA : T1.heap[T.heap.size]? = some (freshCell cX kX) := by rw [← hT1]; exact State.heap_pushCell_size _ _
  have d3' : decode c.code (pc + 3) = .ok (.dup, 1) := by rw [hb]; exact d3
  have d4' : decode c.code (pc + 4) = .ok (.ldc is, 2) := by rw [hb]; exact d4
  have hstr' : vk_R own is text sa s' := vk_R.warm hW0 hstr
  obtain ⟨U, hsteps, hrun, hend, hW, hsame, ce, hce, hO⟩ := X₁.ctorThrowS hexec htr (own := own) (cls := cls) (names := names) (ic := ic) hown' hcls hnames h (fun x hx => nomatch hx) hfX hkX hcellA (by rw [hhp, hT]; exact Nat.le_refl _) (msg := .ref sa) rfl
    (g := { method := m, pc := pc + 6, locals := ls, stack := .ref sa :: .ref T.heap.size :: .ref T.heap.size :: rest, locked := none }) rfl hsize rfl rfl (rest := rest) rfl
    (by rw [hb]; exact d6) (by rw [hb]; exact d9) hout hRframes (by simp only [List.map_cons, List.sum_cons, hcat]; omega) hlocks
  obtain ⟨f1, f2⟩ := vx_frame hsame
  rw [hhp] at f1 f2
  have hWs : s.WarmedH U.vm := State.WarmedH.trans hW0 hW
  have hcl : s.vm.findClass cls = some ce.cls := by
    have h9 := hO.cls
    rw [hvm] at h9
    exact h9
  have hall : s.sameButNew ({ U with vm := s.vm } : State) locs mc ms := by
    subst hA
    obtain ⟨e1, e2⟩ := hsame
    rw [State.setFrames_setFrames] at e1
    have h2 : (T.setVm s.vm).sameButNew ({ U with vm := s.vm } : State) [] (0 + 1) (0 + 6) := ⟨e1, e2⟩
    have h3 := X.same.trans h2
    rw [List.append_nil] at h3
    exact h3.mono hc hs
  refine ⟨U, ?_, .threw T.heap.size, hrun, hend, Or.inr ⟨T.heap.size, rfl, cls, ce, locs, hx U hWs.alike f1 (fun q hq => f2 q hq (fun z hz => nomatch hz)), hce, hO.vm, hcl, hWs, hall, hf⟩⟩
  refine st1 _ ?_
  show Steps p.tables e below (T1.setTop { method := m, pc := pc + 3, locals := ls, stack := .ref T.heap.size :: rest, locked := none }) _
  jvm_step X₁.here [X₁.here.top, hexec, d3', Value.category]
  exact X₁.ldcString hexec (own := own) (text := text) (index := is) (a := sa) hown' hstr'.1 hstr'.2
    (g := { method := m, pc := pc + 4, locals := ls, stack := .ref T.heap.size :: .ref T.heap.size :: rest, locked := none }) rfl d4' _ hsteps
/-- 'throw new E("text")', the text by a wide index -/
theorem vx_throwSW {cc : ByteArray} {pc : Nat} (hexec : p.tables.exec = Jvm.exec) (hb : c.code = cc) (hl : l.stackTraces = false) {own cls text : String} {names : List String} {ik is ic mc ms sa : Nat} {A : Nat → Prop}
    (hown : s.vm.findClass own = some m.cls) (hcls : Bundle.fit cls = true) (hnames : ∀ n ∈ names, Bundle.fit n = true)
    (hk : (Cond.classLink own ik cls).before args s = true) (hini : (Cond.initialized cls).before args s = true) (hstr : vk_R own is text sa s) (hat : ∀ w ∈ vx_atS own ic cls names, w.before args s = true)
    (hgood : ∀ w ∈ Cond.classLink own ik cls :: Cond.initialized cls :: vx_atS own ic cls names, vx_ot w = true)
    (hU : vx_Zq Bundle.tN "UNASSIGNED_STACK" Bundle.steD A s s.heap) (hN : vx_Zq Bundle.tN "SUPPRESSED_SENTINEL" Bundle.listD A s s.heap) (hS : va_S A s.heap H locs) (hsize : ls.size = c.maxLocals)
    (d0 : decode cc pc = .ok (.new ik, 3)) (d3 : decode cc (pc + 3) = .ok (.dup, 1)) (d4 : decode cc (pc + 4) = .ok (.ldc_w is, 3)) (d7 : decode cc (pc + 7) = .ok (.invokespecial ic, 3)) (d10 : decode cc (pc + 10) = .ok (.athrow, 1))
    (hout : ∀ x ∈ c.exceptionTable.toList, covers x (pc + 10) = false)
    (hRframes : names.length + 3 < R.frames) (hRlocals : (rest.map fun v => v.category).sum + (13 * (names.length + 1) + 43) ≤ R.locals) (hRcells : cells + 1 ≤ R.cells) (hRslots : slots + 6 ≤ R.slots) (hlocks : meth.locks = false)
    (hx : ∀ t : State, s.vm.Alike t.vm → H.size ≤ t.heap.size → (∀ q : Nat, q < H.size → t.heap[q]? = H[q]?) → XC cls s t)
    (hf : ∀ z ∈ locs, free z.base) (hc : cells + 1 ≤ mc) (hs : slots + 6 ≤ ms) :
    W p l e R s m args below meth c H locs cells slots (vx_MQ below Qc XC args s mc ms free) (F0 m pc ls rest) := by
  intro T hT X
  have htr : e.platform.stackTraces = false := (show e.platform.stackTraces = l.stackTraces by rw [X.admits.platform]).trans hl
  have Y := vx_rebase X (R' := { frames := R.frames, locals := R.locals, cells := 1, slots := 6 }) (Nat.le_refl _) (Nat.le_refl _) hRcells hRslots
  obtain ⟨s', hA⟩ : ∃ z, z = (T.setVm s.vm).setFrames (.invoking m args :: below) := ⟨_, rfl⟩
  rw [← hA] at Y
  have hvm : s'.vm = s.vm := by rw [hA]; rfl
  have hhp : s'.heap = H := by rw [hA]; exact hT
  have hW0 : s.WarmedH s'.vm := by rw [hvm]; exact State.WarmedH.refl s
  have hat' : ∀ w ∈ vx_atS own ic cls names, w.before args s' = true := fun w hw => vx_ot_at hW0 hvm.symm (hgood w (List.mem_cons_of_mem _ (List.mem_cons_of_mem _ hw))) (hat w hw)
  have hk' : (Cond.classLink own ik cls).before args s' = true := vx_ot_at hW0 hvm.symm (hgood _ List.mem_cons_self) hk
  have hini' : (Cond.initialized cls).before args s' = true := vx_ot_at hW0 hvm.symm (hgood _ (List.mem_cons_of_mem _ List.mem_cons_self)) hini
  have hU' : vx_Zq Bundle.tN "UNASSIGNED_STACK" Bundle.steD A s' s'.heap := by rw [hhp]; exact vx_Zq.moved hW0.alike (hU.kept hS.2.1)
  have hN' : vx_Zq Bundle.tN "SUPPRESSED_SENTINEL" Bundle.listD A s' s'.heap := by rw [hhp]; exact vx_Zq.moved hW0.alike (hN.kept hS.2.1)
  have h : ∀ w ∈ Bundle.ownAtoms own ic cls names, w.before args s' = true := vx_own hat' (vx_isRefq hU'.1) (vx_isRefq hN'.1) hU'.2.word hN'.2.word
  have hown' : s'.vm.findClass own = some m.cls := by rw [hvm]; exact hown
  have hins : (Cond.instantiable cls 6).before args s' = true := h _ (by simp [Bundle.ownAtoms])
  obtain ⟨vm₁, cX, kX, hfX, hkX, -, -, X₁, st1⟩ := Y.newCold hexec (own := own) (C := cls) (index := ik) (n := 6) hown' hk' hins hini'
    (g := F0 m pc ls rest) rfl (by rw [hb]; exact d0) (Nat.le_refl _) (Nat.le_refl _)
  generalize hT1 : (T.setVm vm₁).pushCell { cls := cX, slots := kX.instanceTypes.map defaultValue, vm := .none } = T1 at X₁ st1
  have hcat : (Value.ref T.heap.size).category = 1 := rfl
  have hcellA : T1.heap[T.heap.size]? = some (freshCell cX kX) := by rw [← hT1]; exact State.heap_pushCell_size _ _
  have d3' : decode c.code (pc + 3) = .ok (.dup, 1) := by rw [hb]; exact d3
  have d4' : decode c.code (pc + 4) = .ok (.ldc_w is, 3) := by rw [hb]; exact d4
  have hstr' : vk_R own is text sa s' := vk_R.warm hW0 hstr
  obtain ⟨U, hsteps, hrun, hend, hW, hsame, ce, hce, hO⟩ := X₁.ctorThrowS hexec htr (own := own) (cls := cls) (names := names) (ic := ic) hown' hcls hnames h (fun x hx => nomatch hx) hfX hkX hcellA (by rw [hhp, hT]; exact Nat.le_refl _) (msg := .ref sa) rfl
    (g := { method := m, pc := pc + 7, locals := ls, stack := .ref sa :: .ref T.heap.size :: .ref T.heap.size :: rest, locked := none }) rfl hsize rfl rfl (rest := rest) rfl
    (by rw [hb]; exact d7) (by rw [hb]; exact d10) hout hRframes (by simp only [List.map_cons, List.sum_cons, hcat]; omega) hlocks
  obtain ⟨f1, f2⟩ := vx_frame hsame
  rw [hhp] at f1 f2
  have hWs : s.WarmedH U.vm := State.WarmedH.trans hW0 hW
  have hcl : s.vm.findClass cls = some ce.cls := by
    have h9 := hO.cls
    rw [hvm] at h9
    exact h9
  have hall : s.sameButNew ({ U with vm := s.vm } : State) locs mc ms := by
    subst hA
    obtain ⟨e1, e2⟩ := hsame
    rw [State.setFrames_setFrames] at e1
    have h2 : (T.setVm s.vm).sameButNew ({ U with vm := s.vm } : State) [] (0 + 1) (0 + 6) := ⟨e1, e2⟩
    have h3 := X.same.trans h2
    rw [List.append_nil] at h3
    exact h3.mono hc hs
  refine ⟨U, ?_, .threw T.heap.size, hrun, hend, Or.inr ⟨T.heap.size, rfl, cls, ce, locs, hx U hWs.alike f1 (fun q hq => f2 q hq (fun z hz => nomatch hz)), hce, hO.vm, hcl, hWs, hall, hf⟩⟩
  refine st1 _ ?_
  show Steps p.tables e below (T1.setTop { method := m, pc := pc + 3, locals := ls, stack := .ref T.heap.size :: rest, locked := none }) _
  jvm_step X₁.here [X₁.here.top, hexec, d3', Value.category]
  exact X₁.ldcStringW hexec (own := own) (text := text) (index := is) (a := sa) hown' hstr'.1 hstr'.2
    (g := { method := m, pc := pc + 4, locals := ls, stack := .ref T.heap.size :: .ref T.heap.size :: rest, locked := none }) rfl d4' _ hsteps
end Ends
section Bodies
variable {l : Launch}
theorem vx_ofW {y : MethodName} {ws ws' : List Cond} {rm : Room} {Pc : Array Value → State → Prop} {Qc : Array Value → State → Outcome → State → Prop} {XC : String → State → State → Prop} {mc ms : Nat} {free : Addr → Prop} {cc : ByteArray} {maxL : Nat} {ret : Option FieldType}
    (hy : plainName y.cls = true) (hw : ws = Cond.code y cc maxL ret :: ws')
    (body : ∀ p e s m args below meth c s₁, BodyLoose p l y (headSpec ws rm) cc maxL ret e s m args below meth c s₁ → c.maxLocals = maxL → (∀ x ∈ c.exceptionTable.toList, False) → Pc args s →
      W p l e (headSpec ws rm).room s m args below meth c s.heap [] 0 0 (vx_MQ below Qc XC args s mc ms free) (entryFrame m args maxL)) : vx_Met l y ws rm Pc Qc XC mc ms free := by
  refine MetFree.of_bodyS (code := cc) (maxLocals := maxL) (ret := ret) hy ?_ ?_
  · intro args s m h hn
    obtain ⟨meth, c, h1, h2, h3, h4, h5, h6, -, -⟩ := Cond.code_spec hn (atoms_spec (ws := ws) h _ (by rw [hw]; exact List.mem_cons_self))
    exact ⟨meth, c, h1, h2, h3, h4, h5, h6⟩
  · intro p e s m args below meth c s₁ B hml hP _
    have hh0 : s₁.heap = s.heap := by rw [B.state]; rfl
    have ht : ∀ x ∈ c.exceptionTable.toList, False := by
      obtain ⟨meth9, c9, h1, h2, -, -, -, -, h7, -⟩ := Cond.code_spec B.named (atoms_spec (ws := ws) B.pre _ (by rw [hw]; exact List.mem_cons_self))
      cases Option.some.inj (h1.symm.trans B.method)
      cases Option.some.inj (h2.symm.trans (Stand.of_body B).code)
      intro x hx
      rw [Array.isEmpty_iff.mp h7] at hx
      cases hx
    obtain ⟨t, a1, o, b1, b2, b3⟩ := body p e s m args below meth c s₁ B hml ht hP s₁ hh0 (Stand.of_body B)
    exact ⟨t, o, a1, b1, b2, b3⟩
/-- the table of a body with handlers -/
theorem vx_table {p : Program} {x y : MethodName} {S : Spec} {cc bytes : ByteArray} {maxL maxL' : Nat} {ret ret' : Option FieldType} {e : Env} {s s₁ : State} {m : MethodId} {args : Array Value} {below : List Frame} {meth : Method} {c : Code} {hh : List (Nat × Nat × Nat × Nat)}
    (B : BodyLoose p l y S cc maxL ret e s m args below meth c s₁) (h : (Cond.codeWith y bytes maxL' ret' hh).before args s = true) : c.exceptionTable.toList = tableOf hh := by
  obtain ⟨m9, meth9, c9, hn9, h1, h2, -, -, h6, -⟩ := Cond.codeWith_spec h
  cases Option.some.inj (hn9.symm.trans B.named)
  cases Option.some.inj (h1.symm.trans B.method)
  cases Option.some.inj (h2.symm.trans (Stand.of_body B).code)
  rw [← h6, table_eq]
end Bodies
end VXA
/-! ===== END ===== -/
/-! ===== BEGIN a static call of a method with an exception table ===== -/
section VXS
variable {p : Program} {l : Launch} {e : Env} {R : Room} {s : State} {m : MethodId} {args : Array Value} {below : List Frame} {meth : Method} {c : Code} {T : State} {H : Heap} {locs : List Loc} {cells slots : Nat}
abbrev vx_CSW (R : Room) (s : State) (args : Array Value) (own : String) (index : Nat) (y : MethodName) (bytes : ByteArray) (maxL : Nat) (ret : Option FieldType) (hh : List (Nat × Nat × Nat × Nat)) (ws : List Cond) (rm : Room) (mc ms n : Nat) : Prop :=
  (rm.cells = mc ∧ rm.slots = ms ∧ rm.frames + 1 ≤ R.frames ∧ 8 + (maxL + 11) + rm.locals ≤ R.locals ∧ (∀ w ∈ ws, ∀ (a' : Array Value) (U : State), s.WarmedH U.vm → w.before a' U = true) ∧ Cond.codeWith y bytes maxL ret hh ∈ ws) ∧
  (Cond.codeWith y bytes maxL ret hh).before args s = true ∧ (Cond.initialized y.cls).before args s = true ∧ (y.cls ≠ "java/lang/invoke/MethodHandle" ∧ y.cls ≠ "java/lang/invoke/VarHandle") ∧
  (∀ sig, parseMethodDescriptor y.desc = some sig → n = sig.parameters.length) ∧ (Cond.methodLink own index y).before args s = true ∧ (Cond.static y).before args s = true
theorem vx_cwSW {own : String} {index maxL mc ms : Nat} {y : MethodName} {bytes : ByteArray} {ret : Option FieldType} {hh : List (Nat × Nat × Nat × Nat)} {Ts ws ws' : List Cond} {rm : Room} (n : Nat) (ht : ∀ w ∈ Ts, w.before args s = true) (hT : GoodIn Ts (va_wsS own index y ws)) (hw : ws = Cond.codeWith y bytes maxL ret hh :: ws') (hrc : rm.cells = mc) (hrs : rm.slots = ms)
    (hd : y.cls ≠ "java/lang/invoke/MethodHandle" ∧ y.cls ≠ "java/lang/invoke/VarHandle" ∧ (parseMethodDescriptor y.desc).map (fun d => d.parameters.length) = some n) (hR : rm.frames + 1 ≤ R.frames ∧ 8 + (maxL + 11) + rm.locals ≤ R.locals) :
    vx_CSW R s args own index y bytes maxL ret hh ws rm mc ms n := by
  have ok : ∀ w ∈ va_wsS own index y ws, w.before args s = true := fun w h => ht w (hT w h).1
  have hG : GoodIn Ts ws := fun w h => hT w (by unfold va_wsS; exact List.mem_append_right _ h)
  have hc : Cond.codeWith y bytes maxL ret hh ∈ ws := by rw [hw]; exact List.mem_cons_self
  refine ⟨⟨hrc, hrs, hR.1, hR.2, pay_in ht hG, hc⟩, ht _ (hG _ hc).1, ok _ (by simp [va_wsS]), ⟨hd.1, hd.2.1⟩, fun sig h => ?_, ok _ (by simp [va_wsS]), ok _ (by simp [va_wsS])⟩
  have h2 := hd.2.2
  rw [h] at h2
  exact (Option.some.inj h2).symm
theorem vx_callSW (X : Stand p l e R s m args below meth c T locs cells slots) (hexec : p.tables.exec = Jvm.exec) {own : String} {index : Nat} {y : MethodName} {bytes : ByteArray} {maxL : Nat} {ret : Option FieldType} {hh : List (Nat × Nat × Nat × Nat)}
    (hown : s.vm.findClass own = some m.cls) (hlink : (Cond.methodLink own index y).before args s = true) (hstat : (Cond.static y).before args s = true) (hinit : (Cond.initialized y.cls).before args s = true)
    (hcode : (Cond.codeWith y bytes maxL ret hh).before args s = true) (hy : y.cls ≠ "java/lang/invoke/MethodHandle" ∧ y.cls ≠ "java/lang/invoke/VarHandle")
    {W9 : Nat} {Pre : Pt → Array Value → Prop} {Post : Pt → Array Value → Option Value → Pt → Prop} (hK : Back l R p e below s args y 3 W9 Pre Post)
    {g : JFrame} (hg : g.method = m) (hsize : g.locals.size = c.maxLocals) {argsL rest : List Value} (hlen : ∀ sig, parseMethodDescriptor y.desc = some sig → argsL.length = sig.parameters.length)
    (hstack : g.stack = argsL.reverse ++ rest) (hW : 2 * g.monitorRoom + (rest.map fun v => v.category).sum ≤ W9) (hdg : decode c.code g.pc = .ok (.invokestatic index, 3))
    (hpre : ∀ vm₁, s.WarmedH vm₁ → Pre ⟨T.setVm vm₁, locs, cells, slots⟩ argsL.toArray) :
    ∃ (v : Option Value) (vm₁ : Vm) (B : Pt), s.WarmedH vm₁ ∧ Stand p l e R s m args below meth c B.U B.locs B.cells B.slots ∧ Post ⟨T.setVm vm₁, locs, cells, slots⟩ argsL.toArray v B ∧
      ∀ target, Steps p.tables e below (B.U.setTop { g with pc := g.pc + 3, stack := v.toList ++ rest }) target → Steps p.tables e below (T.setTop g) target := by
  obtain ⟨mk, methM, cM, hnamed, hmethM, -, -, -, -, -, -, hsigM⟩ := Cond.codeWith_spec hcode
  have hstatic : methM.isStatic = true := Cond.static_spec hnamed hmethM hstat
  obtain ⟨kP, hkP, -⟩ := className_of_methodNamed hnamed
  have hinitP : kP.init = .initialized := Cond.initialized_spec (findClass_of_methodNamed hnamed) hkP hinit
  obtain ⟨vm₁, X₁, hstep₁⟩ := X.invokestatic hexec hown hlink hnamed hmethM hstatic hkP hinitP hy (g := g) hg (argsL := argsL) (rest := rest) (hlen _ hsigM) hstack hdg
  obtain ⟨v, B, X', hpost, hsteps⟩ := hK m meth c ⟨T.setVm vm₁, locs, cells, slots⟩ { g with stack := rest } (.invokestatic index) mk argsL.toArray X₁ hg hsize hdg hW (X₁.named hnamed) (hpre vm₁ X₁.warmed)
  exact ⟨v, vm₁, B, X₁.warmed, X', hpost, fun target h => hstep₁ _ fun acts => by rw [doInvoke_state]; exact hsteps.trans h⟩
theorem vx_runSW {y : MethodName} {bytes cc : ByteArray} {maxL nL mc ms n index : Nat} {ret : Option FieldType} {hh : List (Nat × Nat × Nat × Nat)} {ws : List Cond} {rm : Room} {Pc : Array Value → State → Prop} {Qc : Array Value → State → Outcome → State → Prop} {free : Addr → Prop} {Ts : List Cond} {own : String} {As rest : List Value} {g : JFrame}
    (S : CallFix p m c cc nL s args Ts own) (hM : Met l y ws rm Pc Qc mc ms free) (cw : vx_CSW R s args own index y bytes maxL ret hh ws rm mc ms n) (hp : PreS s H Pc As)
    (hg : g.method = m) (hn : As.length = n) (hsize : g.locals.size = nL) (hstack : g.stack = As.reverse ++ rest) (hW : 2 * g.monitorRoom + (rest.map fun v => v.category).sum ≤ 8) (hdg : decode cc g.pc = .ok (.invokestatic index, 3)) (hf : cells + mc ≤ R.cells ∧ slots + ms ≤ R.slots) :
    va_Run p l e R s m args below meth c H locs cells slots mc ms g rest (Qc As.toArray) (free) := by
  obtain ⟨⟨hrc, hrs, hfr, hlo, hws, hcw⟩, hcode, hini, hy, hlen, hl, hstt⟩ := cw
  have hK : Back l R p e below s args y 3 8 (PreOf R mc ms Pc) (PostOf Qc mc ms free) := va_backW (hh := hh) (bytes := bytes) (maxL := maxL) (ret := ret) hM hp.1 hrc hrs hfr hlo hws hcw (fun a' U hW => word_at hW (Or.inl (by first | rfl | simp [Cond.onTables, Cond.keeps, Cond.steady])) hini)
  obtain ⟨hx, hb, hml, ho, -⟩ := S
  intro T hT X
  obtain ⟨v, vm₁, ⟨U', l2, c2, s2⟩, hW₁, X', ⟨g', mk, t, L, e1, e2, hq, h1, hL, h2, h3⟩, st⟩ := vx_callSW X hx (hh := hh) (bytes := bytes) (maxL := maxL) (ret := ret) ho hl hstt hini hcode hy hK hg (hsize.trans hml.symm) (argsL := As) (rest := rest) (fun sig h => hn.trans (hlen sig h)) hstack hW (by rw [hb]; exact hdg)
    (fun vm₁ hW₁ => ⟨hf.1, hf.2, hp.2 (T.setVm vm₁) hT hW₁⟩)
  dsimp only [Pt.U, Pt.locs, Pt.cells, Pt.slots] at X' e1 e2 h1 h2 h3 st
  subst h1; subst h2; subst h3
  exact ⟨v, (T.setVm vm₁).calling g' mk As.toArray, t, U', L, hT, X', hL, e1, e2, hq, st⟩
/-- not caught here, past rows that name other classes: it goes on to the caller -/
theorem vx_outP {p : Program} {l : Launch} {e : Env} {R : Room} {s : State} {m : MethodId} {args : Array Value} {below : List Frame} {meth : Method} {c : Code} {H : Heap} {locs : List Loc} {cells slots : Nat} {free : Addr → Prop} {ls : Array Slot} {rest : List Value} {Qc : Array Value → State → Outcome → State → Prop} {XC : String → State → State → Prop}
    {pc : Nat} {own E : String} {ce : Cell} {q : Addr} {mc ms : Nat} (hown : s.vm.findClass own = some m.cls) (hlocks : meth.locks = false)
    (hpass : ∀ z ∈ c.exceptionTable.toList, covers z pc = false ∨ (z.catchType ≠ 0 ∧ ∃ nm : String, (Cond.classLink own z.catchType nm).before args s = true ∧ va_Nc E nm s)) (hcell : H[q]? = some ce) (hv : ce.vm = .none) (hcl : s.vm.findClass E = some ce.cls)
    (hx : ∀ t : State, t.heap = H → s.vm.Alike t.vm → XC E s t) (hf : ∀ z ∈ locs, free z.base) (hc : cells ≤ mc) (hs : slots ≤ ms) :
    vx_W p l e R s m args below meth c H locs cells slots (vx_MQ below Qc XC args s mc ms free) (F0 m pc ls rest) q := by
  intro T hT X
  have hpl : e.platform.magicAccessors = ({} : Platform).magicAccessors := by rw [X.admits.platform]
  obtain ⟨vm', hW', X', st⟩ := X.outThrough hlocks q (g := F0 m pc ls rest) rfl rfl rfl (cell := ce) (by rw [hT]; exact hcell) (by rw [hv]; rfl)
    (by obtain ⟨k9, h9, -⟩ := Vm.findClass_spec hcl; exact ⟨k9, h9⟩) (fun z hz => by
      rcases hpass z hz with h | ⟨hz0, nm, hl1, hn1⟩
      · exact Or.inl h
      · obtain ⟨c6, hc6, hcl6⟩ := Cond.classLink_spec hown hl1 e.platform hpl
        obtain ⟨a8, b8, h1, h2, h3⟩ := hn1
        cases Option.some.inj (h1.symm.trans hcl)
        cases Option.some.inj (h2.symm.trans hc6)
        exact Or.inr ⟨hz0, _, hcl6, h3⟩)
  obtain ⟨g₀, hfr⟩ := X'.frames_eq
  have hcell9 : ((T.setVm vm').setFrames (.throwing q :: below)).heap[q]? = some ce := by
    show T.heap[q]? = some ce
    rw [hT]; exact hcell
  have hend : Ended ((T.setVm vm').setFrames (.throwing q :: below)) below (.threw q) := State.frames_setFrames _ (State.cur_lt_of_frames hfr)
  refine ⟨(T.setVm vm').setFrames (.throwing q :: below), ?_, .threw q, X'.here.running, hend, Or.inr ⟨q, rfl, E, ce, locs, hx _ hT (X'.ends _).1.alike, hcell9, hv, hcl, (X'.ends _).1, (X'.ends _).2.mono hc hs, hf⟩⟩
  rw [X.pushThrowing_eq]
  exact st
/-- a thing of a world lies in the heap -/
theorem vx_lt {D : va_G} {cl : List vw_C} {ws : va_W} {H1 : Heap} (h : va_P D cl ws H1) {k : Nat} {q : Nat × va_E} (hk : ws[k]? = some q) : q.1 < H1.size := (h k q hk).lt
end VXS
/-! ===== END ===== -/
/-! ===== BEGIN methods with a table of their own: called by a name, returning or throwing ===== -/
section VXH
/-! vx_backW, vx_callVX, vx_callSX, vx_callVW, vx_runVW, vx_runVX, vx_runSX, vx_ofWH follow the same proofs as their sisters above (Free/Laws.lean, Shelf42/LK1.lean); vx_outP calls Shelf42/NT130.lean (outThrough). -/
section
variable {l : Launch} {R : Room} {p : Program} {e : Env} {below : List Frame} {s : State} {sargs : Array Value} {y : MethodName} {len W9 : Nat}
theorem vx_backW {ws : List Cond} {rm : Room} {Pc : Array Value → State → Prop} {Qc : Array Value → State → Outcome → State → Prop} {XC : String → State → State → Prop} {mc ms : Nat} {free : Addr → Prop} {bytes : ByteArray} {maxL : Nat} {ret : Option FieldType} {hh : List (Nat × Nat × Nat × Nat)}
    (hM : vx_Met l y ws rm Pc Qc XC mc ms free) (hblind : FrameBlind Pc) (hrc : rm.cells = mc) (hrs : rm.slots = ms)
    (hframes : rm.frames + 1 ≤ R.frames) (hlocals : W9 + (maxL + 11) + rm.locals ≤ R.locals)
    (hws : ∀ w ∈ ws, ∀ a' U, s.WarmedH U.vm → w.before a' U = true) (hcode : Cond.codeWith y bytes maxL ret hh ∈ ws) (hinit : ∀ a' U, s.WarmedH U.vm → (Cond.initialized y.cls).before a' U = true) :
    vx_Back l R p e below s sargs y len W9 (PreOf R mc ms Pc) (PostOf Qc mc ms free) (vx_Post XC mc ms free) := by
  intro m meth c A g ig mk a X hg hsize hdg hW hn hp
  have h1 : (headSpec ws rm).pre.before a A.U = true := atoms_intro fun w hw => hws w hw _ _ X.warmed
  have h2 : (Cond.codeWith y bytes maxL ret hh).before a A.U = true := hws _ hcode _ _ X.warmed
  have h3 : (Cond.initialized y.cls).before a A.U = true := hinit _ _ X.warmed
  have h4 : A.cells + (headSpec ws rm).room.cells ≤ R.cells := by rw [show (headSpec ws rm).room.cells = mc from hrc]; exact hp.1
  have h5 : A.slots + (headSpec ws rm).room.slots ≤ R.slots := by rw [show (headSpec ws rm).room.slots = ms from hrs]; exact hp.2.1
  have hPc : Pc a (A.U.calling g mk a) := hblind _ _ _ _ hp.2.2
  obtain ⟨U, Ls, c0, s0⟩ := A
  dsimp only [Pt.U, Pt.locs, Pt.cells, Pt.slots] at h1 h2 h3 h4 h5 X hn hPc ⊢
  obtain ⟨m9, methY, cY, hn9, hmY, hcY, -, hlY, -⟩ := Cond.codeWith_spec h2
  cases Option.some.inj (hn9.symm.trans hn)
  obtain ⟨kY, hkY, -⟩ := className_of_methodNamed hn
  have hinitY : kY.init = .initialized := Cond.initialized_spec (findClass_of_methodNamed hn) hkY h3
  have h : At U g.method c below := by rw [hg]; exact X.here
  have hlocals9 : W9 + (maxL + 11) + (headSpec ws rm).room.locals ≤ R.locals := hlocals
  have happ : (headSpec ws rm).appliesLoose y e.platform (U.calling g mk a) = true :=
    Spec.appliesLoose_calling (g := g) h hdg hn hkY hinitY
      (X.room_calling (g := g) (R' := (headSpec ws rm).room) hsize hmY hcY hframes (by rw [hlY]; omega) h4 h5) h1
  obtain ⟨mid, hmid⟩ := h.above
  have hfr : (U.setTop g).frames = (.java g :: mid) ++ below := by rw [State.frames_setTop' g h.top, hmid]; rfl
  obtain ⟨o, s₂, hsteps, -, hend, hq⟩ := Steps.callFree hM p X.admits X.cas X.clock (acts := []) hfr happ hPc trivial
  have hq' : vx_Q Qc XC mc ms free a (U.calling g mk a) o s₂ := hq
  rw [State.frames_setTop' g h.top] at hend
  obtain ⟨g₀, hg0⟩ := Option.isSome_iff_exists.mp h.top
  obtain ⟨r, hr⟩ := State.topJava?_eq_some.mp hg0
  have hr' : (({ U with heap := s₂.heap, slotsUsed := s₂.slotsUsed } : State).setVm s₂.vm).frames = .java g₀ :: r := hr
  rcases hq' with ⟨hqc, L, hfe, hL⟩ | ⟨q, rfl, E, ce, L, hx, hce, hcv, hcl, hW₂, hsm, hL⟩
  · obtain ⟨⟨v, rfl⟩, hW₂, e2, q2, q3, q4, q5, q6⟩ := id hfe
    have e3 : s₂ = ({ (U.calling g mk a).setFrames s₂.frames with heap := s₂.heap, slotsUsed := s₂.slotsUsed } : State).setVm s₂.vm := by
      have : s₂ = ({ s₂ with vm := (U.calling g mk a).vm } : State).setVm s₂.vm := rfl
      rw [e2] at this
      exact this
    obtain ⟨c₂, i₂, len₂, hc₂, hd₂, hf₂⟩ := hend
    have hW' : U.WarmedH s₂.vm := hW₂
    have hcc : c₂ = c := by
      have h1 : s₂.code? g.method = U.code? g.method := by
        rw [State.code?_eq, State.code?_eq, hW'.alike.method?]
      exact Option.some.inj (hc₂.symm.trans (h1.trans h.code))
    subst hcc
    have hlen : len₂ = len := by rw [hdg] at hd₂; cases hd₂; rfl
    subst hlen
    have hs₂ : s₂ = (({ U with heap := s₂.heap, slotsUsed := s₂.slotsUsed } : State).setVm s₂.vm).setTop { g with pc := g.pc + len₂, stack := v.toList ++ g.stack } := by
      refine e3.trans ?_
      rw [hf₂, State.calling_eq h.top, State.setFrames_setFrames, State.setTop_of_frames _ hr', hr]
      rfl
    have hsame : U.sameButNew ({ U with heap := s₂.heap, slotsUsed := s₂.slotsUsed } : State) L mc ms := by
      refine ⟨?_, q2, q3, q4, q5, q6⟩
      obtain ⟨t, ht, -⟩ := State.frames_cons hr
      show ({ U with heap := s₂.heap, slotsUsed := s₂.slotsUsed } : State) = { U.setFrames U.frames with heap := s₂.heap, slotsUsed := s₂.slotsUsed }
      rw [State.setFrames_self ht]
    subst hg
    refine Or.inl ⟨v, ⟨(({ U with heap := s₂.heap, slotsUsed := s₂.slotsUsed } : State).setVm s₂.vm), Ls ++ L, c0 + mc, s0 + ms⟩,
      ⟨X.admits, X.cas, X.clock, X.frames, X.room, X.hears, X.method, X.code, (X.here.setHeapUsed s₂.heap s₂.slotsUsed).setVm hW'.alike, X.tail, State.WarmedH.trans X.warmed hW', X.limits, X.bytes, X.same.trans (hsame.setVm s.vm)⟩,
      ⟨g, mk, s₂, L, rfl, rfl, hqc, rfl, hL, rfl, rfl⟩, ?_⟩
    show Steps p.tables e below _ ((({ U with heap := s₂.heap, slotsUsed := s₂.slotsUsed } : State).setVm s₂.vm).setTop { g with pc := g.pc + len₂, stack := v.toList ++ g.stack })
    rw [← hs₂]
    exact hsteps
  · obtain ⟨e2, q2, q3, q4, q5, q6⟩ := id hsm
    have e3 : s₂ = ({ (U.calling g mk a).setFrames s₂.frames with heap := s₂.heap, slotsUsed := s₂.slotsUsed } : State).setVm s₂.vm := by
      have : s₂ = ({ s₂ with vm := (U.calling g mk a).vm } : State).setVm s₂.vm := rfl
      rw [e2] at this
      exact this
    have hf₂ : s₂.frames = .throwing q :: .java g :: U.frames.tail := hend
    have hW' : U.WarmedH s₂.vm := hW₂
    have hs₂ : s₂ = ((({ U with heap := s₂.heap, slotsUsed := s₂.slotsUsed } : State).setVm s₂.vm).setTop g).pushFrame (.throwing q) := by
      refine e3.trans ?_
      rw [hf₂, State.calling_eq h.top, State.setFrames_setFrames, State.pushFrame, State.frames_setTop _ hr', State.setTop_of_frames _ hr', State.setFrames_setFrames, hr]
      rfl
    have hsame : U.sameButNew ({ U with heap := s₂.heap, slotsUsed := s₂.slotsUsed } : State) L mc ms := by
      refine ⟨?_, q2, q3, q4, q5, q6⟩
      obtain ⟨t, ht, -⟩ := State.frames_cons hr
      show ({ U with heap := s₂.heap, slotsUsed := s₂.slotsUsed } : State) = { U.setFrames U.frames with heap := s₂.heap, slotsUsed := s₂.slotsUsed }
      rw [State.setFrames_self ht]
    subst hg
    refine Or.inr ⟨q, ⟨(({ U with heap := s₂.heap, slotsUsed := s₂.slotsUsed } : State).setVm s₂.vm), Ls ++ L, c0 + mc, s0 + ms⟩,
      ⟨X.admits, X.cas, X.clock, X.frames, X.room, X.hears, X.method, X.code, (X.here.setHeapUsed s₂.heap s₂.slotsUsed).setVm hW'.alike, X.tail, State.WarmedH.trans X.warmed hW', X.limits, X.bytes, X.same.trans (hsame.setVm s.vm)⟩,
      ⟨g, mk, s₂, L, E, ce, rfl, rfl, hx, hce, hcv, hcl, rfl, hL, rfl, rfl⟩, ?_⟩
    show Steps p.tables e below _ (((({ U with heap := s₂.heap, slotsUsed := s₂.slotsUsed } : State).setVm s₂.vm).setTop g).pushFrame (.throwing q))
    rw [← hs₂]
    exact hsteps
end
variable {p : Program} {l : Launch} {e : Env} {R : Room} {s : State} {m : MethodId} {args : Array Value} {below : List Frame} {meth : Method} {c : Code} {T : State} {H : Heap} {locs : List Loc} {cells slots : Nat}
theorem vx_callVX (X : Stand p l e R s m args below meth c T locs cells slots) (hexec : p.tables.exec = Jvm.exec) {own C : String} {index : Nat} {y : MethodName} {bytes : ByteArray} {maxL : Nat} {ret : Option FieldType} {hh : List (Nat × Nat × Nat × Nat)}
    (hown : s.vm.findClass own = some m.cls) (hlink : (Cond.methodLink own index y).before args s = true) (hinst : (Cond.instanceMethod y).before args s = true) (hsel : (Cond.selects C y y).before args s = true)
    (hcode : (Cond.codeWith y bytes maxL ret hh).before args s = true) (hy : y.cls ≠ "java/lang/invoke/MethodHandle" ∧ y.cls ≠ "java/lang/invoke/VarHandle")
    {W9 : Nat} {Pre : Pt → Array Value → Prop} {Post : Pt → Array Value → Option Value → Pt → Prop} {PostX : Pt → Array Value → Addr → Pt → Prop} (hK : vx_Back l R p e below s args y 3 W9 Pre Post PostX)
    {b : Addr} {cellB : Cell} (hcell : T.heap[b]? = some cellB) (hobj : cellB.vm.isStatics = false) (hcls : s.vm.findClass C = some cellB.cls)
    {g : JFrame} (hg : g.method = m) (hsize : g.locals.size = c.maxLocals) {argsL rest : List Value} (hlen : ∀ sig, parseMethodDescriptor y.desc = some sig → argsL.length = sig.parameters.length)
    (hstack : g.stack = argsL.reverse ++ .ref b :: rest) (hW : 2 * g.monitorRoom + (rest.map fun v => v.category).sum ≤ W9) (hdg : decode c.code g.pc = .ok (.invokevirtual index, 3))
    (hpre : ∀ vm₁, s.WarmedH vm₁ → Pre ⟨T.setVm vm₁, locs, cells, slots⟩ (Value.ref b :: argsL).toArray) :
    (∃ (v : Option Value) (vm₁ : Vm) (B : Pt), s.WarmedH vm₁ ∧ Stand p l e R s m args below meth c B.U B.locs B.cells B.slots ∧ Post ⟨T.setVm vm₁, locs, cells, slots⟩ (Value.ref b :: argsL).toArray v B ∧
      ∀ target, Steps p.tables e below (B.U.setTop { g with pc := g.pc + 3, stack := v.toList ++ rest }) target → Steps p.tables e below (T.setTop g) target) ∨
    (∃ (q : Addr) (vm₁ : Vm) (B : Pt), s.WarmedH vm₁ ∧ Stand p l e R s m args below meth c B.U B.locs B.cells B.slots ∧ PostX ⟨T.setVm vm₁, locs, cells, slots⟩ (Value.ref b :: argsL).toArray q B ∧
      Steps p.tables e below (T.setTop g) ((B.U.setTop { g with stack := rest }).pushFrame (.throwing q))) := by
  obtain ⟨mk, methM, hnamed, hmethM, hstM, habM⟩ := Cond.instanceMethod_spec hinst
  obtain ⟨m8, methM', cM, hn8, hmethM', -, -, -, -, -, -, hsigM⟩ := Cond.codeWith_spec hcode
  cases Option.some.inj (hn8.symm.trans hnamed)
  cases hmethM.symm.trans hmethM'
  obtain ⟨c2, r2, m2, q1, q2, q3, q4, kP, hkP, hkPi⟩ := Cond.selects_spec hsel
  cases hcls.symm.trans q1
  cases (State.methodFound?_of_named hnamed hy).symm.trans q2
  cases hnamed.symm.trans q3
  have hselP : selectMethod e.platform s.vm cellB.cls mk = .method mk := by rw [Launch.admits_selectMethod X.admits]; exact q4
  obtain ⟨vm₁, X₁, hstep₁⟩ := X.invokevirtual hexec hown hlink hnamed hmethM hstM hkP hkPi hy (a := b) (cell := cellB) hcell
    (fun z h => by rw [h] at hobj; cases hobj) hselP hmethM habM hkP hkPi (g := g) hg (argsL := argsL) (rest := rest) (hlen _ hsigM) hstack hdg
  rcases hK m meth c ⟨T.setVm vm₁, locs, cells, slots⟩ { g with stack := rest } (.invokevirtual index) mk (Value.ref b :: argsL).toArray X₁ hg hsize hdg hW (X₁.named hnamed) (hpre vm₁ X₁.warmed) with ⟨v, B, X', hpost, hsteps⟩ | ⟨q, B, X', hpost, hsteps⟩
  · exact Or.inl ⟨v, vm₁, B, X₁.warmed, X', hpost, fun target h => hstep₁ _ fun acts => by rw [doInvoke_state]; exact hsteps.trans h⟩
  · exact Or.inr ⟨q, vm₁, B, X₁.warmed, X', hpost, hstep₁ _ fun acts => by rw [doInvoke_state]; exact hsteps⟩
theorem vx_callSX (X : Stand p l e R s m args below meth c T locs cells slots) (hexec : p.tables.exec = Jvm.exec) {own : String} {index : Nat} {y : MethodName} {bytes : ByteArray} {maxL : Nat} {ret : Option FieldType} {hh : List (Nat × Nat × Nat × Nat)}
    (hown : s.vm.findClass own = some m.cls) (hlink : (Cond.methodLink own index y).before args s = true) (hstat : (Cond.static y).before args s = true) (hinit : (Cond.initialized y.cls).before args s = true)
    (hcode : (Cond.codeWith y bytes maxL ret hh).before args s = true) (hy : y.cls ≠ "java/lang/invoke/MethodHandle" ∧ y.cls ≠ "java/lang/invoke/VarHandle")
    {W9 : Nat} {Pre : Pt → Array Value → Prop} {Post : Pt → Array Value → Option Value → Pt → Prop} {PostX : Pt → Array Value → Addr → Pt → Prop} (hK : vx_Back l R p e below s args y 3 W9 Pre Post PostX)
    {g : JFrame} (hg : g.method = m) (hsize : g.locals.size = c.maxLocals) {argsL rest : List Value} (hlen : ∀ sig, parseMethodDescriptor y.desc = some sig → argsL.length = sig.parameters.length)
    (hstack : g.stack = argsL.reverse ++ rest) (hW : 2 * g.monitorRoom + (rest.map fun v => v.category).sum ≤ W9) (hdg : decode c.code g.pc = .ok (.invokestatic index, 3))
    (hpre : ∀ vm₁, s.WarmedH vm₁ → Pre ⟨T.setVm vm₁, locs, cells, slots⟩ argsL.toArray) :
    (∃ (v : Option Value) (vm₁ : Vm) (B : Pt), s.WarmedH vm₁ ∧ Stand p l e R s m args below meth c B.U B.locs B.cells B.slots ∧ Post ⟨T.setVm vm₁, locs, cells, slots⟩ argsL.toArray v B ∧
      ∀ target, Steps p.tables e below (B.U.setTop { g with pc := g.pc + 3, stack := v.toList ++ rest }) target → Steps p.tables e below (T.setTop g) target) ∨
    (∃ (q : Addr) (vm₁ : Vm) (B : Pt), s.WarmedH vm₁ ∧ Stand p l e R s m args below meth c B.U B.locs B.cells B.slots ∧ PostX ⟨T.setVm vm₁, locs, cells, slots⟩ argsL.toArray q B ∧
      Steps p.tables e below (T.setTop g) ((B.U.setTop { g with stack := rest }).pushFrame (.throwing q))) := by
  obtain ⟨mk, methM, cM, hnamed, hmethM, -, -, -, -, -, -, hsigM⟩ := Cond.codeWith_spec hcode
  have hstatic : methM.isStatic = true := Cond.static_spec hnamed hmethM hstat
  obtain ⟨kP, hkP, -⟩ := className_of_methodNamed hnamed
  have hinitP : kP.init = .initialized := Cond.initialized_spec (findClass_of_methodNamed hnamed) hkP hinit
  obtain ⟨vm₁, X₁, hstep₁⟩ := X.invokestatic hexec hown hlink hnamed hmethM hstatic hkP hinitP hy (g := g) hg (argsL := argsL) (rest := rest) (hlen _ hsigM) hstack hdg
  rcases hK m meth c ⟨T.setVm vm₁, locs, cells, slots⟩ { g with stack := rest } (.invokestatic index) mk argsL.toArray X₁ hg hsize hdg hW (X₁.named hnamed) (hpre vm₁ X₁.warmed) with ⟨v, B, X', hpost, hsteps⟩ | ⟨q, B, X', hpost, hsteps⟩
  · exact Or.inl ⟨v, vm₁, B, X₁.warmed, X', hpost, fun target h => hstep₁ _ fun acts => by rw [doInvoke_state]; exact hsteps.trans h⟩
  · exact Or.inr ⟨q, vm₁, B, X₁.warmed, X', hpost, hstep₁ _ fun acts => by rw [doInvoke_state]; exact hsteps⟩
theorem vx_callVW (X : Stand p l e R s m args below meth c T locs cells slots) (hexec : p.tables.exec = Jvm.exec) {own C : String} {index : Nat} {y : MethodName} {bytes : ByteArray} {maxL : Nat} {ret : Option FieldType} {hh : List (Nat × Nat × Nat × Nat)}
    (hown : s.vm.findClass own = some m.cls) (hlink : (Cond.methodLink own index y).before args s = true) (hinst : (Cond.instanceMethod y).before args s = true) (hsel : (Cond.selects C y y).before args s = true)
    (hcode : (Cond.codeWith y bytes maxL ret hh).before args s = true) (hy : y.cls ≠ "java/lang/invoke/MethodHandle" ∧ y.cls ≠ "java/lang/invoke/VarHandle")
    {W9 : Nat} {Pre : Pt → Array Value → Prop} {Post : Pt → Array Value → Option Value → Pt → Prop} (hK : Back l R p e below s args y 3 W9 Pre Post)
    {b : Addr} {cellB : Cell} (hcell : T.heap[b]? = some cellB) (hobj : cellB.vm.isStatics = false) (hcls : s.vm.findClass C = some cellB.cls)
    {g : JFrame} (hg : g.method = m) (hsize : g.locals.size = c.maxLocals) {argsL rest : List Value} (hlen : ∀ sig, parseMethodDescriptor y.desc = some sig → argsL.length = sig.parameters.length)
    (hstack : g.stack = argsL.reverse ++ .ref b :: rest) (hW : 2 * g.monitorRoom + (rest.map fun v => v.category).sum ≤ W9) (hdg : decode c.code g.pc = .ok (.invokevirtual index, 3))
    (hpre : ∀ vm₁, s.WarmedH vm₁ → Pre ⟨T.setVm vm₁, locs, cells, slots⟩ (Value.ref b :: argsL).toArray) :
    ∃ (v : Option Value) (vm₁ : Vm) (B : Pt), s.WarmedH vm₁ ∧ Stand p l e R s m args below meth c B.U B.locs B.cells B.slots ∧ Post ⟨T.setVm vm₁, locs, cells, slots⟩ (Value.ref b :: argsL).toArray v B ∧
      ∀ target, Steps p.tables e below (B.U.setTop { g with pc := g.pc + 3, stack := v.toList ++ rest }) target → Steps p.tables e below (T.setTop g) target := by
  obtain ⟨mk, methM, hnamed, hmethM, hstM, habM⟩ := Cond.instanceMethod_spec hinst
  obtain ⟨m8, methM', cM, hn8, hmethM', -, -, -, -, -, -, hsigM⟩ := Cond.codeWith_spec hcode
  cases Option.some.inj (hn8.symm.trans hnamed)
  cases hmethM.symm.trans hmethM'
  obtain ⟨c2, r2, m2, q1, q2, q3, q4, kP, hkP, hkPi⟩ := Cond.selects_spec hsel
  cases hcls.symm.trans q1
  cases (State.methodFound?_of_named hnamed hy).symm.trans q2
  cases hnamed.symm.trans q3
  have hselP : selectMethod e.platform s.vm cellB.cls mk = .method mk := by rw [Launch.admits_selectMethod X.admits]; exact q4
  obtain ⟨vm₁, X₁, hstep₁⟩ := X.invokevirtual hexec hown hlink hnamed hmethM hstM hkP hkPi hy (a := b) (cell := cellB) hcell
    (fun z h => by rw [h] at hobj; cases hobj) hselP hmethM habM hkP hkPi (g := g) hg (argsL := argsL) (rest := rest) (hlen _ hsigM) hstack hdg
  obtain ⟨v, B, X', hpost, hsteps⟩ := hK m meth c ⟨T.setVm vm₁, locs, cells, slots⟩ { g with stack := rest } (.invokevirtual index) mk (Value.ref b :: argsL).toArray X₁ hg hsize hdg hW (X₁.named hnamed) (hpre vm₁ X₁.warmed)
  exact ⟨v, vm₁, B, X₁.warmed, X', hpost, fun target h => hstep₁ _ fun acts => by rw [doInvoke_state]; exact hsteps.trans h⟩
abbrev vx_CVW (R : Room) (s : State) (args : Array Value) (own C : String) (index : Nat) (y : MethodName) (bytes : ByteArray) (maxL : Nat) (ret : Option FieldType) (hh : List (Nat × Nat × Nat × Nat)) (ws : List Cond) (rm : Room) (mc ms n : Nat) : Prop :=
  (rm.cells = mc ∧ rm.slots = ms ∧ rm.frames + 1 ≤ R.frames ∧ 8 + (maxL + 11) + rm.locals ≤ R.locals ∧ (∀ w ∈ ws, ∀ (a' : Array Value) (U : State), s.WarmedH U.vm → w.before a' U = true) ∧ Cond.codeWith y bytes maxL ret hh ∈ ws) ∧
  (Cond.codeWith y bytes maxL ret hh).before args s = true ∧ (Cond.initialized y.cls).before args s = true ∧ (y.cls ≠ "java/lang/invoke/MethodHandle" ∧ y.cls ≠ "java/lang/invoke/VarHandle") ∧
  (∀ sig, parseMethodDescriptor y.desc = some sig → n = sig.parameters.length) ∧ (Cond.methodLink own index y).before args s = true ∧ (Cond.instanceMethod y).before args s = true ∧ (Cond.selects C y y).before args s = true
theorem vx_cwVW {own C : String} {index maxL mc ms : Nat} {y : MethodName} {bytes : ByteArray} {ret : Option FieldType} {hh : List (Nat × Nat × Nat × Nat)} {Ts ws ws' : List Cond} {rm : Room} (n : Nat) (ht : ∀ w ∈ Ts, w.before args s = true) (hT : GoodIn Ts (wsV own index C y ws)) (hw : ws = Cond.codeWith y bytes maxL ret hh :: ws') (hrc : rm.cells = mc) (hrs : rm.slots = ms)
    (hd : y.cls = C ∧ y.cls ≠ "java/lang/invoke/MethodHandle" ∧ y.cls ≠ "java/lang/invoke/VarHandle" ∧ (parseMethodDescriptor y.desc).map (fun d => d.parameters.length) = some n) (hR : rm.frames + 1 ≤ R.frames ∧ 8 + (maxL + 11) + rm.locals ≤ R.locals) :
    vx_CVW R s args own C index y bytes maxL ret hh ws rm mc ms n := by
  obtain ⟨hC, hd⟩ := hd
  subst hC
  have ok : ∀ w ∈ wsV own index y.cls y ws, w.before args s = true := fun w h => ht w (hT w h).1
  have hG : GoodIn Ts ws := fun w h => hT w (by unfold wsV; exact List.mem_append_right _ h)
  have hc : Cond.codeWith y bytes maxL ret hh ∈ ws := by rw [hw]; exact List.mem_cons_self
  refine ⟨⟨hrc, hrs, hR.1, hR.2, pay_in ht hG, hc⟩, ht _ (hG _ hc).1, ok _ (by simp [wsV]), ⟨hd.1, hd.2.1⟩, fun sig h => ?_, ok _ (by simp [wsV]), ok _ (by simp [wsV]), ok _ (by simp [wsV])⟩
  have h2 := hd.2.2
  rw [h] at h2
  exact (Option.some.inj h2).symm
theorem vx_runVW {y : MethodName} {bytes cc : ByteArray} {maxL nL mc ms n index : Nat} {ret : Option FieldType} {hh : List (Nat × Nat × Nat × Nat)} {ws : List Cond} {rm : Room} {Pc : Array Value → State → Prop} {Qc : Array Value → State → Outcome → State → Prop} {free : Addr → Prop} {Ts : List Cond} {own C : String} {b : Addr} {As rest : List Value} {g : JFrame}
    (S : CallFix p m c cc nL s args Ts own) (hM : Met l y ws rm Pc Qc mc ms free) (cw : vx_CVW R s args own C index y bytes maxL ret hh ws rm mc ms n) (hp : PreV s H C b Pc As)
    (hg : g.method = m) (hn : As.length = n) (hsize : g.locals.size = nL) (hstack : g.stack = As.reverse ++ .ref b :: rest) (hW : 2 * g.monitorRoom + (rest.map fun v => v.category).sum ≤ 8) (hdg : decode cc g.pc = .ok (.invokevirtual index, 3)) (hf : cells + mc ≤ R.cells ∧ slots + ms ≤ R.slots) :
    va_Run p l e R s m args below meth c H locs cells slots mc ms g rest (Qc (Value.ref b :: As).toArray) free := by
  obtain ⟨⟨hrc, hrs, hfr, hlo, hws, hcw⟩, hcode, hini, hy, hlen, hl, hin, hse⟩ := cw
  have hK : Back l R p e below s args y 3 8 (PreOf R mc ms Pc) (PostOf Qc mc ms free) := va_backW (hh := hh) (bytes := bytes) (maxL := maxL) (ret := ret) hM hp.1 hrc hrs hfr hlo hws hcw (fun a' U hW => word_at hW (Or.inl (by first | rfl | simp [Cond.onTables, Cond.keeps, Cond.steady])) hini)
  obtain ⟨hx, hb, hml, ho, -⟩ := S
  obtain ⟨-, ⟨cellB, hcB, hoB, hclB⟩, hPc⟩ := hp
  intro T hT X
  obtain ⟨v, vm₁, ⟨U', l2, c2, s2⟩, hW₁, X', ⟨g', mk, t, L, e1, e2, hq, h1, hL, h2, h3⟩, st⟩ := vx_callVW X hx (C := C) (hh := hh) (bytes := bytes) (maxL := maxL) (ret := ret) ho hl hin hse hcode hy hK (by rw [hT]; exact hcB) hoB hclB hg (hsize.trans hml.symm) (argsL := As) (rest := rest) (fun sig h => hn.trans (hlen sig h)) hstack hW (by rw [hb]; exact hdg)
    (fun vm₁ hW₁ => ⟨hf.1, hf.2, hPc (T.setVm vm₁) hT hW₁⟩)
  dsimp only [Pt.U, Pt.locs, Pt.cells, Pt.slots] at X' e1 e2 h1 h2 h3 st
  subst h1; subst h2; subst h3
  exact ⟨v, (T.setVm vm₁).calling g' mk (Value.ref b :: As).toArray, t, U', L, hT, X', hL, e1, e2, hq, st⟩
section
variable {y : MethodName} {bytes cc : ByteArray} {maxL nL mc ms n index : Nat} {ret : Option FieldType} {ws : List Cond} {rm : Room} {Pc : Array Value → State → Prop} {Qc : Array Value → State → Outcome → State → Prop} {XC : String → State → State → Prop} {free : Addr → Prop} {Ts : List Cond} {own C : String} {b : Addr} {As rest : List Value} {g : JFrame}
theorem vx_runVX {hh : List (Nat × Nat × Nat × Nat)} (S : CallFix p m c cc nL s args Ts own) (hM : vx_Met l y ws rm Pc Qc XC mc ms free) (cw : vx_CVW R s args own C index y bytes maxL ret hh ws rm mc ms n) (hp : PreV s H C b Pc As)
    (hg : g.method = m) (hn : As.length = n) (hsize : g.locals.size = nL) (hstack : g.stack = As.reverse ++ .ref b :: rest) (hW : 2 * g.monitorRoom + (rest.map fun v => v.category).sum ≤ 8) (hdg : decode cc g.pc = .ok (.invokevirtual index, 3)) (hf : cells + mc ≤ R.cells ∧ slots + ms ≤ R.slots) :
    vx_Run p l e R s m args below meth c H locs cells slots mc ms g rest (Qc (Value.ref b :: As).toArray) XC free := by
  obtain ⟨⟨hrc, hrs, hfr, hlo, hws, hcw⟩, hcode, hini, hy, hlen, hl, hin, hse⟩ := cw
  have hK : vx_Back l R p e below s args y 3 8 (PreOf R mc ms Pc) (PostOf Qc mc ms free) (vx_Post XC mc ms free) := vx_backW (hh := hh) (bytes := bytes) (maxL := maxL) (ret := ret) hM hp.1 hrc hrs hfr hlo hws hcw (fun a' U hW => word_at hW (Or.inl (by first | rfl | simp [Cond.onTables, Cond.keeps, Cond.steady])) hini)
  obtain ⟨hx, hb, hml, ho, -⟩ := S
  obtain ⟨-, ⟨cellB, hcB, hoB, hclB⟩, hPc⟩ := hp
  intro T hT X
  rcases vx_callVX X hx (C := C) (hh := hh) (bytes := bytes) (maxL := maxL) (ret := ret) ho hl hin hse hcode hy hK (by rw [hT]; exact hcB) hoB hclB hg (hsize.trans hml.symm) (argsL := As) (rest := rest) (fun sig h => hn.trans (hlen sig h)) hstack hW (by rw [hb]; exact hdg)
    (fun vm₁ hW₁ => ⟨hf.1, hf.2, hPc (T.setVm vm₁) hT hW₁⟩) with ⟨v, vm₁, ⟨U', l2, c2, s2⟩, hW₁, X', ⟨g', mk, t, L, e1, e2, hq, h1, hL, h2, h3⟩, st⟩ | ⟨q, vm₁, ⟨U', l2, c2, s2⟩, hW₁, X', ⟨g', mk, t, L, E, ce, e1, e2, hq, hce, hcv, hcl, h1, hL, h2, h3⟩, st⟩
  · dsimp only [Pt.U, Pt.locs, Pt.cells, Pt.slots] at X' e1 e2 h1 h2 h3 st
    subst h1; subst h2; subst h3
    exact Or.inl ⟨v, (T.setVm vm₁).calling g' mk (Value.ref b :: As).toArray, t, U', L, hT, X', hL, e1, e2, hq, st⟩
  · dsimp only [Pt.U, Pt.locs, Pt.cells, Pt.slots] at X' e1 e2 h1 h2 h3 st hcl
    subst h1; subst h2; subst h3
    exact Or.inr ⟨q, (T.setVm vm₁).calling g' mk (Value.ref b :: As).toArray, t, U', L, E, ce, hT, X', hL, e1, e2, hq, hce, hcv, vx_cls hW₁ hcl, st⟩
theorem vx_runSX {hh : List (Nat × Nat × Nat × Nat)} (S : CallFix p m c cc nL s args Ts own) (hM : vx_Met l y ws rm Pc Qc XC mc ms free) (cw : vx_CSW R s args own index y bytes maxL ret hh ws rm mc ms n) (hp : PreS s H Pc As)
    (hg : g.method = m) (hn : As.length = n) (hsize : g.locals.size = nL) (hstack : g.stack = As.reverse ++ rest) (hW : 2 * g.monitorRoom + (rest.map fun v => v.category).sum ≤ 8) (hdg : decode cc g.pc = .ok (.invokestatic index, 3)) (hf : cells + mc ≤ R.cells ∧ slots + ms ≤ R.slots) :
    vx_Run p l e R s m args below meth c H locs cells slots mc ms g rest (Qc As.toArray) XC free := by
  obtain ⟨⟨hrc, hrs, hfr, hlo, hws, hcw⟩, hcode, hini, hy, hlen, hl, hstt⟩ := cw
  have hK : vx_Back l R p e below s args y 3 8 (PreOf R mc ms Pc) (PostOf Qc mc ms free) (vx_Post XC mc ms free) := vx_backW (hh := hh) (bytes := bytes) (maxL := maxL) (ret := ret) hM hp.1 hrc hrs hfr hlo hws hcw (fun a' U hW => word_at hW (Or.inl (by first | rfl | simp [Cond.onTables, Cond.keeps, Cond.steady])) hini)
  obtain ⟨hx, hb, hml, ho, -⟩ := S
  intro T hT X
  rcases vx_callSX X hx (hh := hh) (bytes := bytes) (maxL := maxL) (ret := ret) ho hl hstt hini hcode hy hK hg (hsize.trans hml.symm) (argsL := As) (rest := rest) (fun sig h => hn.trans (hlen sig h)) hstack hW (by rw [hb]; exact hdg)
    (fun vm₁ hW₁ => ⟨hf.1, hf.2, hp.2 (T.setVm vm₁) hT hW₁⟩) with ⟨v, vm₁, ⟨U', l2, c2, s2⟩, hW₁, X', ⟨g', mk, t, L, e1, e2, hq, h1, hL, h2, h3⟩, st⟩ | ⟨q, vm₁, ⟨U', l2, c2, s2⟩, hW₁, X', ⟨g', mk, t, L, E, ce, e1, e2, hq, hce, hcv, hcl, h1, hL, h2, h3⟩, st⟩
  · dsimp only [Pt.U, Pt.locs, Pt.cells, Pt.slots] at X' e1 e2 h1 h2 h3 st
    subst h1; subst h2; subst h3
    exact Or.inl ⟨v, (T.setVm vm₁).calling g' mk As.toArray, t, U', L, hT, X', hL, e1, e2, hq, st⟩
  · dsimp only [Pt.U, Pt.locs, Pt.cells, Pt.slots] at X' e1 e2 h1 h2 h3 st hcl
    subst h1; subst h2; subst h3
    exact Or.inr ⟨q, (T.setVm vm₁).calling g' mk As.toArray, t, U', L, E, ce, hT, X', hL, e1, e2, hq, hce, hcv, vx_cls hW₁ hcl, st⟩
end
end VXH
theorem vx_ofWH {l : Launch} {y : MethodName} {ws ws' : List Cond} {rm : Room} {Pc : Array Value → State → Prop} {Qc : Array Value → State → Outcome → State → Prop} {XC : String → State → State → Prop} {mc ms : Nat} {free : Addr → Prop} {cc : ByteArray} {maxL : Nat} {ret : Option FieldType} {hh : List (Nat × Nat × Nat × Nat)}
    (hy : plainName y.cls = true) (hw : ws = Cond.codeWith y cc maxL ret hh :: ws')
    (body : ∀ p e s m args below meth c s₁, BodyLoose p l y (headSpec ws rm) cc maxL ret e s m args below meth c s₁ → c.maxLocals = maxL → Pc args s →
      W p l e (headSpec ws rm).room s m args below meth c s.heap [] 0 0 (vx_MQ below Qc XC args s mc ms free) (entryFrame m args maxL)) : vx_Met l y ws rm Pc Qc XC mc ms free := by
  refine MetFree.of_bodyS (code := cc) (maxLocals := maxL) (ret := ret) hy ?_ ?_
  · intro args s m h hn
    obtain ⟨m9, meth, c, hn9, h1, h2, h3, h4, -, h5, h6, -⟩ := Cond.codeWith_spec (atoms_spec (ws := ws) h _ (by rw [hw]; exact List.mem_cons_self))
    cases hn.symm.trans hn9
    exact ⟨meth, c, h1, h2, h3, h4, h5, h6⟩
  · intro p e s m args below meth c s₁ B hml hP _
    have hh0 : s₁.heap = s.heap := by rw [B.state]; rfl
    obtain ⟨t, a1, o, b1, b2, b3⟩ := body p e s m args below meth c s₁ B hml hP s₁ hh0 (Stand.of_body B)
    exact ⟨t, o, a1, b1, b2, b3⟩
/-! ===== END ===== -/
end
section
/-! ===== names of the class, printed by wip/whole/names.py ===== -/
def RX0 : String := "DeltaDesk$Blocks"
def TX0 : u_T := fun k => match k with
  | 0 => ("DeltaDesk$Blocks", "row", "LDeltaDesk$Row;", true)
  | 1 => ("DeltaDesk$Blocks", "weaks", "[I", true)
  | 2 => ("DeltaDesk$Blocks", "strongs", "[J", true)
  | 3 => ("DeltaDesk$Blocks", "usualSize", "I", false)
  | 4 => ("DeltaDesk$Blocks", "lastSize", "I", false)
  | _ => ("DeltaDesk$Blocks", "count", "I", false)
def tyX0 : Nat → FieldType := fun k => match k with
  | 0 => .object "DeltaDesk$Row"
  | 1 => .array .int
  | 2 => .array .long
  | 3 => .int
  | 4 => .int
  | _ => .int
abbrev wsX00 : List Cond := u_ws RX0 TX0 6
theorem nmX0 : ∀ a, a < 6 → ∀ b, b < 6 → a ≠ b → (TX0 a).2.1 ≠ (TX0 b).2.1 := by decide +kernel
theorem tyX0_ok : ∀ k, k < 6 → parseFieldDescriptor (TX0 k).2.2.1 = some (tyX0 k) := by decide +kernel
def RX1 : String := "DeltaDesk$Row"
def TX1 : u_T := fun k => match k with
  | 0 => ("DeltaDesk$Row", "octets", "[I", true)
  | _ => ("DeltaDesk$Row", "length", "I", false)
def tyX1 : Nat → FieldType := fun k => match k with
  | 0 => .array .int
  | _ => .int
abbrev wsX10 : List Cond := u_ws RX1 TX1 2
theorem nmX1 : ∀ a, a < 2 → ∀ b, b < 2 → a ≠ b → (TX1 a).2.1 ≠ (TX1 b).2.1 := by decide +kernel
theorem tyX1_ok : ∀ k, k < 2 → parseFieldDescriptor (TX1 k).2.2.1 = some (tyX1 k) := by decide +kernel
def RX2 : String := "DeltaDesk$Tokens"
def TX2 : u_T := fun k => match k with
  | 0 => ("DeltaDesk$Tokens", "kinds", "[I", true)
  | 1 => ("DeltaDesk$Tokens", "firsts", "[I", true)
  | 2 => ("DeltaDesk$Tokens", "lengths", "[I", true)
  | _ => ("DeltaDesk$Tokens", "count", "I", false)
def tyX2 : Nat → FieldType := fun k => match k with
  | 0 => .array .int
  | 1 => .array .int
  | 2 => .array .int
  | _ => .int
abbrev wsX20 : List Cond := u_ws RX2 TX2 4
theorem nmX2 : ∀ a, a < 4 → ∀ b, b < 4 → a ≠ b → (TX2 a).2.1 ≠ (TX2 b).2.1 := by decide +kernel
theorem tyX2_ok : ∀ k, k < 4 → parseFieldDescriptor (TX2 k).2.2.1 = some (tyX2 k) := by decide +kernel
def RX3 : String := "DeltaDesk$Window"
def TX3 : u_T := fun k => match k with
  | 0 => ("DeltaDesk$Window", "row", "LDeltaDesk$Row;", true)
  | 1 => ("DeltaDesk$Window", "size", "I", false)
  | 2 => ("DeltaDesk$Window", "place", "I", false)
  | 3 => ("DeltaDesk$Window", "inside", "Z", false)
  | 4 => ("DeltaDesk$Window", "a", "I", false)
  | 5 => ("DeltaDesk$Window", "b", "I", false)
  | 6 => ("DeltaDesk$Window", "weakHere", "I", false)
  | 7 => ("DeltaDesk$Window", "strongHere", "J", false)
  | _ => ("DeltaDesk$Window", "knowsStrong", "Z", false)
def tyX3 : Nat → FieldType := fun k => match k with
  | 0 => .object "DeltaDesk$Row"
  | 1 => .int
  | 2 => .int
  | 3 => .boolean
  | 4 => .int
  | 5 => .int
  | 6 => .int
  | 7 => .long
  | _ => .boolean
abbrev wsX30 : List Cond := u_ws RX3 TX3 9
theorem nmX3 : ∀ a, a < 9 → ∀ b, b < 9 → a ≠ b → (TX3 a).2.1 ≠ (TX3 b).2.1 := by decide +kernel
theorem tyX3_ok : ∀ k, k < 9 → parseFieldDescriptor (TX3 k).2.2.1 = some (tyX3 k) := by decide +kernel
def RX4 : String := "DeltaDesk"
def TX4 : u_T := fun k => match k with
  | 0 => ("DeltaDesk", "oldRow", "LDeltaDesk$Row;", true)
  | 1 => ("DeltaDesk", "newRow", "LDeltaDesk$Row;", true)
  | 2 => ("DeltaDesk", "made", "LDeltaDesk$Row;", true)
  | 3 => ("DeltaDesk", "blocks", "LDeltaDesk$Blocks;", true)
  | 4 => ("DeltaDesk", "usualWindow", "LDeltaDesk$Window;", true)
  | 5 => ("DeltaDesk", "lastWindow", "LDeltaDesk$Window;", true)
  | 6 => ("DeltaDesk", "tokens", "LDeltaDesk$Tokens;", true)
  | _ => ("DeltaDesk", "hasDelta", "Z", false)
def tyX4 : Nat → FieldType := fun k => match k with
  | 0 => .object "DeltaDesk$Row"
  | 1 => .object "DeltaDesk$Row"
  | 2 => .object "DeltaDesk$Row"
  | 3 => .object "DeltaDesk$Blocks"
  | 4 => .object "DeltaDesk$Window"
  | 5 => .object "DeltaDesk$Window"
  | 6 => .object "DeltaDesk$Tokens"
  | _ => .boolean
abbrev wsX40 : List Cond := u_ws RX4 TX4 8
theorem nmX4 : ∀ a, a < 8 → ∀ b, b < 8 → a ≠ b → (TX4 a).2.1 ≠ (TX4 b).2.1 := by decide +kernel
theorem tyX4_ok : ∀ k, k < 8 → parseFieldDescriptor (TX4 k).2.2.1 = some (tyX4 k) := by decide +kernel
def RX5 : String := "DeltaDeskModel"
def TX5 : u_T := fun k => match k with
  | 0 => ("DeltaDeskModel", "err", "I", false)
  | 1 => ("DeltaDeskModel", "octets", "[I", true)
  | 2 => ("DeltaDeskModel", "then", "[I", true)
  | 3 => ("DeltaDeskModel", "made", "[I", true)
  | 4 => ("DeltaDeskModel", "sizes", "[I", true)
  | 5 => ("DeltaDeskModel", "thenSizes", "[I", true)
  | 6 => ("DeltaDeskModel", "kind", "[I", true)
  | 7 => ("DeltaDeskModel", "first", "[I", true)
  | 8 => ("DeltaDeskModel", "many", "[I", true)
  | 9 => ("DeltaDeskModel", "tokens", "I", false)
  | 10 => ("DeltaDeskModel", "is", "Z", false)
  | _ => ("DeltaDeskModel", "width", "I", false)
def tyX5 : Nat → FieldType := fun k => match k with
  | 0 => .int
  | 1 => .array .int
  | 2 => .array .int
  | 3 => .array .int
  | 4 => .array .int
  | 5 => .array .int
  | 6 => .array .int
  | 7 => .array .int
  | 8 => .array .int
  | 9 => .int
  | 10 => .boolean
  | _ => .int
abbrev wsX50 : List Cond := u_ws RX5 TX5 12
theorem nmX5 : ∀ a, a < 12 → ∀ b, b < 12 → a ≠ b → (TX5 a).2.1 ≠ (TX5 b).2.1 := by decide +kernel
theorem tyX5_ok : ∀ k, k < 12 → parseFieldDescriptor (TX5 k).2.2.1 = some (tyX5 k) := by decide +kernel
abbrev vwCl : List vw_C := [(RX0, TX0, 6), (RX1, TX1, 2), (RX2, TX2, 4), (RX3, TX3, 9), (RX4, TX4, 8), (RX5, TX5, 12)]
def RL : String := "DeltaDeskLaw"
abbrev cX4_init : ByteArray := prog_1_method_1_code
def yX4_init : MethodName := ⟨RX4, "<init>", "()V"⟩
abbrev cX4_size : ByteArray := prog_1_method_2_code
def yX4_size : MethodName := ⟨RX4, "size", "(II)V"⟩
abbrev cX4_put : ByteArray := prog_1_method_3_code
def yX4_put : MethodName := ⟨RX4, "put", "(IIJ)V"⟩
abbrev cX4_move : ByteArray := prog_1_method_4_code
def yX4_move : MethodName := ⟨RX4, "move", "(IIIII)V"⟩
abbrev cX4_octet : ByteArray := prog_1_method_5_code
def yX4_octet : MethodName := ⟨RX4, "octet", "(II)I"⟩
abbrev cX4_weak : ByteArray := prog_1_method_6_code
def yX4_weak : MethodName := ⟨RX4, "weak", "(III)I"⟩
abbrev cX4_strong : ByteArray := prog_1_method_7_code
def yX4_strong : MethodName := ⟨RX4, "strong", "(III)J"⟩
abbrev cX4_find : ByteArray := prog_1_method_8_code
def yX4_find : MethodName := ⟨RX4, "find", "(IIII)I"⟩
abbrev cX4_delta : ByteArray := prog_1_method_9_code
def yX4_delta : MethodName := ⟨RX4, "delta", "(II)I"⟩
abbrev cX4_token : ByteArray := prog_1_method_10_code
def yX4_token : MethodName := ⟨RX4, "token", "(II)I"⟩
abbrev cX4_sent : ByteArray := prog_1_method_11_code
def yX4_sent : MethodName := ⟨RX4, "sent", "()I"⟩
abbrev cX4_patch : ByteArray := prog_1_method_12_code
def yX4_patch : MethodName := ⟨RX4, "patch", "()I"⟩
abbrev cX4_same : ByteArray := prog_1_method_13_code
def yX4_same : MethodName := ⟨RX4, "same", "()Z"⟩
abbrev cX4_count : ByteArray := prog_1_method_14_code
def yX4_count : MethodName := ⟨RX4, "count", "(I)I"⟩
abbrev cX4_row : ByteArray := prog_1_method_15_code
def yX4_row : MethodName := ⟨RX4, "row", "(I)LDeltaDesk$Row;"⟩
abbrev cX4_checkRow : ByteArray := prog_1_method_16_code
def yX4_checkRow : MethodName := ⟨RX4, "checkRow", "(I)V"⟩
abbrev cX4_checkOctet : ByteArray := prog_1_method_17_code
def yX4_checkOctet : MethodName := ⟨RX4, "checkOctet", "(LDeltaDesk$Row;I)V"⟩
abbrev cX4_checkRange : ByteArray := prog_1_method_18_code
def yX4_checkRange : MethodName := ⟨RX4, "checkRange", "(LDeltaDesk$Row;II)V"⟩
abbrev cX4_checkBlocks : ByteArray := prog_1_method_19_code
def yX4_checkBlocks : MethodName := ⟨RX4, "checkBlocks", "(II)V"⟩
abbrev cX4_blockCount : ByteArray := prog_1_method_20_code
def yX4_blockCount : MethodName := ⟨RX4, "blockCount", "(II)I"⟩
abbrev cX4_strongMask : ByteArray := prog_1_method_21_code
def yX4_strongMask : MethodName := ⟨RX4, "strongMask", "(I)J"⟩
abbrev cX4_firstPlace : ByteArray := prog_1_method_22_code
def yX4_firstPlace : MethodName := ⟨RX4, "firstPlace", "(IIJI)I"⟩
abbrev cX4_makeDelta : ByteArray := prog_1_method_23_code
def yX4_makeDelta : MethodName := ⟨RX4, "makeDelta", "(J)V"⟩
abbrev cX4_blockAt : ByteArray := prog_1_method_24_code
def yX4_blockAt : MethodName := ⟨RX4, "blockAt", "(IIJ)I"⟩
abbrev cX4_fits : ByteArray := prog_1_method_25_code
def yX4_fits : MethodName := ⟨RX4, "fits", "(IJ)Z"⟩
abbrev cX5_init : ByteArray := prog_7_method_1_code
def yX5_init : MethodName := ⟨RX5, "<init>", "()V"⟩
abbrev cX5_thrown : ByteArray := prog_7_method_2_code
def yX5_thrown : MethodName := ⟨RX5, "thrown", "()I"⟩
abbrev cX5_fails : ByteArray := prog_7_method_3_code
def yX5_fails : MethodName := ⟨RX5, "fails", "(ZI)Z"⟩
abbrev cX5_no : ByteArray := prog_7_method_4_code
def yX5_no : MethodName := ⟨RX5, "no", "(I)Z"⟩
abbrev cX5_size : ByteArray := prog_7_method_5_code
def yX5_size : MethodName := ⟨RX5, "size", "(II)V"⟩
abbrev cX5_put : ByteArray := prog_7_method_6_code
def yX5_put : MethodName := ⟨RX5, "put", "(IIJ)V"⟩
abbrev cX5_lacks : ByteArray := prog_7_method_7_code
def yX5_lacks : MethodName := ⟨RX5, "lacks", "(III)Z"⟩
abbrev cX5_move : ByteArray := prog_7_method_8_code
def yX5_move : MethodName := ⟨RX5, "move", "(IIIII)V"⟩
abbrev cX5_octet : ByteArray := prog_7_method_9_code
def yX5_octet : MethodName := ⟨RX5, "octet", "(II)I"⟩
abbrev cX5_weakOf : ByteArray := prog_7_method_10_code
def yX5_weakOf : MethodName := ⟨RX5, "weakOf", "(III)I"⟩
abbrev cX5_strongOf : ByteArray := prog_7_method_11_code
def yX5_strongOf : MethodName := ⟨RX5, "strongOf", "(III)J"⟩
abbrev cX5_weak : ByteArray := prog_7_method_12_code
def yX5_weak : MethodName := ⟨RX5, "weak", "(III)I"⟩
abbrev cX5_strong : ByteArray := prog_7_method_13_code
def yX5_strong : MethodName := ⟨RX5, "strong", "(III)J"⟩
abbrev cX5_bad : ByteArray := prog_7_method_14_code
def yX5_bad : MethodName := ⟨RX5, "bad", "(II)Z"⟩
abbrev cX5_blocks : ByteArray := prog_7_method_15_code
def yX5_blocks : MethodName := ⟨RX5, "blocks", "(I)I"⟩
abbrev cX5_length : ByteArray := prog_7_method_16_code
def yX5_length : MethodName := ⟨RX5, "length", "(II)I"⟩
abbrev cX5_fits : ByteArray := prog_7_method_17_code
def yX5_fits : MethodName := ⟨RX5, "fits", "(IIII)Z"⟩
abbrev cX5_find : ByteArray := prog_7_method_18_code
def yX5_find : MethodName := ⟨RX5, "find", "(IIII)I"⟩
abbrev cX5_delta : ByteArray := prog_7_method_19_code
def yX5_delta : MethodName := ⟨RX5, "delta", "(II)I"⟩
abbrev cX5_token : ByteArray := prog_7_method_20_code
def yX5_token : MethodName := ⟨RX5, "token", "(II)I"⟩
abbrev cX5_sent : ByteArray := prog_7_method_21_code
def yX5_sent : MethodName := ⟨RX5, "sent", "()I"⟩
abbrev cX5_patch : ByteArray := prog_7_method_22_code
def yX5_patch : MethodName := ⟨RX5, "patch", "()I"⟩
abbrev cX5_same : ByteArray := prog_7_method_23_code
def yX5_same : MethodName := ⟨RX5, "same", "()Z"⟩
abbrev cX5_count : ByteArray := prog_7_method_24_code
def yX5_count : MethodName := ⟨RX5, "count", "(I)I"⟩
abbrev cX0_init : ByteArray := prog_2_method_1_code
def yX0_init : MethodName := ⟨RX0, "<init>", "(LDeltaDesk$Row;)V"⟩
abbrev cX0_cut : ByteArray := prog_2_method_2_code
def yX0_cut : MethodName := ⟨RX0, "cut", "(I)V"⟩
abbrev cX0_start : ByteArray := prog_2_method_3_code
def yX0_start : MethodName := ⟨RX0, "start", "(I)I"⟩
abbrev cX0_length : ByteArray := prog_2_method_4_code
def yX0_length : MethodName := ⟨RX0, "length", "(I)I"⟩
abbrev cX1_init : ByteArray := prog_3_method_1_code
def yX1_init : MethodName := ⟨RX1, "<init>", "()V"⟩
abbrev cX1_resize : ByteArray := prog_3_method_2_code
def yX1_resize : MethodName := ⟨RX1, "resize", "(I)V"⟩
abbrev cX1_write : ByteArray := prog_3_method_3_code
def yX1_write : MethodName := ⟨RX1, "write", "(IJ)V"⟩
abbrev cX1_append : ByteArray := prog_3_method_4_code
def yX1_append : MethodName := ⟨RX1, "append", "(LDeltaDesk$Row;II)V"⟩
abbrev cX1_weakSum : ByteArray := prog_3_method_5_code
def yX1_weakSum : MethodName := ⟨RX1, "weakSum", "(II)I"⟩
abbrev cX1_joinWeak : ByteArray := prog_3_method_6_code
def yX1_joinWeak : MethodName := ⟨RX1, "joinWeak", "(II)I"⟩
abbrev cX1_strongSum : ByteArray := prog_3_method_7_code
def yX1_strongSum : MethodName := ⟨RX1, "strongSum", "(II)J"⟩
abbrev cX2_init : ByteArray := prog_4_method_1_code
def yX2_init : MethodName := ⟨RX2, "<init>", "()V"⟩
abbrev cX2_clear : ByteArray := prog_4_method_2_code
def yX2_clear : MethodName := ⟨RX2, "clear", "()V"⟩
abbrev cX2_add : ByteArray := prog_4_method_3_code
def yX2_add : MethodName := ⟨RX2, "add", "(II)V"⟩
abbrev cX2_goesOn : ByteArray := prog_4_method_4_code
def yX2_goesOn : MethodName := ⟨RX2, "goesOn", "(II)Z"⟩
abbrev cX3_init : ByteArray := prog_5_method_1_code
def yX3_init : MethodName := ⟨RX3, "<init>", "(LDeltaDesk$Row;)V"⟩
abbrev cX3_open : ByteArray := prog_5_method_2_code
def yX3_open : MethodName := ⟨RX3, "open", "(I)V"⟩
abbrev cX3_moveTo : ByteArray := prog_5_method_3_code
def yX3_moveTo : MethodName := ⟨RX3, "moveTo", "(I)V"⟩
abbrev cX3_roll : ByteArray := prog_5_method_4_code
def yX3_roll : MethodName := ⟨RX3, "roll", "()V"⟩
abbrev cX3_sumAfresh : ByteArray := prog_5_method_5_code
def yX3_sumAfresh : MethodName := ⟨RX3, "sumAfresh", "(I)V"⟩
abbrev cX3_shows : ByteArray := prog_5_method_6_code
def yX3_shows : MethodName := ⟨RX3, "shows", "(IJJ)Z"⟩
abbrev cX3_strongSumHere : ByteArray := prog_5_method_7_code
def yX3_strongSumHere : MethodName := ⟨RX3, "strongSumHere", "()J"⟩
abbrev cL_size : ByteArray := method_3_code
def yL_size : MethodName := ⟨RL, "size", "(LDeltaDesk;II)I"⟩
abbrev cL_put : ByteArray := method_4_code
def yL_put : MethodName := ⟨RL, "put", "(LDeltaDesk;IIJ)I"⟩
abbrev cL_move : ByteArray := method_5_code
def yL_move : MethodName := ⟨RL, "move", "(LDeltaDesk;IIIII)I"⟩
abbrev cL_octet : ByteArray := method_6_code
def yL_octet : MethodName := ⟨RL, "octet", "(LDeltaDesk;II[J)I"⟩
abbrev cL_weak : ByteArray := method_7_code
def yL_weak : MethodName := ⟨RL, "weak", "(LDeltaDesk;III[J)I"⟩
abbrev cL_strong : ByteArray := method_8_code
def yL_strong : MethodName := ⟨RL, "strong", "(LDeltaDesk;III[J)I"⟩
abbrev cL_find : ByteArray := method_9_code
def yL_find : MethodName := ⟨RL, "find", "(LDeltaDesk;IIII[J)I"⟩
abbrev cL_delta : ByteArray := method_10_code
def yL_delta : MethodName := ⟨RL, "delta", "(LDeltaDesk;II[J)I"⟩
abbrev cL_token : ByteArray := method_11_code
def yL_token : MethodName := ⟨RL, "token", "(LDeltaDesk;II[J)I"⟩
abbrev cL_count : ByteArray := method_12_code
def yL_count : MethodName := ⟨RL, "count", "(LDeltaDesk;I[J)I"⟩
abbrev cL_law : ByteArray := code
def yL_law : MethodName := ⟨RL, "law", "([I)Z"⟩
def ds_words : List Cond := [
  Cond.code yX4_init cX4_init 1 none,
  Cond.methodLink RX4 3 objectInit,
  Cond.instanceMethod objectInit,
  Cond.code objectInit ⟨#[0xb1]⟩ 1 none,
  Cond.classLink RX4 9 RX1,
  Cond.instantiable RX1 2,
  Cond.initialized RX1,
  Cond.instanceMethod yX1_init,
  Cond.fieldLink RX4 12 "DeltaDesk" "oldRow" "LDeltaDesk$Row;",
  Cond.fieldLink RX4 16 "DeltaDesk" "newRow" "LDeltaDesk$Row;",
  Cond.fieldLink RX4 19 "DeltaDesk" "made" "LDeltaDesk$Row;",
  Cond.classLink RX4 22 RX0,
  Cond.instantiable RX0 6,
  Cond.initialized RX0,
  Cond.instanceMethod yX0_init,
  Cond.fieldLink RX4 27 "DeltaDesk" "blocks" "LDeltaDesk$Blocks;",
  Cond.classLink RX4 31 RX3,
  Cond.instantiable RX3 9,
  Cond.initialized RX3,
  Cond.instanceMethod yX3_init,
  Cond.fieldLink RX4 34 "DeltaDesk" "usualWindow" "LDeltaDesk$Window;",
  Cond.fieldLink RX4 38 "DeltaDesk" "lastWindow" "LDeltaDesk$Window;",
  Cond.classLink RX4 41 RX2,
  Cond.instantiable RX2 4,
  Cond.initialized RX2,
  Cond.instanceMethod yX2_init,
  Cond.fieldLink RX4 44 "DeltaDesk" "tokens" "LDeltaDesk$Tokens;",
  Cond.fieldLink RX4 48 "DeltaDesk" "hasDelta" "Z",
  Cond.code yX4_size cX4_size 3 none,
  Cond.methodLink RX4 52 yX4_checkRow,
  Cond.initialized RX4,
  Cond.static yX4_checkRow,
  Cond.classLink RX4 56 "java/lang/IllegalArgumentException",
  Cond.initialized "java/lang/IllegalArgumentException",
  Cond.methodLink RX4 63 yX4_row,
  Cond.instanceMethod yX4_row,
  Cond.selects RX4 yX4_row yX4_row,
  Cond.instanceMethod yX1_resize,
  Cond.selects RX1 yX1_resize yX1_resize,
  Cond.code yX4_put cX4_put 5 none,
  Cond.methodLink RX4 70 yX4_checkOctet,
  Cond.static yX4_checkOctet,
  Cond.instanceMethod yX1_write,
  Cond.selects RX1 yX1_write yX1_write,
  Cond.code yX4_move cX4_move 6 none,
  Cond.methodLink RX4 78 yX4_checkRange,
  Cond.static yX4_checkRange,
  Cond.methodLink RX4 86 arraycopyName,
  Cond.native arraycopyName,
  Cond.static arraycopyName,
  Cond.initialized "java/lang/System",
  Cond.code yX4_octet cX4_octet 3 (some .int),
  Cond.code yX4_weak cX4_weak 4 (some .int),
  Cond.instanceMethod yX1_weakSum,
  Cond.selects RX1 yX1_weakSum yX1_weakSum,
  Cond.code yX4_strong cX4_strong 4 (some .long),
  Cond.instanceMethod yX1_strongSum,
  Cond.selects RX1 yX1_strongSum yX1_strongSum,
  Cond.code yX4_find cX4_find 5 (some .int),
  Cond.methodLink RX4 100 yX4_checkBlocks,
  Cond.static yX4_checkBlocks,
  Cond.methodLink RX4 108 yX4_blockCount,
  Cond.static yX4_blockCount,
  Cond.classLink RX4 111 "java/lang/IndexOutOfBoundsException",
  Cond.initialized "java/lang/IndexOutOfBoundsException",
  Cond.methodLink RX4 118 Lib.Math.min.name,
  Cond.static Lib.Math.min.name,
  Cond.initialized "java/lang/Math",
  Cond.code Lib.Math.min.name Lib.Math.min.code 2 (some .int),
  Cond.methodLink RX4 123 yX4_strongMask,
  Cond.static yX4_strongMask,
  Cond.methodLink RX4 127 yX4_firstPlace,
  Cond.instanceMethod yX4_firstPlace,
  Cond.selects RX4 yX4_firstPlace yX4_firstPlace,
  Cond.code yX4_delta cX4_delta 3 (some .int),
  Cond.instanceMethod yX0_cut,
  Cond.selects RX0 yX0_cut yX0_cut,
  Cond.instanceMethod yX3_open,
  Cond.selects RX3 yX3_open yX3_open,
  Cond.instanceMethod yX2_clear,
  Cond.selects RX2 yX2_clear yX2_clear,
  Cond.methodLink RX4 143 yX4_makeDelta,
  Cond.instanceMethod yX4_makeDelta,
  Cond.selects RX4 yX4_makeDelta yX4_makeDelta,
  Cond.code yX4_token cX4_token 3 (some .int),
  Cond.code yX4_sent cX4_sent 3 (some .int),
  Cond.code yX4_patch cX4_patch 1 (some .int),
  Cond.instanceMethod yX1_append,
  Cond.selects RX1 yX1_append yX1_append,
  Cond.code yX4_same cX4_same 2 (some .boolean),
  Cond.code yX4_count cX4_count 2 (some .int),
  Cond.code yX4_row cX4_row 2 (some (.object "DeltaDesk$Row")),
  Cond.code yX4_checkRow cX4_checkRow 1 none,
  Cond.code yX4_checkOctet cX4_checkOctet 2 none,
  Cond.code yX4_checkRange cX4_checkRange 3 none,
  Cond.code yX4_checkBlocks cX4_checkBlocks 2 none,
  Cond.code yX4_blockCount cX4_blockCount 2 (some .int),
  Cond.code yX4_strongMask cX4_strongMask 1 (some .long),
  Cond.constantLong RX4 178 (-1),
  Cond.code yX4_firstPlace cX4_firstPlace 10 (some .int),
  Cond.instanceMethod yX3_moveTo,
  Cond.selects RX3 yX3_moveTo yX3_moveTo,
  Cond.instanceMethod yX3_shows,
  Cond.selects RX3 yX3_shows yX3_shows,
  Cond.code yX4_makeDelta cX4_makeDelta 7 none,
  Cond.methodLink RX4 187 yX4_blockAt,
  Cond.instanceMethod yX4_blockAt,
  Cond.selects RX4 yX4_blockAt yX4_blockAt,
  Cond.instanceMethod yX2_add,
  Cond.selects RX2 yX2_add yX2_add,
  Cond.instanceMethod yX0_start,
  Cond.selects RX0 yX0_start yX0_start,
  Cond.instanceMethod yX0_length,
  Cond.selects RX0 yX0_length yX0_length,
  Cond.code yX4_blockAt cX4_blockAt 6 (some .int),
  Cond.methodLink RX4 201 yX4_fits,
  Cond.instanceMethod yX4_fits,
  Cond.selects RX4 yX4_fits yX4_fits,
  Cond.code yX4_fits cX4_fits 5 (some .boolean),
  Cond.code yX5_init cX5_init 1 none,
  Cond.methodLink RX5 1 objectInit,
  Cond.arrayClass .int,
  Cond.fieldLink RX5 7 "DeltaDeskModel" "octets" "[I",
  Cond.fieldLink RX5 13 "DeltaDeskModel" "then" "[I",
  Cond.fieldLink RX5 16 "DeltaDeskModel" "made" "[I",
  Cond.fieldLink RX5 19 "DeltaDeskModel" "sizes" "[I",
  Cond.fieldLink RX5 22 "DeltaDeskModel" "thenSizes" "[I",
  Cond.fieldLink RX5 25 "DeltaDeskModel" "kind" "[I",
  Cond.fieldLink RX5 28 "DeltaDeskModel" "first" "[I",
  Cond.fieldLink RX5 31 "DeltaDeskModel" "many" "[I",
  Cond.code yX5_thrown cX5_thrown 1 (some .int),
  Cond.fieldLink RX5 34 "DeltaDeskModel" "err" "I",
  Cond.code yX5_fails cX5_fails 3 (some .boolean),
  Cond.code yX5_no cX5_no 1 (some .boolean),
  Cond.code yX5_size cX5_size 4 none,
  Cond.methodLink RX5 38 yX5_no,
  Cond.initialized RX5,
  Cond.static yX5_no,
  Cond.methodLink RX5 42 yX5_fails,
  Cond.instanceMethod yX5_fails,
  Cond.selects RX5 yX5_fails yX5_fails,
  Cond.code yX5_put cX5_put 6 none,
  Cond.code yX5_lacks cX5_lacks 4 (some .boolean),
  Cond.code yX5_move cX5_move 7 none,
  Cond.methodLink RX5 46 yX5_lacks,
  Cond.instanceMethod yX5_lacks,
  Cond.selects RX5 yX5_lacks yX5_lacks,
  Cond.code yX5_octet cX5_octet 3 (some .int),
  Cond.code yX5_weakOf cX5_weakOf 7 (some .int),
  Cond.constant RX5 50 65535,
  Cond.constant RX5 51 65536,
  Cond.code yX5_strongOf cX5_strongOf 7 (some .long),
  Cond.constantLong RX5 52 (-3750763034362895579),
  Cond.constantLong RX5 54 (1099511628211),
  Cond.code yX5_weak cX5_weak 4 (some .int),
  Cond.methodLink RX5 56 yX5_weakOf,
  Cond.instanceMethod yX5_weakOf,
  Cond.selects RX5 yX5_weakOf yX5_weakOf,
  Cond.code yX5_strong cX5_strong 4 (some .long),
  Cond.methodLink RX5 60 yX5_strongOf,
  Cond.instanceMethod yX5_strongOf,
  Cond.selects RX5 yX5_strongOf yX5_strongOf,
  Cond.code yX5_bad cX5_bad 2 (some .boolean),
  Cond.code yX5_blocks cX5_blocks 2 (some .int),
  Cond.code yX5_length cX5_length 3 (some .int),
  Cond.code yX5_fits cX5_fits 8 (some .boolean),
  Cond.methodLink RX5 64 yX5_length,
  Cond.instanceMethod yX5_length,
  Cond.selects RX5 yX5_length yX5_length,
  Cond.code yX5_find cX5_find 6 (some .int),
  Cond.methodLink RX5 68 yX5_bad,
  Cond.static yX5_bad,
  Cond.methodLink RX5 72 yX5_blocks,
  Cond.instanceMethod yX5_blocks,
  Cond.selects RX5 yX5_blocks yX5_blocks,
  Cond.methodLink RX5 76 yX5_fits,
  Cond.instanceMethod yX5_fits,
  Cond.selects RX5 yX5_fits yX5_fits,
  Cond.code yX5_delta cX5_delta 9 (some .int),
  Cond.fieldLink RX5 80 "DeltaDeskModel" "is" "Z",
  Cond.fieldLink RX5 84 "DeltaDeskModel" "tokens" "I",
  Cond.fieldLink RX5 87 "DeltaDeskModel" "width" "I",
  Cond.code yX5_token cX5_token 3 (some .int),
  Cond.code yX5_sent cX5_sent 3 (some .int),
  Cond.code yX5_patch cX5_patch 6 (some .int),
  Cond.code yX5_same cX5_same 2 (some .boolean),
  Cond.code yX5_count cX5_count 2 (some .int),
  Cond.code yX0_init cX0_init 2 none,
  Cond.methodLink RX0 3 objectInit,
  Cond.fieldLink RX0 9 "DeltaDesk$Blocks" "row" "LDeltaDesk$Row;",
  Cond.fieldLink RX0 15 "DeltaDesk$Blocks" "weaks" "[I",
  Cond.arrayClass .long,
  Cond.fieldLink RX0 19 "DeltaDesk$Blocks" "strongs" "[J",
  Cond.fieldLink RX0 23 "DeltaDesk$Blocks" "usualSize" "I",
  Cond.fieldLink RX0 27 "DeltaDesk$Blocks" "lastSize" "I",
  Cond.fieldLink RX0 30 "DeltaDesk$Blocks" "count" "I",
  Cond.code yX0_cut cX0_cut 3 none,
  Cond.methodLink RX0 42 yX0_start,
  Cond.methodLink RX0 46 yX0_length,
  Cond.code yX0_start cX0_start 2 (some .int),
  Cond.code yX0_length cX0_length 2 (some .int),
  Cond.code yX1_init cX1_init 1 none,
  Cond.methodLink RX1 3 objectInit,
  Cond.fieldLink RX1 9 "DeltaDesk$Row" "octets" "[I",
  Cond.fieldLink RX1 15 "DeltaDesk$Row" "length" "I",
  Cond.code yX1_resize cX1_resize 3 none,
  Cond.code yX1_write cX1_write 5 none,
  Cond.code yX1_append cX1_append 4 none,
  Cond.methodLink RX1 19 arraycopyName,
  Cond.code yX1_weakSum cX1_weakSum 6 (some .int),
  Cond.methodLink RX1 25 yX1_joinWeak,
  Cond.static yX1_joinWeak,
  Cond.code yX1_joinWeak cX1_joinWeak 2 (some .int),
  Cond.constant RX1 29 65535,
  Cond.constant RX1 30 65536,
  Cond.code yX1_strongSum cX1_strongSum 6 (some .long),
  Cond.constantLong RX1 31 (-3750763034362895579),
  Cond.constantLong RX1 33 (1099511628211),
  Cond.code yX2_init cX2_init 1 none,
  Cond.methodLink RX2 3 objectInit,
  Cond.fieldLink RX2 9 "DeltaDesk$Tokens" "kinds" "[I",
  Cond.fieldLink RX2 15 "DeltaDesk$Tokens" "firsts" "[I",
  Cond.fieldLink RX2 18 "DeltaDesk$Tokens" "lengths" "[I",
  Cond.fieldLink RX2 21 "DeltaDesk$Tokens" "count" "I",
  Cond.code yX2_clear cX2_clear 1 none,
  Cond.code yX2_add cX2_add 3 none,
  Cond.methodLink RX2 25 yX2_goesOn,
  Cond.instanceMethod yX2_goesOn,
  Cond.selects RX2 yX2_goesOn yX2_goesOn,
  Cond.code yX2_goesOn cX2_goesOn 3 (some .boolean),
  Cond.code yX3_init cX3_init 2 none,
  Cond.methodLink RX3 3 objectInit,
  Cond.fieldLink RX3 9 "DeltaDesk$Window" "row" "LDeltaDesk$Row;",
  Cond.fieldLink RX3 15 "DeltaDesk$Window" "size" "I",
  Cond.fieldLink RX3 19 "DeltaDesk$Window" "place" "I",
  Cond.fieldLink RX3 22 "DeltaDesk$Window" "inside" "Z",
  Cond.fieldLink RX3 26 "DeltaDesk$Window" "knowsStrong" "Z",
  Cond.code yX3_open cX3_open 2 none,
  Cond.code yX3_moveTo cX3_moveTo 3 none,
  Cond.methodLink RX3 34 yX3_roll,
  Cond.instanceMethod yX3_roll,
  Cond.selects RX3 yX3_roll yX3_roll,
  Cond.methodLink RX3 37 yX3_sumAfresh,
  Cond.instanceMethod yX3_sumAfresh,
  Cond.selects RX3 yX3_sumAfresh yX3_sumAfresh,
  Cond.fieldLink RX3 41 "DeltaDesk$Window" "a" "I",
  Cond.fieldLink RX3 44 "DeltaDesk$Window" "b" "I",
  Cond.fieldLink RX3 51 "DeltaDesk$Window" "weakHere" "I",
  Cond.code yX3_roll cX3_roll 3 none,
  Cond.code yX3_sumAfresh cX3_sumAfresh 3 none,
  Cond.code yX3_shows cX3_shows 6 (some .boolean),
  Cond.methodLink RX3 58 yX3_strongSumHere,
  Cond.instanceMethod yX3_strongSumHere,
  Cond.selects RX3 yX3_strongSumHere yX3_strongSumHere,
  Cond.code yX3_strongSumHere cX3_strongSumHere 1 (some .long),
  Cond.fieldLink RX3 66 "DeltaDesk$Window" "strongHere" "J",
  Cond.codeWith yL_size cL_size 4 (some .int) [(0, 6, 9, 13)],
  Cond.methodLink RL 7 yX4_size,
  Cond.instanceMethod yX4_size,
  Cond.selects RX4 yX4_size yX4_size,
  Cond.codeWith yL_put cL_put 6 (some .int) [(0, 7, 10, 13), (0, 7, 14, 19)],
  Cond.methodLink RL 15 yX4_put,
  Cond.instanceMethod yX4_put,
  Cond.selects RX4 yX4_put yX4_put,
  Cond.codeWith yL_move cL_move 7 (some .int) [(0, 11, 14, 13), (0, 11, 18, 19)],
  Cond.methodLink RL 21 yX4_move,
  Cond.instanceMethod yX4_move,
  Cond.selects RX4 yX4_move yX4_move,
  Cond.codeWith yL_octet cL_octet 5 (some .int) [(0, 10, 13, 13), (0, 10, 17, 19)],
  Cond.methodLink RL 25 yX4_octet,
  Cond.instanceMethod yX4_octet,
  Cond.selects RX4 yX4_octet yX4_octet,
  Cond.codeWith yL_weak cL_weak 6 (some .int) [(0, 12, 15, 13), (0, 12, 19, 19)],
  Cond.methodLink RL 29 yX4_weak,
  Cond.instanceMethod yX4_weak,
  Cond.selects RX4 yX4_weak yX4_weak,
  Cond.codeWith yL_strong cL_strong 6 (some .int) [(0, 11, 14, 13), (0, 11, 18, 19)],
  Cond.methodLink RL 33 yX4_strong,
  Cond.instanceMethod yX4_strong,
  Cond.selects RX4 yX4_strong yX4_strong,
  Cond.codeWith yL_find cL_find 7 (some .int) [(0, 14, 17, 13), (0, 14, 21, 19)],
  Cond.methodLink RL 37 yX4_find,
  Cond.instanceMethod yX4_find,
  Cond.selects RX4 yX4_find yX4_find,
  Cond.codeWith yL_delta cL_delta 5 (some .int) [(0, 10, 13, 13)],
  Cond.methodLink RL 41 yX4_delta,
  Cond.instanceMethod yX4_delta,
  Cond.selects RX4 yX4_delta yX4_delta,
  Cond.codeWith yL_token cL_token 5 (some .int) [(0, 10, 13, 13), (0, 10, 17, 19)],
  Cond.methodLink RL 44 yX4_token,
  Cond.instanceMethod yX4_token,
  Cond.selects RX4 yX4_token yX4_token,
  Cond.codeWith yL_count cL_count 4 (some .int) [(0, 9, 12, 13)],
  Cond.methodLink RL 47 yX4_count,
  Cond.instanceMethod yX4_count,
  Cond.selects RX4 yX4_count yX4_count,
  Cond.classLink RL 8 RX4,
  Cond.instantiable RX4 8,
  Cond.methodLink RL 51 yX4_init,
  Cond.instanceMethod yX4_init,
  Cond.classLink RL 52 RX5,
  Cond.instantiable RX5 12,
  Cond.methodLink RL 54 yX5_init,
  Cond.instanceMethod yX5_init,
  Cond.methodLink RL 55 yL_size,
  Cond.initialized RL,
  Cond.static yL_size,
  Cond.methodLink RL 60 yX5_size,
  Cond.instanceMethod yX5_size,
  Cond.selects RX5 yX5_size yX5_size,
  Cond.methodLink RL 61 yX5_thrown,
  Cond.instanceMethod yX5_thrown,
  Cond.selects RX5 yX5_thrown yX5_thrown,
  Cond.constantLong RL 65 (4294967295),
  Cond.methodLink RL 67 yL_put,
  Cond.static yL_put,
  Cond.methodLink RL 70 yX5_put,
  Cond.instanceMethod yX5_put,
  Cond.selects RX5 yX5_put yX5_put,
  Cond.methodLink RL 71 yL_move,
  Cond.static yL_move,
  Cond.methodLink RL 74 yX5_move,
  Cond.instanceMethod yX5_move,
  Cond.selects RX5 yX5_move yX5_move,
  Cond.methodLink RL 75 yL_octet,
  Cond.static yL_octet,
  Cond.methodLink RL 78 yX5_octet,
  Cond.instanceMethod yX5_octet,
  Cond.selects RX5 yX5_octet yX5_octet,
  Cond.methodLink RL 79 yL_weak,
  Cond.static yL_weak,
  Cond.methodLink RL 82 yX5_weak,
  Cond.instanceMethod yX5_weak,
  Cond.selects RX5 yX5_weak yX5_weak,
  Cond.methodLink RL 83 yL_strong,
  Cond.static yL_strong,
  Cond.methodLink RL 85 yX5_strong,
  Cond.instanceMethod yX5_strong,
  Cond.selects RX5 yX5_strong yX5_strong,
  Cond.methodLink RL 86 yL_find,
  Cond.static yL_find,
  Cond.methodLink RL 89 yX5_find,
  Cond.instanceMethod yX5_find,
  Cond.selects RX5 yX5_find yX5_find,
  Cond.methodLink RL 90 yL_delta,
  Cond.static yL_delta,
  Cond.methodLink RL 92 yX5_delta,
  Cond.instanceMethod yX5_delta,
  Cond.selects RX5 yX5_delta yX5_delta,
  Cond.methodLink RL 93 yL_token,
  Cond.static yL_token,
  Cond.methodLink RL 95 yX5_token,
  Cond.instanceMethod yX5_token,
  Cond.selects RX5 yX5_token yX5_token,
  Cond.methodLink RL 96 yX4_sent,
  Cond.instanceMethod yX4_sent,
  Cond.selects RX4 yX4_sent yX4_sent,
  Cond.methodLink RL 99 yX5_sent,
  Cond.instanceMethod yX5_sent,
  Cond.selects RX5 yX5_sent yX5_sent,
  Cond.methodLink RL 100 yX4_patch,
  Cond.instanceMethod yX4_patch,
  Cond.selects RX4 yX4_patch yX4_patch,
  Cond.methodLink RL 103 yX5_patch,
  Cond.instanceMethod yX5_patch,
  Cond.selects RX5 yX5_patch yX5_patch,
  Cond.methodLink RL 104 yX4_same,
  Cond.instanceMethod yX4_same,
  Cond.selects RX4 yX4_same yX4_same,
  Cond.methodLink RL 108 yX5_same,
  Cond.instanceMethod yX5_same,
  Cond.selects RX5 yX5_same yX5_same,
  Cond.methodLink RL 109 yL_count,
  Cond.static yL_count,
  Cond.methodLink RL 112 yX5_count,
  Cond.instanceMethod yX5_count,
  Cond.selects RX5 yX5_count yX5_count,
  Cond.instanceMethod yX1_joinWeak,
  Cond.selects RX1 yX1_joinWeak yX1_joinWeak,
  Cond.static yX2_goesOn,
  Cond.static yX0_start,
  Cond.static yX0_length,
  Cond.static yX1_weakSum,
  Cond.static yX1_strongSum,
  Cond.instanceMethod yX4_blockCount,
  Cond.selects RX4 yX4_blockCount yX4_blockCount,
  Cond.static yX3_sumAfresh,
  Cond.static yX3_roll,
  Cond.static yX3_strongSumHere,
  Cond.static yX3_shows,
  Cond.static yX3_moveTo,
  Cond.static yX4_fits,
  Cond.static yX3_open,
  Cond.static yX4_blockAt,
  Cond.static yX2_add,
  Cond.static yX1_append,
  Cond.instanceMethod yX4_checkRow,
  Cond.selects RX4 yX4_checkRow yX4_checkRow,
  Cond.static yX4_row,
  Cond.static yX1_resize,
  Cond.instanceMethod yX4_checkOctet,
  Cond.selects RX4 yX4_checkOctet yX4_checkOctet,
  Cond.static yX1_write,
  Cond.instanceMethod yX4_checkRange,
  Cond.selects RX4 yX4_checkRange yX4_checkRange,
  Cond.instanceMethod yX4_checkBlocks,
  Cond.selects RX4 yX4_checkBlocks yX4_checkBlocks,
  Cond.instanceMethod yX4_strongMask,
  Cond.selects RX4 yX4_strongMask yX4_strongMask,
  Cond.static yX4_firstPlace,
  Cond.static yX0_cut,
  Cond.static yX2_clear,
  Cond.static yX4_makeDelta,
  Cond.selects RX1 yX1_init yX1_init,
  Cond.static yX1_init,
  Cond.selects RX0 yX0_init yX0_init,
  Cond.static yX0_init,
  Cond.selects RX3 yX3_init yX3_init,
  Cond.static yX3_init,
  Cond.selects RX2 yX2_init yX2_init,
  Cond.static yX2_init,
  Cond.static yX5_length,
  Cond.static yX5_weakOf,
  Cond.static yX5_strongOf,
  Cond.instanceMethod yX5_no,
  Cond.selects RX5 yX5_no yX5_no,
  Cond.static yX5_fails,
  Cond.static yX5_lacks,
  Cond.instanceMethod yX5_bad,
  Cond.selects RX5 yX5_bad yX5_bad,
  Cond.static yX5_blocks,
  Cond.static yX5_fits,
  Cond.static yX4_size,
  Cond.classLink RL 13 "java/lang/IllegalArgumentException",
  Cond.static yX4_put,
  Cond.classLink RL 19 "java/lang/IndexOutOfBoundsException",
  Cond.static yX4_octet,
  Cond.static yX4_weak,
  Cond.static yX4_strong,
  Cond.static yX4_count,
  Cond.static yX4_token,
  Cond.static yX4_find,
  Cond.static yX4_move,
  Cond.static yX4_delta]
def ds_xI : List Cond := (vx_atS RX4 60 "java/lang/IllegalArgumentException" ["java/lang/RuntimeException", "java/lang/Exception"]).filter goodWord
def ds_xO : List Cond := (vx_atS RX4 115 "java/lang/IndexOutOfBoundsException" ["java/lang/RuntimeException", "java/lang/Exception"]).filter goodWord
def ds_tail : List Cond := wsX00 ++ (wsX10 ++ (wsX20 ++ (wsX30 ++ (wsX40 ++ (wsX50 ++ (ds_xI ++ ds_xO))))))
def ds_all : List Cond := ds_words ++ ds_tail
theorem ds_in {w : Cond} (k : Nat) (h : ds_words[k]? = some w) : w ∈ ds_all := List.mem_append_left _ (List.mem_of_getElem? h)
theorem inA_X0 : ∀ w ∈ wsX00, w ∈ ds_all := fun _ h => List.mem_append_right _ (List.mem_append_left _ (h))
theorem inA_X1 : ∀ w ∈ wsX10, w ∈ ds_all := fun _ h => List.mem_append_right _ (List.mem_append_right _ (List.mem_append_left _ (h)))
theorem inA_X2 : ∀ w ∈ wsX20, w ∈ ds_all := fun _ h => List.mem_append_right _ (List.mem_append_right _ (List.mem_append_right _ (List.mem_append_left _ (h))))
theorem inA_X3 : ∀ w ∈ wsX30, w ∈ ds_all := fun _ h => List.mem_append_right _ (List.mem_append_right _ (List.mem_append_right _ (List.mem_append_right _ (List.mem_append_left _ (h)))))
theorem inA_X4 : ∀ w ∈ wsX40, w ∈ ds_all := fun _ h => List.mem_append_right _ (List.mem_append_right _ (List.mem_append_right _ (List.mem_append_right _ (List.mem_append_right _ (List.mem_append_left _ (h))))))
theorem inA_X5 : ∀ w ∈ wsX50, w ∈ ds_all := fun _ h => List.mem_append_right _ (List.mem_append_right _ (List.mem_append_right _ (List.mem_append_right _ (List.mem_append_right _ (List.mem_append_right _ (List.mem_append_left _ (h)))))))
theorem inA_xI : ∀ w ∈ ds_xI, w ∈ ds_all := fun _ h => List.mem_append_right _ (List.mem_append_right _ (List.mem_append_right _ (List.mem_append_right _ (List.mem_append_right _ (List.mem_append_right _ (List.mem_append_right _ (List.mem_append_left _ (h))))))))
theorem inA_xO : ∀ w ∈ ds_xO, w ∈ ds_all := fun _ h => List.mem_append_right _ (List.mem_append_right _ (List.mem_append_right _ (List.mem_append_right _ (List.mem_append_right _ (List.mem_append_right _ (List.mem_append_right _ (List.mem_append_right _ (h))))))))
set_option maxRecDepth 100000 in
theorem ds_good : ds_all.all goodWord = true := by decide +kernel
theorem ds_goodIn {w : Cond} (h : w ∈ ds_all) : GoodIn ds_all (w :: ds_all) := goodIn_sub (fun v hv => (List.mem_cons.mp hv).elim (fun e => e ▸ h) id) (List.all_eq_true.mpr (fun v hv => List.all_eq_true.mp ds_good v ((List.mem_cons.mp hv).elim (fun e => e ▸ h) id)))
set_option maxRecDepth 100000 in
theorem iw_0 : Cond.code yX4_init cX4_init 1 none ∈ ds_all := ds_in 0 rfl
theorem iw_1 : Cond.methodLink RX4 3 objectInit ∈ ds_all := ds_in 1 rfl
theorem iw_2 : Cond.instanceMethod objectInit ∈ ds_all := ds_in 2 rfl
theorem iw_3 : Cond.code objectInit ⟨#[0xb1]⟩ 1 none ∈ ds_all := ds_in 3 rfl
theorem iw_4 : Cond.classLink RX4 9 RX1 ∈ ds_all := ds_in 4 rfl
theorem iw_5 : Cond.instantiable RX1 2 ∈ ds_all := ds_in 5 rfl
theorem iw_6 : Cond.initialized RX1 ∈ ds_all := ds_in 6 rfl
theorem iw_7 : Cond.instanceMethod yX1_init ∈ ds_all := ds_in 7 rfl
theorem iw_8 : Cond.fieldLink RX4 12 "DeltaDesk" "oldRow" "LDeltaDesk$Row;" ∈ ds_all := ds_in 8 rfl
theorem iw_9 : Cond.fieldLink RX4 16 "DeltaDesk" "newRow" "LDeltaDesk$Row;" ∈ ds_all := ds_in 9 rfl
theorem iw_10 : Cond.fieldLink RX4 19 "DeltaDesk" "made" "LDeltaDesk$Row;" ∈ ds_all := ds_in 10 rfl
theorem iw_11 : Cond.classLink RX4 22 RX0 ∈ ds_all := ds_in 11 rfl
theorem iw_12 : Cond.instantiable RX0 6 ∈ ds_all := ds_in 12 rfl
theorem iw_13 : Cond.initialized RX0 ∈ ds_all := ds_in 13 rfl
theorem iw_14 : Cond.instanceMethod yX0_init ∈ ds_all := ds_in 14 rfl
theorem iw_15 : Cond.fieldLink RX4 27 "DeltaDesk" "blocks" "LDeltaDesk$Blocks;" ∈ ds_all := ds_in 15 rfl
theorem iw_16 : Cond.classLink RX4 31 RX3 ∈ ds_all := ds_in 16 rfl
theorem iw_17 : Cond.instantiable RX3 9 ∈ ds_all := ds_in 17 rfl
theorem iw_18 : Cond.initialized RX3 ∈ ds_all := ds_in 18 rfl
theorem iw_19 : Cond.instanceMethod yX3_init ∈ ds_all := ds_in 19 rfl
theorem iw_20 : Cond.fieldLink RX4 34 "DeltaDesk" "usualWindow" "LDeltaDesk$Window;" ∈ ds_all := ds_in 20 rfl
theorem iw_21 : Cond.fieldLink RX4 38 "DeltaDesk" "lastWindow" "LDeltaDesk$Window;" ∈ ds_all := ds_in 21 rfl
theorem iw_22 : Cond.classLink RX4 41 RX2 ∈ ds_all := ds_in 22 rfl
theorem iw_23 : Cond.instantiable RX2 4 ∈ ds_all := ds_in 23 rfl
theorem iw_24 : Cond.initialized RX2 ∈ ds_all := ds_in 24 rfl
theorem iw_25 : Cond.instanceMethod yX2_init ∈ ds_all := ds_in 25 rfl
theorem iw_26 : Cond.fieldLink RX4 44 "DeltaDesk" "tokens" "LDeltaDesk$Tokens;" ∈ ds_all := ds_in 26 rfl
theorem iw_27 : Cond.fieldLink RX4 48 "DeltaDesk" "hasDelta" "Z" ∈ ds_all := ds_in 27 rfl
theorem iw_28 : Cond.code yX4_size cX4_size 3 none ∈ ds_all := ds_in 28 rfl
theorem iw_29 : Cond.methodLink RX4 52 yX4_checkRow ∈ ds_all := ds_in 29 rfl
theorem iw_30 : Cond.initialized RX4 ∈ ds_all := ds_in 30 rfl
theorem iw_31 : Cond.static yX4_checkRow ∈ ds_all := ds_in 31 rfl
theorem iw_32 : Cond.classLink RX4 56 "java/lang/IllegalArgumentException" ∈ ds_all := ds_in 32 rfl
theorem iw_33 : Cond.initialized "java/lang/IllegalArgumentException" ∈ ds_all := ds_in 33 rfl
theorem iw_34 : Cond.methodLink RX4 63 yX4_row ∈ ds_all := ds_in 34 rfl
theorem iw_35 : Cond.instanceMethod yX4_row ∈ ds_all := ds_in 35 rfl
theorem iw_36 : Cond.selects RX4 yX4_row yX4_row ∈ ds_all := ds_in 36 rfl
theorem iw_37 : Cond.instanceMethod yX1_resize ∈ ds_all := ds_in 37 rfl
theorem iw_38 : Cond.selects RX1 yX1_resize yX1_resize ∈ ds_all := ds_in 38 rfl
theorem iw_39 : Cond.code yX4_put cX4_put 5 none ∈ ds_all := ds_in 39 rfl
theorem iw_40 : Cond.methodLink RX4 70 yX4_checkOctet ∈ ds_all := ds_in 40 rfl
theorem iw_41 : Cond.static yX4_checkOctet ∈ ds_all := ds_in 41 rfl
theorem iw_42 : Cond.instanceMethod yX1_write ∈ ds_all := ds_in 42 rfl
theorem iw_43 : Cond.selects RX1 yX1_write yX1_write ∈ ds_all := ds_in 43 rfl
theorem iw_44 : Cond.code yX4_move cX4_move 6 none ∈ ds_all := ds_in 44 rfl
theorem iw_45 : Cond.methodLink RX4 78 yX4_checkRange ∈ ds_all := ds_in 45 rfl
theorem iw_46 : Cond.static yX4_checkRange ∈ ds_all := ds_in 46 rfl
theorem iw_47 : Cond.methodLink RX4 86 arraycopyName ∈ ds_all := ds_in 47 rfl
theorem iw_48 : Cond.native arraycopyName ∈ ds_all := ds_in 48 rfl
theorem iw_49 : Cond.static arraycopyName ∈ ds_all := ds_in 49 rfl
theorem iw_50 : Cond.initialized "java/lang/System" ∈ ds_all := ds_in 50 rfl
theorem iw_51 : Cond.code yX4_octet cX4_octet 3 (some .int) ∈ ds_all := ds_in 51 rfl
theorem iw_52 : Cond.code yX4_weak cX4_weak 4 (some .int) ∈ ds_all := ds_in 52 rfl
theorem iw_53 : Cond.instanceMethod yX1_weakSum ∈ ds_all := ds_in 53 rfl
theorem iw_54 : Cond.selects RX1 yX1_weakSum yX1_weakSum ∈ ds_all := ds_in 54 rfl
theorem iw_55 : Cond.code yX4_strong cX4_strong 4 (some .long) ∈ ds_all := ds_in 55 rfl
theorem iw_56 : Cond.instanceMethod yX1_strongSum ∈ ds_all := ds_in 56 rfl
theorem iw_57 : Cond.selects RX1 yX1_strongSum yX1_strongSum ∈ ds_all := ds_in 57 rfl
theorem iw_58 : Cond.code yX4_find cX4_find 5 (some .int) ∈ ds_all := ds_in 58 rfl
theorem iw_59 : Cond.methodLink RX4 100 yX4_checkBlocks ∈ ds_all := ds_in 59 rfl
theorem iw_60 : Cond.static yX4_checkBlocks ∈ ds_all := ds_in 60 rfl
theorem iw_61 : Cond.methodLink RX4 108 yX4_blockCount ∈ ds_all := ds_in 61 rfl
theorem iw_62 : Cond.static yX4_blockCount ∈ ds_all := ds_in 62 rfl
theorem iw_63 : Cond.classLink RX4 111 "java/lang/IndexOutOfBoundsException" ∈ ds_all := ds_in 63 rfl
theorem iw_64 : Cond.initialized "java/lang/IndexOutOfBoundsException" ∈ ds_all := ds_in 64 rfl
theorem iw_65 : Cond.methodLink RX4 118 Lib.Math.min.name ∈ ds_all := ds_in 65 rfl
theorem iw_66 : Cond.static Lib.Math.min.name ∈ ds_all := ds_in 66 rfl
theorem iw_67 : Cond.initialized "java/lang/Math" ∈ ds_all := ds_in 67 rfl
theorem iw_68 : Cond.code Lib.Math.min.name Lib.Math.min.code 2 (some .int) ∈ ds_all := ds_in 68 rfl
theorem iw_69 : Cond.methodLink RX4 123 yX4_strongMask ∈ ds_all := ds_in 69 rfl
theorem iw_70 : Cond.static yX4_strongMask ∈ ds_all := ds_in 70 rfl
theorem iw_71 : Cond.methodLink RX4 127 yX4_firstPlace ∈ ds_all := ds_in 71 rfl
theorem iw_72 : Cond.instanceMethod yX4_firstPlace ∈ ds_all := ds_in 72 rfl
theorem iw_73 : Cond.selects RX4 yX4_firstPlace yX4_firstPlace ∈ ds_all := ds_in 73 rfl
theorem iw_74 : Cond.code yX4_delta cX4_delta 3 (some .int) ∈ ds_all := ds_in 74 rfl
theorem iw_75 : Cond.instanceMethod yX0_cut ∈ ds_all := ds_in 75 rfl
theorem iw_76 : Cond.selects RX0 yX0_cut yX0_cut ∈ ds_all := ds_in 76 rfl
theorem iw_77 : Cond.instanceMethod yX3_open ∈ ds_all := ds_in 77 rfl
theorem iw_78 : Cond.selects RX3 yX3_open yX3_open ∈ ds_all := ds_in 78 rfl
theorem iw_79 : Cond.instanceMethod yX2_clear ∈ ds_all := ds_in 79 rfl
theorem iw_80 : Cond.selects RX2 yX2_clear yX2_clear ∈ ds_all := ds_in 80 rfl
theorem iw_81 : Cond.methodLink RX4 143 yX4_makeDelta ∈ ds_all := ds_in 81 rfl
theorem iw_82 : Cond.instanceMethod yX4_makeDelta ∈ ds_all := ds_in 82 rfl
theorem iw_83 : Cond.selects RX4 yX4_makeDelta yX4_makeDelta ∈ ds_all := ds_in 83 rfl
theorem iw_84 : Cond.code yX4_token cX4_token 3 (some .int) ∈ ds_all := ds_in 84 rfl
theorem iw_85 : Cond.code yX4_sent cX4_sent 3 (some .int) ∈ ds_all := ds_in 85 rfl
theorem iw_86 : Cond.code yX4_patch cX4_patch 1 (some .int) ∈ ds_all := ds_in 86 rfl
theorem iw_87 : Cond.instanceMethod yX1_append ∈ ds_all := ds_in 87 rfl
theorem iw_88 : Cond.selects RX1 yX1_append yX1_append ∈ ds_all := ds_in 88 rfl
theorem iw_89 : Cond.code yX4_same cX4_same 2 (some .boolean) ∈ ds_all := ds_in 89 rfl
theorem iw_90 : Cond.code yX4_count cX4_count 2 (some .int) ∈ ds_all := ds_in 90 rfl
theorem iw_91 : Cond.code yX4_row cX4_row 2 (some (.object "DeltaDesk$Row")) ∈ ds_all := ds_in 91 rfl
theorem iw_92 : Cond.code yX4_checkRow cX4_checkRow 1 none ∈ ds_all := ds_in 92 rfl
theorem iw_93 : Cond.code yX4_checkOctet cX4_checkOctet 2 none ∈ ds_all := ds_in 93 rfl
theorem iw_94 : Cond.code yX4_checkRange cX4_checkRange 3 none ∈ ds_all := ds_in 94 rfl
theorem iw_95 : Cond.code yX4_checkBlocks cX4_checkBlocks 2 none ∈ ds_all := ds_in 95 rfl
theorem iw_96 : Cond.code yX4_blockCount cX4_blockCount 2 (some .int) ∈ ds_all := ds_in 96 rfl
theorem iw_97 : Cond.code yX4_strongMask cX4_strongMask 1 (some .long) ∈ ds_all := ds_in 97 rfl
theorem iw_98 : Cond.constantLong RX4 178 (-1) ∈ ds_all := ds_in 98 rfl
theorem iw_99 : Cond.code yX4_firstPlace cX4_firstPlace 10 (some .int) ∈ ds_all := ds_in 99 rfl
theorem iw_100 : Cond.instanceMethod yX3_moveTo ∈ ds_all := ds_in 100 rfl
theorem iw_101 : Cond.selects RX3 yX3_moveTo yX3_moveTo ∈ ds_all := ds_in 101 rfl
theorem iw_102 : Cond.instanceMethod yX3_shows ∈ ds_all := ds_in 102 rfl
theorem iw_103 : Cond.selects RX3 yX3_shows yX3_shows ∈ ds_all := ds_in 103 rfl
theorem iw_104 : Cond.code yX4_makeDelta cX4_makeDelta 7 none ∈ ds_all := ds_in 104 rfl
theorem iw_105 : Cond.methodLink RX4 187 yX4_blockAt ∈ ds_all := ds_in 105 rfl
theorem iw_106 : Cond.instanceMethod yX4_blockAt ∈ ds_all := ds_in 106 rfl
theorem iw_107 : Cond.selects RX4 yX4_blockAt yX4_blockAt ∈ ds_all := ds_in 107 rfl
theorem iw_108 : Cond.instanceMethod yX2_add ∈ ds_all := ds_in 108 rfl
theorem iw_109 : Cond.selects RX2 yX2_add yX2_add ∈ ds_all := ds_in 109 rfl
theorem iw_110 : Cond.instanceMethod yX0_start ∈ ds_all := ds_in 110 rfl
theorem iw_111 : Cond.selects RX0 yX0_start yX0_start ∈ ds_all := ds_in 111 rfl
theorem iw_112 : Cond.instanceMethod yX0_length ∈ ds_all := ds_in 112 rfl
theorem iw_113 : Cond.selects RX0 yX0_length yX0_length ∈ ds_all := ds_in 113 rfl
theorem iw_114 : Cond.code yX4_blockAt cX4_blockAt 6 (some .int) ∈ ds_all := ds_in 114 rfl
theorem iw_115 : Cond.methodLink RX4 201 yX4_fits ∈ ds_all := ds_in 115 rfl
theorem iw_116 : Cond.instanceMethod yX4_fits ∈ ds_all := ds_in 116 rfl
theorem iw_117 : Cond.selects RX4 yX4_fits yX4_fits ∈ ds_all := ds_in 117 rfl
theorem iw_118 : Cond.code yX4_fits cX4_fits 5 (some .boolean) ∈ ds_all := ds_in 118 rfl
theorem iw_119 : Cond.code yX5_init cX5_init 1 none ∈ ds_all := ds_in 119 rfl
theorem iw_120 : Cond.methodLink RX5 1 objectInit ∈ ds_all := ds_in 120 rfl
theorem iw_121 : Cond.arrayClass .int ∈ ds_all := ds_in 121 rfl
theorem iw_122 : Cond.fieldLink RX5 7 "DeltaDeskModel" "octets" "[I" ∈ ds_all := ds_in 122 rfl
theorem iw_123 : Cond.fieldLink RX5 13 "DeltaDeskModel" "then" "[I" ∈ ds_all := ds_in 123 rfl
theorem iw_124 : Cond.fieldLink RX5 16 "DeltaDeskModel" "made" "[I" ∈ ds_all := ds_in 124 rfl
theorem iw_125 : Cond.fieldLink RX5 19 "DeltaDeskModel" "sizes" "[I" ∈ ds_all := ds_in 125 rfl
theorem iw_126 : Cond.fieldLink RX5 22 "DeltaDeskModel" "thenSizes" "[I" ∈ ds_all := ds_in 126 rfl
theorem iw_127 : Cond.fieldLink RX5 25 "DeltaDeskModel" "kind" "[I" ∈ ds_all := ds_in 127 rfl
theorem iw_128 : Cond.fieldLink RX5 28 "DeltaDeskModel" "first" "[I" ∈ ds_all := ds_in 128 rfl
theorem iw_129 : Cond.fieldLink RX5 31 "DeltaDeskModel" "many" "[I" ∈ ds_all := ds_in 129 rfl
theorem iw_130 : Cond.code yX5_thrown cX5_thrown 1 (some .int) ∈ ds_all := ds_in 130 rfl
theorem iw_131 : Cond.fieldLink RX5 34 "DeltaDeskModel" "err" "I" ∈ ds_all := ds_in 131 rfl
theorem iw_132 : Cond.code yX5_fails cX5_fails 3 (some .boolean) ∈ ds_all := ds_in 132 rfl
theorem iw_133 : Cond.code yX5_no cX5_no 1 (some .boolean) ∈ ds_all := ds_in 133 rfl
theorem iw_134 : Cond.code yX5_size cX5_size 4 none ∈ ds_all := ds_in 134 rfl
theorem iw_135 : Cond.methodLink RX5 38 yX5_no ∈ ds_all := ds_in 135 rfl
theorem iw_136 : Cond.initialized RX5 ∈ ds_all := ds_in 136 rfl
theorem iw_137 : Cond.static yX5_no ∈ ds_all := ds_in 137 rfl
theorem iw_138 : Cond.methodLink RX5 42 yX5_fails ∈ ds_all := ds_in 138 rfl
theorem iw_139 : Cond.instanceMethod yX5_fails ∈ ds_all := ds_in 139 rfl
theorem iw_140 : Cond.selects RX5 yX5_fails yX5_fails ∈ ds_all := ds_in 140 rfl
theorem iw_141 : Cond.code yX5_put cX5_put 6 none ∈ ds_all := ds_in 141 rfl
theorem iw_142 : Cond.code yX5_lacks cX5_lacks 4 (some .boolean) ∈ ds_all := ds_in 142 rfl
theorem iw_143 : Cond.code yX5_move cX5_move 7 none ∈ ds_all := ds_in 143 rfl
theorem iw_144 : Cond.methodLink RX5 46 yX5_lacks ∈ ds_all := ds_in 144 rfl
theorem iw_145 : Cond.instanceMethod yX5_lacks ∈ ds_all := ds_in 145 rfl
theorem iw_146 : Cond.selects RX5 yX5_lacks yX5_lacks ∈ ds_all := ds_in 146 rfl
theorem iw_147 : Cond.code yX5_octet cX5_octet 3 (some .int) ∈ ds_all := ds_in 147 rfl
theorem iw_148 : Cond.code yX5_weakOf cX5_weakOf 7 (some .int) ∈ ds_all := ds_in 148 rfl
theorem iw_149 : Cond.constant RX5 50 65535 ∈ ds_all := ds_in 149 rfl
theorem iw_150 : Cond.constant RX5 51 65536 ∈ ds_all := ds_in 150 rfl
theorem iw_151 : Cond.code yX5_strongOf cX5_strongOf 7 (some .long) ∈ ds_all := ds_in 151 rfl
theorem iw_152 : Cond.constantLong RX5 52 (-3750763034362895579) ∈ ds_all := ds_in 152 rfl
theorem iw_153 : Cond.constantLong RX5 54 (1099511628211) ∈ ds_all := ds_in 153 rfl
theorem iw_154 : Cond.code yX5_weak cX5_weak 4 (some .int) ∈ ds_all := ds_in 154 rfl
theorem iw_155 : Cond.methodLink RX5 56 yX5_weakOf ∈ ds_all := ds_in 155 rfl
theorem iw_156 : Cond.instanceMethod yX5_weakOf ∈ ds_all := ds_in 156 rfl
theorem iw_157 : Cond.selects RX5 yX5_weakOf yX5_weakOf ∈ ds_all := ds_in 157 rfl
theorem iw_158 : Cond.code yX5_strong cX5_strong 4 (some .long) ∈ ds_all := ds_in 158 rfl
theorem iw_159 : Cond.methodLink RX5 60 yX5_strongOf ∈ ds_all := ds_in 159 rfl
theorem iw_160 : Cond.instanceMethod yX5_strongOf ∈ ds_all := ds_in 160 rfl
theorem iw_161 : Cond.selects RX5 yX5_strongOf yX5_strongOf ∈ ds_all := ds_in 161 rfl
theorem iw_162 : Cond.code yX5_bad cX5_bad 2 (some .boolean) ∈ ds_all := ds_in 162 rfl
theorem iw_163 : Cond.code yX5_blocks cX5_blocks 2 (some .int) ∈ ds_all := ds_in 163 rfl
theorem iw_164 : Cond.code yX5_length cX5_length 3 (some .int) ∈ ds_all := ds_in 164 rfl
theorem iw_165 : Cond.code yX5_fits cX5_fits 8 (some .boolean) ∈ ds_all := ds_in 165 rfl
theorem iw_166 : Cond.methodLink RX5 64 yX5_length ∈ ds_all := ds_in 166 rfl
theorem iw_167 : Cond.instanceMethod yX5_length ∈ ds_all := ds_in 167 rfl
theorem iw_168 : Cond.selects RX5 yX5_length yX5_length ∈ ds_all := ds_in 168 rfl
theorem iw_169 : Cond.code yX5_find cX5_find 6 (some .int) ∈ ds_all := ds_in 169 rfl
theorem iw_170 : Cond.methodLink RX5 68 yX5_bad ∈ ds_all := ds_in 170 rfl
theorem iw_171 : Cond.static yX5_bad ∈ ds_all := ds_in 171 rfl
theorem iw_172 : Cond.methodLink RX5 72 yX5_blocks ∈ ds_all := ds_in 172 rfl
theorem iw_173 : Cond.instanceMethod yX5_blocks ∈ ds_all := ds_in 173 rfl
theorem iw_174 : Cond.selects RX5 yX5_blocks yX5_blocks ∈ ds_all := ds_in 174 rfl
theorem iw_175 : Cond.methodLink RX5 76 yX5_fits ∈ ds_all := ds_in 175 rfl
theorem iw_176 : Cond.instanceMethod yX5_fits ∈ ds_all := ds_in 176 rfl
theorem iw_177 : Cond.selects RX5 yX5_fits yX5_fits ∈ ds_all := ds_in 177 rfl
theorem iw_178 : Cond.code yX5_delta cX5_delta 9 (some .int) ∈ ds_all := ds_in 178 rfl
theorem iw_179 : Cond.fieldLink RX5 80 "DeltaDeskModel" "is" "Z" ∈ ds_all := ds_in 179 rfl
theorem iw_180 : Cond.fieldLink RX5 84 "DeltaDeskModel" "tokens" "I" ∈ ds_all := ds_in 180 rfl
theorem iw_181 : Cond.fieldLink RX5 87 "DeltaDeskModel" "width" "I" ∈ ds_all := ds_in 181 rfl
theorem iw_182 : Cond.code yX5_token cX5_token 3 (some .int) ∈ ds_all := ds_in 182 rfl
theorem iw_183 : Cond.code yX5_sent cX5_sent 3 (some .int) ∈ ds_all := ds_in 183 rfl
theorem iw_184 : Cond.code yX5_patch cX5_patch 6 (some .int) ∈ ds_all := ds_in 184 rfl
theorem iw_185 : Cond.code yX5_same cX5_same 2 (some .boolean) ∈ ds_all := ds_in 185 rfl
theorem iw_186 : Cond.code yX5_count cX5_count 2 (some .int) ∈ ds_all := ds_in 186 rfl
theorem iw_187 : Cond.code yX0_init cX0_init 2 none ∈ ds_all := ds_in 187 rfl
theorem iw_188 : Cond.methodLink RX0 3 objectInit ∈ ds_all := ds_in 188 rfl
theorem iw_189 : Cond.fieldLink RX0 9 "DeltaDesk$Blocks" "row" "LDeltaDesk$Row;" ∈ ds_all := ds_in 189 rfl
theorem iw_190 : Cond.fieldLink RX0 15 "DeltaDesk$Blocks" "weaks" "[I" ∈ ds_all := ds_in 190 rfl
theorem iw_191 : Cond.arrayClass .long ∈ ds_all := ds_in 191 rfl
theorem iw_192 : Cond.fieldLink RX0 19 "DeltaDesk$Blocks" "strongs" "[J" ∈ ds_all := ds_in 192 rfl
theorem iw_193 : Cond.fieldLink RX0 23 "DeltaDesk$Blocks" "usualSize" "I" ∈ ds_all := ds_in 193 rfl
theorem iw_194 : Cond.fieldLink RX0 27 "DeltaDesk$Blocks" "lastSize" "I" ∈ ds_all := ds_in 194 rfl
theorem iw_195 : Cond.fieldLink RX0 30 "DeltaDesk$Blocks" "count" "I" ∈ ds_all := ds_in 195 rfl
theorem iw_196 : Cond.code yX0_cut cX0_cut 3 none ∈ ds_all := ds_in 196 rfl
theorem iw_197 : Cond.methodLink RX0 42 yX0_start ∈ ds_all := ds_in 197 rfl
theorem iw_198 : Cond.methodLink RX0 46 yX0_length ∈ ds_all := ds_in 198 rfl
theorem iw_199 : Cond.code yX0_start cX0_start 2 (some .int) ∈ ds_all := ds_in 199 rfl
theorem iw_200 : Cond.code yX0_length cX0_length 2 (some .int) ∈ ds_all := ds_in 200 rfl
theorem iw_201 : Cond.code yX1_init cX1_init 1 none ∈ ds_all := ds_in 201 rfl
theorem iw_202 : Cond.methodLink RX1 3 objectInit ∈ ds_all := ds_in 202 rfl
theorem iw_203 : Cond.fieldLink RX1 9 "DeltaDesk$Row" "octets" "[I" ∈ ds_all := ds_in 203 rfl
theorem iw_204 : Cond.fieldLink RX1 15 "DeltaDesk$Row" "length" "I" ∈ ds_all := ds_in 204 rfl
theorem iw_205 : Cond.code yX1_resize cX1_resize 3 none ∈ ds_all := ds_in 205 rfl
theorem iw_206 : Cond.code yX1_write cX1_write 5 none ∈ ds_all := ds_in 206 rfl
theorem iw_207 : Cond.code yX1_append cX1_append 4 none ∈ ds_all := ds_in 207 rfl
theorem iw_208 : Cond.methodLink RX1 19 arraycopyName ∈ ds_all := ds_in 208 rfl
theorem iw_209 : Cond.code yX1_weakSum cX1_weakSum 6 (some .int) ∈ ds_all := ds_in 209 rfl
theorem iw_210 : Cond.methodLink RX1 25 yX1_joinWeak ∈ ds_all := ds_in 210 rfl
theorem iw_211 : Cond.static yX1_joinWeak ∈ ds_all := ds_in 211 rfl
theorem iw_212 : Cond.code yX1_joinWeak cX1_joinWeak 2 (some .int) ∈ ds_all := ds_in 212 rfl
theorem iw_213 : Cond.constant RX1 29 65535 ∈ ds_all := ds_in 213 rfl
theorem iw_214 : Cond.constant RX1 30 65536 ∈ ds_all := ds_in 214 rfl
theorem iw_215 : Cond.code yX1_strongSum cX1_strongSum 6 (some .long) ∈ ds_all := ds_in 215 rfl
theorem iw_216 : Cond.constantLong RX1 31 (-3750763034362895579) ∈ ds_all := ds_in 216 rfl
theorem iw_217 : Cond.constantLong RX1 33 (1099511628211) ∈ ds_all := ds_in 217 rfl
theorem iw_218 : Cond.code yX2_init cX2_init 1 none ∈ ds_all := ds_in 218 rfl
theorem iw_219 : Cond.methodLink RX2 3 objectInit ∈ ds_all := ds_in 219 rfl
theorem iw_220 : Cond.fieldLink RX2 9 "DeltaDesk$Tokens" "kinds" "[I" ∈ ds_all := ds_in 220 rfl
theorem iw_221 : Cond.fieldLink RX2 15 "DeltaDesk$Tokens" "firsts" "[I" ∈ ds_all := ds_in 221 rfl
theorem iw_222 : Cond.fieldLink RX2 18 "DeltaDesk$Tokens" "lengths" "[I" ∈ ds_all := ds_in 222 rfl
theorem iw_223 : Cond.fieldLink RX2 21 "DeltaDesk$Tokens" "count" "I" ∈ ds_all := ds_in 223 rfl
theorem iw_224 : Cond.code yX2_clear cX2_clear 1 none ∈ ds_all := ds_in 224 rfl
theorem iw_225 : Cond.code yX2_add cX2_add 3 none ∈ ds_all := ds_in 225 rfl
theorem iw_226 : Cond.methodLink RX2 25 yX2_goesOn ∈ ds_all := ds_in 226 rfl
theorem iw_227 : Cond.instanceMethod yX2_goesOn ∈ ds_all := ds_in 227 rfl
theorem iw_228 : Cond.selects RX2 yX2_goesOn yX2_goesOn ∈ ds_all := ds_in 228 rfl
theorem iw_229 : Cond.code yX2_goesOn cX2_goesOn 3 (some .boolean) ∈ ds_all := ds_in 229 rfl
theorem iw_230 : Cond.code yX3_init cX3_init 2 none ∈ ds_all := ds_in 230 rfl
theorem iw_231 : Cond.methodLink RX3 3 objectInit ∈ ds_all := ds_in 231 rfl
theorem iw_232 : Cond.fieldLink RX3 9 "DeltaDesk$Window" "row" "LDeltaDesk$Row;" ∈ ds_all := ds_in 232 rfl
theorem iw_233 : Cond.fieldLink RX3 15 "DeltaDesk$Window" "size" "I" ∈ ds_all := ds_in 233 rfl
theorem iw_234 : Cond.fieldLink RX3 19 "DeltaDesk$Window" "place" "I" ∈ ds_all := ds_in 234 rfl
theorem iw_235 : Cond.fieldLink RX3 22 "DeltaDesk$Window" "inside" "Z" ∈ ds_all := ds_in 235 rfl
theorem iw_236 : Cond.fieldLink RX3 26 "DeltaDesk$Window" "knowsStrong" "Z" ∈ ds_all := ds_in 236 rfl
theorem iw_237 : Cond.code yX3_open cX3_open 2 none ∈ ds_all := ds_in 237 rfl
theorem iw_238 : Cond.code yX3_moveTo cX3_moveTo 3 none ∈ ds_all := ds_in 238 rfl
theorem iw_239 : Cond.methodLink RX3 34 yX3_roll ∈ ds_all := ds_in 239 rfl
theorem iw_240 : Cond.instanceMethod yX3_roll ∈ ds_all := ds_in 240 rfl
theorem iw_241 : Cond.selects RX3 yX3_roll yX3_roll ∈ ds_all := ds_in 241 rfl
theorem iw_242 : Cond.methodLink RX3 37 yX3_sumAfresh ∈ ds_all := ds_in 242 rfl
theorem iw_243 : Cond.instanceMethod yX3_sumAfresh ∈ ds_all := ds_in 243 rfl
theorem iw_244 : Cond.selects RX3 yX3_sumAfresh yX3_sumAfresh ∈ ds_all := ds_in 244 rfl
theorem iw_245 : Cond.fieldLink RX3 41 "DeltaDesk$Window" "a" "I" ∈ ds_all := ds_in 245 rfl
theorem iw_246 : Cond.fieldLink RX3 44 "DeltaDesk$Window" "b" "I" ∈ ds_all := ds_in 246 rfl
theorem iw_247 : Cond.fieldLink RX3 51 "DeltaDesk$Window" "weakHere" "I" ∈ ds_all := ds_in 247 rfl
theorem iw_248 : Cond.code yX3_roll cX3_roll 3 none ∈ ds_all := ds_in 248 rfl
theorem iw_249 : Cond.code yX3_sumAfresh cX3_sumAfresh 3 none ∈ ds_all := ds_in 249 rfl
theorem iw_250 : Cond.code yX3_shows cX3_shows 6 (some .boolean) ∈ ds_all := ds_in 250 rfl
theorem iw_251 : Cond.methodLink RX3 58 yX3_strongSumHere ∈ ds_all := ds_in 251 rfl
theorem iw_252 : Cond.instanceMethod yX3_strongSumHere ∈ ds_all := ds_in 252 rfl
theorem iw_253 : Cond.selects RX3 yX3_strongSumHere yX3_strongSumHere ∈ ds_all := ds_in 253 rfl
theorem iw_254 : Cond.code yX3_strongSumHere cX3_strongSumHere 1 (some .long) ∈ ds_all := ds_in 254 rfl
theorem iw_255 : Cond.fieldLink RX3 66 "DeltaDesk$Window" "strongHere" "J" ∈ ds_all := ds_in 255 rfl
theorem iw_256 : Cond.codeWith yL_size cL_size 4 (some .int) [(0, 6, 9, 13)] ∈ ds_all := ds_in 256 rfl
theorem iw_257 : Cond.methodLink RL 7 yX4_size ∈ ds_all := ds_in 257 rfl
theorem iw_258 : Cond.instanceMethod yX4_size ∈ ds_all := ds_in 258 rfl
theorem iw_259 : Cond.selects RX4 yX4_size yX4_size ∈ ds_all := ds_in 259 rfl
theorem iw_260 : Cond.codeWith yL_put cL_put 6 (some .int) [(0, 7, 10, 13), (0, 7, 14, 19)] ∈ ds_all := ds_in 260 rfl
theorem iw_261 : Cond.methodLink RL 15 yX4_put ∈ ds_all := ds_in 261 rfl
theorem iw_262 : Cond.instanceMethod yX4_put ∈ ds_all := ds_in 262 rfl
theorem iw_263 : Cond.selects RX4 yX4_put yX4_put ∈ ds_all := ds_in 263 rfl
theorem iw_264 : Cond.codeWith yL_move cL_move 7 (some .int) [(0, 11, 14, 13), (0, 11, 18, 19)] ∈ ds_all := ds_in 264 rfl
theorem iw_265 : Cond.methodLink RL 21 yX4_move ∈ ds_all := ds_in 265 rfl
theorem iw_266 : Cond.instanceMethod yX4_move ∈ ds_all := ds_in 266 rfl
theorem iw_267 : Cond.selects RX4 yX4_move yX4_move ∈ ds_all := ds_in 267 rfl
theorem iw_268 : Cond.codeWith yL_octet cL_octet 5 (some .int) [(0, 10, 13, 13), (0, 10, 17, 19)] ∈ ds_all := ds_in 268 rfl
theorem iw_269 : Cond.methodLink RL 25 yX4_octet ∈ ds_all := ds_in 269 rfl
theorem iw_270 : Cond.instanceMethod yX4_octet ∈ ds_all := ds_in 270 rfl
theorem iw_271 : Cond.selects RX4 yX4_octet yX4_octet ∈ ds_all := ds_in 271 rfl
theorem iw_272 : Cond.codeWith yL_weak cL_weak 6 (some .int) [(0, 12, 15, 13), (0, 12, 19, 19)] ∈ ds_all := ds_in 272 rfl
theorem iw_273 : Cond.methodLink RL 29 yX4_weak ∈ ds_all := ds_in 273 rfl
theorem iw_274 : Cond.instanceMethod yX4_weak ∈ ds_all := ds_in 274 rfl
theorem iw_275 : Cond.selects RX4 yX4_weak yX4_weak ∈ ds_all := ds_in 275 rfl
theorem iw_276 : Cond.codeWith yL_strong cL_strong 6 (some .int) [(0, 11, 14, 13), (0, 11, 18, 19)] ∈ ds_all := ds_in 276 rfl
theorem iw_277 : Cond.methodLink RL 33 yX4_strong ∈ ds_all := ds_in 277 rfl
theorem iw_278 : Cond.instanceMethod yX4_strong ∈ ds_all := ds_in 278 rfl
theorem iw_279 : Cond.selects RX4 yX4_strong yX4_strong ∈ ds_all := ds_in 279 rfl
theorem iw_280 : Cond.codeWith yL_find cL_find 7 (some .int) [(0, 14, 17, 13), (0, 14, 21, 19)] ∈ ds_all := ds_in 280 rfl
theorem iw_281 : Cond.methodLink RL 37 yX4_find ∈ ds_all := ds_in 281 rfl
theorem iw_282 : Cond.instanceMethod yX4_find ∈ ds_all := ds_in 282 rfl
theorem iw_283 : Cond.selects RX4 yX4_find yX4_find ∈ ds_all := ds_in 283 rfl
theorem iw_284 : Cond.codeWith yL_delta cL_delta 5 (some .int) [(0, 10, 13, 13)] ∈ ds_all := ds_in 284 rfl
theorem iw_285 : Cond.methodLink RL 41 yX4_delta ∈ ds_all := ds_in 285 rfl
theorem iw_286 : Cond.instanceMethod yX4_delta ∈ ds_all := ds_in 286 rfl
theorem iw_287 : Cond.selects RX4 yX4_delta yX4_delta ∈ ds_all := ds_in 287 rfl
theorem iw_288 : Cond.codeWith yL_token cL_token 5 (some .int) [(0, 10, 13, 13), (0, 10, 17, 19)] ∈ ds_all := ds_in 288 rfl
theorem iw_289 : Cond.methodLink RL 44 yX4_token ∈ ds_all := ds_in 289 rfl
theorem iw_290 : Cond.instanceMethod yX4_token ∈ ds_all := ds_in 290 rfl
theorem iw_291 : Cond.selects RX4 yX4_token yX4_token ∈ ds_all := ds_in 291 rfl
theorem iw_292 : Cond.codeWith yL_count cL_count 4 (some .int) [(0, 9, 12, 13)] ∈ ds_all := ds_in 292 rfl
theorem iw_293 : Cond.methodLink RL 47 yX4_count ∈ ds_all := ds_in 293 rfl
theorem iw_294 : Cond.instanceMethod yX4_count ∈ ds_all := ds_in 294 rfl
theorem iw_295 : Cond.selects RX4 yX4_count yX4_count ∈ ds_all := ds_in 295 rfl
theorem iw_296 : Cond.classLink RL 8 RX4 ∈ ds_all := ds_in 296 rfl
theorem iw_297 : Cond.instantiable RX4 8 ∈ ds_all := ds_in 297 rfl
theorem iw_298 : Cond.methodLink RL 51 yX4_init ∈ ds_all := ds_in 298 rfl
theorem iw_299 : Cond.instanceMethod yX4_init ∈ ds_all := ds_in 299 rfl
theorem iw_300 : Cond.classLink RL 52 RX5 ∈ ds_all := ds_in 300 rfl
theorem iw_301 : Cond.instantiable RX5 12 ∈ ds_all := ds_in 301 rfl
theorem iw_302 : Cond.methodLink RL 54 yX5_init ∈ ds_all := ds_in 302 rfl
theorem iw_303 : Cond.instanceMethod yX5_init ∈ ds_all := ds_in 303 rfl
theorem iw_304 : Cond.methodLink RL 55 yL_size ∈ ds_all := ds_in 304 rfl
theorem iw_305 : Cond.initialized RL ∈ ds_all := ds_in 305 rfl
theorem iw_306 : Cond.static yL_size ∈ ds_all := ds_in 306 rfl
theorem iw_307 : Cond.methodLink RL 60 yX5_size ∈ ds_all := ds_in 307 rfl
theorem iw_308 : Cond.instanceMethod yX5_size ∈ ds_all := ds_in 308 rfl
theorem iw_309 : Cond.selects RX5 yX5_size yX5_size ∈ ds_all := ds_in 309 rfl
theorem iw_310 : Cond.methodLink RL 61 yX5_thrown ∈ ds_all := ds_in 310 rfl
theorem iw_311 : Cond.instanceMethod yX5_thrown ∈ ds_all := ds_in 311 rfl
theorem iw_312 : Cond.selects RX5 yX5_thrown yX5_thrown ∈ ds_all := ds_in 312 rfl
theorem iw_313 : Cond.constantLong RL 65 (4294967295) ∈ ds_all := ds_in 313 rfl
theorem iw_314 : Cond.methodLink RL 67 yL_put ∈ ds_all := ds_in 314 rfl
theorem iw_315 : Cond.static yL_put ∈ ds_all := ds_in 315 rfl
theorem iw_316 : Cond.methodLink RL 70 yX5_put ∈ ds_all := ds_in 316 rfl
theorem iw_317 : Cond.instanceMethod yX5_put ∈ ds_all := ds_in 317 rfl
theorem iw_318 : Cond.selects RX5 yX5_put yX5_put ∈ ds_all := ds_in 318 rfl
theorem iw_319 : Cond.methodLink RL 71 yL_move ∈ ds_all := ds_in 319 rfl
theorem iw_320 : Cond.static yL_move ∈ ds_all := ds_in 320 rfl
theorem iw_321 : Cond.methodLink RL 74 yX5_move ∈ ds_all := ds_in 321 rfl
theorem iw_322 : Cond.instanceMethod yX5_move ∈ ds_all := ds_in 322 rfl
theorem iw_323 : Cond.selects RX5 yX5_move yX5_move ∈ ds_all := ds_in 323 rfl
theorem iw_324 : Cond.methodLink RL 75 yL_octet ∈ ds_all := ds_in 324 rfl
theorem iw_325 : Cond.static yL_octet ∈ ds_all := ds_in 325 rfl
theorem iw_326 : Cond.methodLink RL 78 yX5_octet ∈ ds_all := ds_in 326 rfl
theorem iw_327 : Cond.instanceMethod yX5_octet ∈ ds_all := ds_in 327 rfl
theorem iw_328 : Cond.selects RX5 yX5_octet yX5_octet ∈ ds_all := ds_in 328 rfl
theorem iw_329 : Cond.methodLink RL 79 yL_weak ∈ ds_all := ds_in 329 rfl
theorem iw_330 : Cond.static yL_weak ∈ ds_all := ds_in 330 rfl
theorem iw_331 : Cond.methodLink RL 82 yX5_weak ∈ ds_all := ds_in 331 rfl
theorem iw_332 : Cond.instanceMethod yX5_weak ∈ ds_all := ds_in 332 rfl
theorem iw_333 : Cond.selects RX5 yX5_weak yX5_weak ∈ ds_all := ds_in 333 rfl
theorem iw_334 : Cond.methodLink RL 83 yL_strong ∈ ds_all := ds_in 334 rfl
theorem iw_335 : Cond.static yL_strong ∈ ds_all := ds_in 335 rfl
theorem iw_336 : Cond.methodLink RL 85 yX5_strong ∈ ds_all := ds_in 336 rfl
theorem iw_337 : Cond.instanceMethod yX5_strong ∈ ds_all := ds_in 337 rfl
theorem iw_338 : Cond.selects RX5 yX5_strong yX5_strong ∈ ds_all := ds_in 338 rfl
theorem iw_339 : Cond.methodLink RL 86 yL_find ∈ ds_all := ds_in 339 rfl
theorem iw_340 : Cond.static yL_find ∈ ds_all := ds_in 340 rfl
theorem iw_341 : Cond.methodLink RL 89 yX5_find ∈ ds_all := ds_in 341 rfl
theorem iw_342 : Cond.instanceMethod yX5_find ∈ ds_all := ds_in 342 rfl
theorem iw_343 : Cond.selects RX5 yX5_find yX5_find ∈ ds_all := ds_in 343 rfl
theorem iw_344 : Cond.methodLink RL 90 yL_delta ∈ ds_all := ds_in 344 rfl
theorem iw_345 : Cond.static yL_delta ∈ ds_all := ds_in 345 rfl
theorem iw_346 : Cond.methodLink RL 92 yX5_delta ∈ ds_all := ds_in 346 rfl
theorem iw_347 : Cond.instanceMethod yX5_delta ∈ ds_all := ds_in 347 rfl
theorem iw_348 : Cond.selects RX5 yX5_delta yX5_delta ∈ ds_all := ds_in 348 rfl
theorem iw_349 : Cond.methodLink RL 93 yL_token ∈ ds_all := ds_in 349 rfl
theorem iw_350 : Cond.static yL_token ∈ ds_all := ds_in 350 rfl
theorem iw_351 : Cond.methodLink RL 95 yX5_token ∈ ds_all := ds_in 351 rfl
theorem iw_352 : Cond.instanceMethod yX5_token ∈ ds_all := ds_in 352 rfl
theorem iw_353 : Cond.selects RX5 yX5_token yX5_token ∈ ds_all := ds_in 353 rfl
theorem iw_354 : Cond.methodLink RL 96 yX4_sent ∈ ds_all := ds_in 354 rfl
theorem iw_355 : Cond.instanceMethod yX4_sent ∈ ds_all := ds_in 355 rfl
theorem iw_356 : Cond.selects RX4 yX4_sent yX4_sent ∈ ds_all := ds_in 356 rfl
theorem iw_357 : Cond.methodLink RL 99 yX5_sent ∈ ds_all := ds_in 357 rfl
theorem iw_358 : Cond.instanceMethod yX5_sent ∈ ds_all := ds_in 358 rfl
theorem iw_359 : Cond.selects RX5 yX5_sent yX5_sent ∈ ds_all := ds_in 359 rfl
theorem iw_360 : Cond.methodLink RL 100 yX4_patch ∈ ds_all := ds_in 360 rfl
theorem iw_361 : Cond.instanceMethod yX4_patch ∈ ds_all := ds_in 361 rfl
theorem iw_362 : Cond.selects RX4 yX4_patch yX4_patch ∈ ds_all := ds_in 362 rfl
theorem iw_363 : Cond.methodLink RL 103 yX5_patch ∈ ds_all := ds_in 363 rfl
theorem iw_364 : Cond.instanceMethod yX5_patch ∈ ds_all := ds_in 364 rfl
theorem iw_365 : Cond.selects RX5 yX5_patch yX5_patch ∈ ds_all := ds_in 365 rfl
theorem iw_366 : Cond.methodLink RL 104 yX4_same ∈ ds_all := ds_in 366 rfl
theorem iw_367 : Cond.instanceMethod yX4_same ∈ ds_all := ds_in 367 rfl
theorem iw_368 : Cond.selects RX4 yX4_same yX4_same ∈ ds_all := ds_in 368 rfl
theorem iw_369 : Cond.methodLink RL 108 yX5_same ∈ ds_all := ds_in 369 rfl
theorem iw_370 : Cond.instanceMethod yX5_same ∈ ds_all := ds_in 370 rfl
theorem iw_371 : Cond.selects RX5 yX5_same yX5_same ∈ ds_all := ds_in 371 rfl
theorem iw_372 : Cond.methodLink RL 109 yL_count ∈ ds_all := ds_in 372 rfl
theorem iw_373 : Cond.static yL_count ∈ ds_all := ds_in 373 rfl
theorem iw_374 : Cond.methodLink RL 112 yX5_count ∈ ds_all := ds_in 374 rfl
theorem iw_375 : Cond.instanceMethod yX5_count ∈ ds_all := ds_in 375 rfl
theorem iw_376 : Cond.selects RX5 yX5_count yX5_count ∈ ds_all := ds_in 376 rfl
theorem iw_377 : Cond.instanceMethod yX1_joinWeak ∈ ds_all := ds_in 377 rfl
theorem iw_378 : Cond.selects RX1 yX1_joinWeak yX1_joinWeak ∈ ds_all := ds_in 378 rfl
theorem iw_379 : Cond.static yX2_goesOn ∈ ds_all := ds_in 379 rfl
theorem iw_380 : Cond.static yX0_start ∈ ds_all := ds_in 380 rfl
theorem iw_381 : Cond.static yX0_length ∈ ds_all := ds_in 381 rfl
theorem iw_382 : Cond.static yX1_weakSum ∈ ds_all := ds_in 382 rfl
theorem iw_383 : Cond.static yX1_strongSum ∈ ds_all := ds_in 383 rfl
theorem iw_384 : Cond.instanceMethod yX4_blockCount ∈ ds_all := ds_in 384 rfl
theorem iw_385 : Cond.selects RX4 yX4_blockCount yX4_blockCount ∈ ds_all := ds_in 385 rfl
theorem iw_386 : Cond.static yX3_sumAfresh ∈ ds_all := ds_in 386 rfl
theorem iw_387 : Cond.static yX3_roll ∈ ds_all := ds_in 387 rfl
theorem iw_388 : Cond.static yX3_strongSumHere ∈ ds_all := ds_in 388 rfl
theorem iw_389 : Cond.static yX3_shows ∈ ds_all := ds_in 389 rfl
theorem iw_390 : Cond.static yX3_moveTo ∈ ds_all := ds_in 390 rfl
theorem iw_391 : Cond.static yX4_fits ∈ ds_all := ds_in 391 rfl
theorem iw_392 : Cond.static yX3_open ∈ ds_all := ds_in 392 rfl
theorem iw_393 : Cond.static yX4_blockAt ∈ ds_all := ds_in 393 rfl
theorem iw_394 : Cond.static yX2_add ∈ ds_all := ds_in 394 rfl
theorem iw_395 : Cond.static yX1_append ∈ ds_all := ds_in 395 rfl
theorem iw_396 : Cond.instanceMethod yX4_checkRow ∈ ds_all := ds_in 396 rfl
theorem iw_397 : Cond.selects RX4 yX4_checkRow yX4_checkRow ∈ ds_all := ds_in 397 rfl
theorem iw_398 : Cond.static yX4_row ∈ ds_all := ds_in 398 rfl
theorem iw_399 : Cond.static yX1_resize ∈ ds_all := ds_in 399 rfl
theorem iw_400 : Cond.instanceMethod yX4_checkOctet ∈ ds_all := ds_in 400 rfl
theorem iw_401 : Cond.selects RX4 yX4_checkOctet yX4_checkOctet ∈ ds_all := ds_in 401 rfl
theorem iw_402 : Cond.static yX1_write ∈ ds_all := ds_in 402 rfl
theorem iw_403 : Cond.instanceMethod yX4_checkRange ∈ ds_all := ds_in 403 rfl
theorem iw_404 : Cond.selects RX4 yX4_checkRange yX4_checkRange ∈ ds_all := ds_in 404 rfl
theorem iw_405 : Cond.instanceMethod yX4_checkBlocks ∈ ds_all := ds_in 405 rfl
theorem iw_406 : Cond.selects RX4 yX4_checkBlocks yX4_checkBlocks ∈ ds_all := ds_in 406 rfl
theorem iw_407 : Cond.instanceMethod yX4_strongMask ∈ ds_all := ds_in 407 rfl
theorem iw_408 : Cond.selects RX4 yX4_strongMask yX4_strongMask ∈ ds_all := ds_in 408 rfl
theorem iw_409 : Cond.static yX4_firstPlace ∈ ds_all := ds_in 409 rfl
theorem iw_410 : Cond.static yX0_cut ∈ ds_all := ds_in 410 rfl
theorem iw_411 : Cond.static yX2_clear ∈ ds_all := ds_in 411 rfl
theorem iw_412 : Cond.static yX4_makeDelta ∈ ds_all := ds_in 412 rfl
theorem iw_413 : Cond.selects RX1 yX1_init yX1_init ∈ ds_all := ds_in 413 rfl
theorem iw_414 : Cond.static yX1_init ∈ ds_all := ds_in 414 rfl
theorem iw_415 : Cond.selects RX0 yX0_init yX0_init ∈ ds_all := ds_in 415 rfl
theorem iw_416 : Cond.static yX0_init ∈ ds_all := ds_in 416 rfl
theorem iw_417 : Cond.selects RX3 yX3_init yX3_init ∈ ds_all := ds_in 417 rfl
theorem iw_418 : Cond.static yX3_init ∈ ds_all := ds_in 418 rfl
theorem iw_419 : Cond.selects RX2 yX2_init yX2_init ∈ ds_all := ds_in 419 rfl
theorem iw_420 : Cond.static yX2_init ∈ ds_all := ds_in 420 rfl
theorem iw_421 : Cond.static yX5_length ∈ ds_all := ds_in 421 rfl
theorem iw_422 : Cond.static yX5_weakOf ∈ ds_all := ds_in 422 rfl
theorem iw_423 : Cond.static yX5_strongOf ∈ ds_all := ds_in 423 rfl
theorem iw_424 : Cond.instanceMethod yX5_no ∈ ds_all := ds_in 424 rfl
theorem iw_425 : Cond.selects RX5 yX5_no yX5_no ∈ ds_all := ds_in 425 rfl
theorem iw_426 : Cond.static yX5_fails ∈ ds_all := ds_in 426 rfl
theorem iw_427 : Cond.static yX5_lacks ∈ ds_all := ds_in 427 rfl
theorem iw_428 : Cond.instanceMethod yX5_bad ∈ ds_all := ds_in 428 rfl
theorem iw_429 : Cond.selects RX5 yX5_bad yX5_bad ∈ ds_all := ds_in 429 rfl
theorem iw_430 : Cond.static yX5_blocks ∈ ds_all := ds_in 430 rfl
theorem iw_431 : Cond.static yX5_fits ∈ ds_all := ds_in 431 rfl
theorem iw_432 : Cond.static yX4_size ∈ ds_all := ds_in 432 rfl
theorem iw_433 : Cond.classLink RL 13 "java/lang/IllegalArgumentException" ∈ ds_all := ds_in 433 rfl
theorem iw_434 : Cond.static yX4_put ∈ ds_all := ds_in 434 rfl
theorem iw_435 : Cond.classLink RL 19 "java/lang/IndexOutOfBoundsException" ∈ ds_all := ds_in 435 rfl
theorem iw_436 : Cond.static yX4_octet ∈ ds_all := ds_in 436 rfl
theorem iw_437 : Cond.static yX4_weak ∈ ds_all := ds_in 437 rfl
theorem iw_438 : Cond.static yX4_strong ∈ ds_all := ds_in 438 rfl
theorem iw_439 : Cond.static yX4_count ∈ ds_all := ds_in 439 rfl
theorem iw_440 : Cond.static yX4_token ∈ ds_all := ds_in 440 rfl
theorem iw_441 : Cond.static yX4_find ∈ ds_all := ds_in 441 rfl
theorem iw_442 : Cond.static yX4_move ∈ ds_all := ds_in 442 rfl
theorem iw_443 : Cond.static yX4_delta ∈ ds_all := ds_in 443 rfl
def ds_nF : List (String × Nat × String × String × String × String) := [
  (RX4, 82, "DeltaDesk$Row", "octets", "[I", "DeltaDesk"),
  (RX4, 104, "DeltaDesk$Row", "length", "I", "DeltaDesk"),
  (RX4, 137, "DeltaDesk$Blocks", "lastSize", "I", "DeltaDesk"),
  (RX4, 147, "DeltaDesk$Tokens", "count", "I", "DeltaDesk"),
  (RX4, 154, "DeltaDesk$Tokens", "kinds", "[I", "DeltaDesk"),
  (RX4, 157, "DeltaDesk$Tokens", "firsts", "[I", "DeltaDesk"),
  (RX4, 160, "DeltaDesk$Tokens", "lengths", "[I", "DeltaDesk"),
  (RX4, 200, "DeltaDesk$Blocks", "count", "I", "DeltaDesk"),
  (RX4, 205, "DeltaDesk$Blocks", "weaks", "[I", "DeltaDesk"),
  (RX4, 208, "DeltaDesk$Blocks", "strongs", "[J", "DeltaDesk"),
  (RX0, 33, "DeltaDesk$Row", "length", "I", "DeltaDesk"),
  (RX3, 29, "DeltaDesk$Row", "length", "I", "DeltaDesk"),
  (RX3, 54, "DeltaDesk$Row", "octets", "[I", "DeltaDesk")]
def ds_nM : List (String × Nat × MethodName × String) := [
  (RX4, 11, yX1_init, "DeltaDesk"),
  (RX4, 24, yX0_init, "DeltaDesk"),
  (RX4, 33, yX3_init, "DeltaDesk"),
  (RX4, 43, yX2_init, "DeltaDesk"),
  (RX4, 67, yX1_resize, "DeltaDesk"),
  (RX4, 74, yX1_write, "DeltaDesk"),
  (RX4, 92, yX1_weakSum, "DeltaDesk"),
  (RX4, 96, yX1_strongSum, "DeltaDesk"),
  (RX4, 131, yX0_cut, "DeltaDesk"),
  (RX4, 134, yX3_open, "DeltaDesk"),
  (RX4, 140, yX2_clear, "DeltaDesk"),
  (RX4, 163, yX1_append, "DeltaDesk"),
  (RX4, 180, yX3_moveTo, "DeltaDesk"),
  (RX4, 183, yX3_shows, "DeltaDesk"),
  (RX4, 191, yX2_add, "DeltaDesk"),
  (RX4, 194, yX0_start, "DeltaDesk"),
  (RX4, 198, yX0_length, "DeltaDesk"),
  (RX0, 38, yX4_blockCount, "DeltaDesk"),
  (RX0, 48, yX1_weakSum, "DeltaDesk"),
  (RX0, 51, yX1_strongSum, "DeltaDesk"),
  (RX3, 47, yX1_joinWeak, "DeltaDesk"),
  (RX3, 62, yX1_strongSum, "DeltaDesk")]
def ds_nC : List (String × String) := [("java/lang/IllegalArgumentException", "java/lang/IllegalArgumentException"), ("java/lang/IndexOutOfBoundsException", "java/lang/IndexOutOfBoundsException")]
def ds_nD : List MethodName := [⟨"java/lang/RuntimeException", "<init>", "(Ljava/lang/String;)V"⟩, ⟨"java/lang/Exception", "<init>", "(Ljava/lang/String;)V"⟩, ⟨"java/lang/Throwable", "<init>", "(Ljava/lang/String;)V"⟩]
def ds_tx : List (Nat × String) := [(58, "a row has 0 to 1200 octets"), (113, "there is no such block"), (116, "the place is below 0"), (150, "a token tells 0, 1 or 2"), (152, "there is no such token"), (166, "counts are 0, 1 and 2"), (168, "rows are 0 and 1"), (170, "there is no such octet"), (172, "there are not so many octets"), (174, "a block has 4 to 256 octets"), (176, "bits are 0 to 64")]
theorem nf_0 : (RX4, 82, "DeltaDesk$Row", "octets", "[I", "DeltaDesk") ∈ ds_nF := List.mem_of_getElem? (i := 0) rfl
theorem nf_1 : (RX4, 104, "DeltaDesk$Row", "length", "I", "DeltaDesk") ∈ ds_nF := List.mem_of_getElem? (i := 1) rfl
theorem nf_2 : (RX4, 137, "DeltaDesk$Blocks", "lastSize", "I", "DeltaDesk") ∈ ds_nF := List.mem_of_getElem? (i := 2) rfl
theorem nf_3 : (RX4, 147, "DeltaDesk$Tokens", "count", "I", "DeltaDesk") ∈ ds_nF := List.mem_of_getElem? (i := 3) rfl
theorem nf_4 : (RX4, 154, "DeltaDesk$Tokens", "kinds", "[I", "DeltaDesk") ∈ ds_nF := List.mem_of_getElem? (i := 4) rfl
theorem nf_5 : (RX4, 157, "DeltaDesk$Tokens", "firsts", "[I", "DeltaDesk") ∈ ds_nF := List.mem_of_getElem? (i := 5) rfl
theorem nf_6 : (RX4, 160, "DeltaDesk$Tokens", "lengths", "[I", "DeltaDesk") ∈ ds_nF := List.mem_of_getElem? (i := 6) rfl
theorem nf_7 : (RX4, 200, "DeltaDesk$Blocks", "count", "I", "DeltaDesk") ∈ ds_nF := List.mem_of_getElem? (i := 7) rfl
theorem nf_8 : (RX4, 205, "DeltaDesk$Blocks", "weaks", "[I", "DeltaDesk") ∈ ds_nF := List.mem_of_getElem? (i := 8) rfl
theorem nf_9 : (RX4, 208, "DeltaDesk$Blocks", "strongs", "[J", "DeltaDesk") ∈ ds_nF := List.mem_of_getElem? (i := 9) rfl
theorem nf_10 : (RX0, 33, "DeltaDesk$Row", "length", "I", "DeltaDesk") ∈ ds_nF := List.mem_of_getElem? (i := 10) rfl
theorem nf_11 : (RX3, 29, "DeltaDesk$Row", "length", "I", "DeltaDesk") ∈ ds_nF := List.mem_of_getElem? (i := 11) rfl
theorem nf_12 : (RX3, 54, "DeltaDesk$Row", "octets", "[I", "DeltaDesk") ∈ ds_nF := List.mem_of_getElem? (i := 12) rfl
theorem nm_0 : (RX4, 11, yX1_init, "DeltaDesk") ∈ ds_nM := List.mem_of_getElem? (i := 0) rfl
theorem nm_1 : (RX4, 24, yX0_init, "DeltaDesk") ∈ ds_nM := List.mem_of_getElem? (i := 1) rfl
theorem nm_2 : (RX4, 33, yX3_init, "DeltaDesk") ∈ ds_nM := List.mem_of_getElem? (i := 2) rfl
theorem nm_3 : (RX4, 43, yX2_init, "DeltaDesk") ∈ ds_nM := List.mem_of_getElem? (i := 3) rfl
theorem nm_4 : (RX4, 67, yX1_resize, "DeltaDesk") ∈ ds_nM := List.mem_of_getElem? (i := 4) rfl
theorem nm_5 : (RX4, 74, yX1_write, "DeltaDesk") ∈ ds_nM := List.mem_of_getElem? (i := 5) rfl
theorem nm_6 : (RX4, 92, yX1_weakSum, "DeltaDesk") ∈ ds_nM := List.mem_of_getElem? (i := 6) rfl
theorem nm_7 : (RX4, 96, yX1_strongSum, "DeltaDesk") ∈ ds_nM := List.mem_of_getElem? (i := 7) rfl
theorem nm_8 : (RX4, 131, yX0_cut, "DeltaDesk") ∈ ds_nM := List.mem_of_getElem? (i := 8) rfl
theorem nm_9 : (RX4, 134, yX3_open, "DeltaDesk") ∈ ds_nM := List.mem_of_getElem? (i := 9) rfl
theorem nm_10 : (RX4, 140, yX2_clear, "DeltaDesk") ∈ ds_nM := List.mem_of_getElem? (i := 10) rfl
theorem nm_11 : (RX4, 163, yX1_append, "DeltaDesk") ∈ ds_nM := List.mem_of_getElem? (i := 11) rfl
theorem nm_12 : (RX4, 180, yX3_moveTo, "DeltaDesk") ∈ ds_nM := List.mem_of_getElem? (i := 12) rfl
theorem nm_13 : (RX4, 183, yX3_shows, "DeltaDesk") ∈ ds_nM := List.mem_of_getElem? (i := 13) rfl
theorem nm_14 : (RX4, 191, yX2_add, "DeltaDesk") ∈ ds_nM := List.mem_of_getElem? (i := 14) rfl
theorem nm_15 : (RX4, 194, yX0_start, "DeltaDesk") ∈ ds_nM := List.mem_of_getElem? (i := 15) rfl
theorem nm_16 : (RX4, 198, yX0_length, "DeltaDesk") ∈ ds_nM := List.mem_of_getElem? (i := 16) rfl
theorem nm_17 : (RX0, 38, yX4_blockCount, "DeltaDesk") ∈ ds_nM := List.mem_of_getElem? (i := 17) rfl
theorem nm_18 : (RX0, 48, yX1_weakSum, "DeltaDesk") ∈ ds_nM := List.mem_of_getElem? (i := 18) rfl
theorem nm_19 : (RX0, 51, yX1_strongSum, "DeltaDesk") ∈ ds_nM := List.mem_of_getElem? (i := 19) rfl
theorem nm_20 : (RX3, 47, yX1_joinWeak, "DeltaDesk") ∈ ds_nM := List.mem_of_getElem? (i := 20) rfl
theorem nm_21 : (RX3, 62, yX1_strongSum, "DeltaDesk") ∈ ds_nM := List.mem_of_getElem? (i := 21) rfl
theorem tx_0 : (58, "a row has 0 to 1200 octets") ∈ ds_tx := List.mem_of_getElem? (i := 0) rfl
theorem tx_1 : (113, "there is no such block") ∈ ds_tx := List.mem_of_getElem? (i := 1) rfl
theorem tx_2 : (116, "the place is below 0") ∈ ds_tx := List.mem_of_getElem? (i := 2) rfl
theorem tx_3 : (150, "a token tells 0, 1 or 2") ∈ ds_tx := List.mem_of_getElem? (i := 3) rfl
theorem tx_4 : (152, "there is no such token") ∈ ds_tx := List.mem_of_getElem? (i := 4) rfl
theorem tx_5 : (166, "counts are 0, 1 and 2") ∈ ds_tx := List.mem_of_getElem? (i := 5) rfl
theorem tx_6 : (168, "rows are 0 and 1") ∈ ds_tx := List.mem_of_getElem? (i := 6) rfl
theorem tx_7 : (170, "there is no such octet") ∈ ds_tx := List.mem_of_getElem? (i := 7) rfl
theorem tx_8 : (172, "there are not so many octets") ∈ ds_tx := List.mem_of_getElem? (i := 8) rfl
theorem tx_9 : (174, "a block has 4 to 256 octets") ∈ ds_tx := List.mem_of_getElem? (i := 9) rfl
theorem tx_10 : (176, "bits are 0 to 64") ∈ ds_tx := List.mem_of_getElem? (i := 10) rfl
def wsX4_init : List Cond := Cond.code yX4_init cX4_init 1 none :: ds_all
theorem g_X4_init : GoodIn ds_all wsX4_init := ds_goodIn iw_0
theorem hd_X4_init : yX4_init.cls ≠ "java/lang/invoke/MethodHandle" ∧ yX4_init.cls ≠ "java/lang/invoke/VarHandle" ∧ (parseMethodDescriptor yX4_init.desc).map (fun d => d.parameters.length) = some 0 := by decide +kernel
def wsX4_size : List Cond := Cond.code yX4_size cX4_size 3 none :: ds_all
theorem g_X4_size : GoodIn ds_all wsX4_size := ds_goodIn iw_28
theorem hd_X4_size : yX4_size.cls ≠ "java/lang/invoke/MethodHandle" ∧ yX4_size.cls ≠ "java/lang/invoke/VarHandle" ∧ (parseMethodDescriptor yX4_size.desc).map (fun d => d.parameters.length) = some 2 := by decide +kernel
def wsX4_put : List Cond := Cond.code yX4_put cX4_put 5 none :: ds_all
theorem g_X4_put : GoodIn ds_all wsX4_put := ds_goodIn iw_39
theorem hd_X4_put : yX4_put.cls ≠ "java/lang/invoke/MethodHandle" ∧ yX4_put.cls ≠ "java/lang/invoke/VarHandle" ∧ (parseMethodDescriptor yX4_put.desc).map (fun d => d.parameters.length) = some 3 := by decide +kernel
def wsX4_move : List Cond := Cond.code yX4_move cX4_move 6 none :: ds_all
theorem g_X4_move : GoodIn ds_all wsX4_move := ds_goodIn iw_44
theorem hd_X4_move : yX4_move.cls ≠ "java/lang/invoke/MethodHandle" ∧ yX4_move.cls ≠ "java/lang/invoke/VarHandle" ∧ (parseMethodDescriptor yX4_move.desc).map (fun d => d.parameters.length) = some 5 := by decide +kernel
def wsX4_octet : List Cond := Cond.code yX4_octet cX4_octet 3 (some .int) :: ds_all
theorem g_X4_octet : GoodIn ds_all wsX4_octet := ds_goodIn iw_51
theorem hd_X4_octet : yX4_octet.cls ≠ "java/lang/invoke/MethodHandle" ∧ yX4_octet.cls ≠ "java/lang/invoke/VarHandle" ∧ (parseMethodDescriptor yX4_octet.desc).map (fun d => d.parameters.length) = some 2 := by decide +kernel
def wsX4_weak : List Cond := Cond.code yX4_weak cX4_weak 4 (some .int) :: ds_all
theorem g_X4_weak : GoodIn ds_all wsX4_weak := ds_goodIn iw_52
theorem hd_X4_weak : yX4_weak.cls ≠ "java/lang/invoke/MethodHandle" ∧ yX4_weak.cls ≠ "java/lang/invoke/VarHandle" ∧ (parseMethodDescriptor yX4_weak.desc).map (fun d => d.parameters.length) = some 3 := by decide +kernel
def wsX4_strong : List Cond := Cond.code yX4_strong cX4_strong 4 (some .long) :: ds_all
theorem g_X4_strong : GoodIn ds_all wsX4_strong := ds_goodIn iw_55
theorem hd_X4_strong : yX4_strong.cls ≠ "java/lang/invoke/MethodHandle" ∧ yX4_strong.cls ≠ "java/lang/invoke/VarHandle" ∧ (parseMethodDescriptor yX4_strong.desc).map (fun d => d.parameters.length) = some 3 := by decide +kernel
def wsX4_find : List Cond := Cond.code yX4_find cX4_find 5 (some .int) :: ds_all
theorem g_X4_find : GoodIn ds_all wsX4_find := ds_goodIn iw_58
theorem hd_X4_find : yX4_find.cls ≠ "java/lang/invoke/MethodHandle" ∧ yX4_find.cls ≠ "java/lang/invoke/VarHandle" ∧ (parseMethodDescriptor yX4_find.desc).map (fun d => d.parameters.length) = some 4 := by decide +kernel
def wsX4_delta : List Cond := Cond.code yX4_delta cX4_delta 3 (some .int) :: ds_all
theorem g_X4_delta : GoodIn ds_all wsX4_delta := ds_goodIn iw_74
theorem hd_X4_delta : yX4_delta.cls ≠ "java/lang/invoke/MethodHandle" ∧ yX4_delta.cls ≠ "java/lang/invoke/VarHandle" ∧ (parseMethodDescriptor yX4_delta.desc).map (fun d => d.parameters.length) = some 2 := by decide +kernel
def wsX4_token : List Cond := Cond.code yX4_token cX4_token 3 (some .int) :: ds_all
theorem g_X4_token : GoodIn ds_all wsX4_token := ds_goodIn iw_84
theorem hd_X4_token : yX4_token.cls ≠ "java/lang/invoke/MethodHandle" ∧ yX4_token.cls ≠ "java/lang/invoke/VarHandle" ∧ (parseMethodDescriptor yX4_token.desc).map (fun d => d.parameters.length) = some 2 := by decide +kernel
def wsX4_sent : List Cond := Cond.code yX4_sent cX4_sent 3 (some .int) :: ds_all
theorem g_X4_sent : GoodIn ds_all wsX4_sent := ds_goodIn iw_85
theorem hd_X4_sent : yX4_sent.cls ≠ "java/lang/invoke/MethodHandle" ∧ yX4_sent.cls ≠ "java/lang/invoke/VarHandle" ∧ (parseMethodDescriptor yX4_sent.desc).map (fun d => d.parameters.length) = some 0 := by decide +kernel
def wsX4_patch : List Cond := Cond.code yX4_patch cX4_patch 1 (some .int) :: ds_all
theorem g_X4_patch : GoodIn ds_all wsX4_patch := ds_goodIn iw_86
theorem hd_X4_patch : yX4_patch.cls ≠ "java/lang/invoke/MethodHandle" ∧ yX4_patch.cls ≠ "java/lang/invoke/VarHandle" ∧ (parseMethodDescriptor yX4_patch.desc).map (fun d => d.parameters.length) = some 0 := by decide +kernel
def wsX4_same : List Cond := Cond.code yX4_same cX4_same 2 (some .boolean) :: ds_all
theorem g_X4_same : GoodIn ds_all wsX4_same := ds_goodIn iw_89
theorem hd_X4_same : yX4_same.cls ≠ "java/lang/invoke/MethodHandle" ∧ yX4_same.cls ≠ "java/lang/invoke/VarHandle" ∧ (parseMethodDescriptor yX4_same.desc).map (fun d => d.parameters.length) = some 0 := by decide +kernel
def wsX4_count : List Cond := Cond.code yX4_count cX4_count 2 (some .int) :: ds_all
theorem g_X4_count : GoodIn ds_all wsX4_count := ds_goodIn iw_90
theorem hd_X4_count : yX4_count.cls ≠ "java/lang/invoke/MethodHandle" ∧ yX4_count.cls ≠ "java/lang/invoke/VarHandle" ∧ (parseMethodDescriptor yX4_count.desc).map (fun d => d.parameters.length) = some 1 := by decide +kernel
def wsX4_row : List Cond := Cond.code yX4_row cX4_row 2 (some (.object "DeltaDesk$Row")) :: ds_all
theorem g_X4_row : GoodIn ds_all wsX4_row := ds_goodIn iw_91
theorem hd_X4_row : yX4_row.cls ≠ "java/lang/invoke/MethodHandle" ∧ yX4_row.cls ≠ "java/lang/invoke/VarHandle" ∧ (parseMethodDescriptor yX4_row.desc).map (fun d => d.parameters.length) = some 1 := by decide +kernel
def wsX4_checkRow : List Cond := Cond.code yX4_checkRow cX4_checkRow 1 none :: ds_all
theorem g_X4_checkRow : GoodIn ds_all wsX4_checkRow := ds_goodIn iw_92
theorem hd_X4_checkRow : yX4_checkRow.cls ≠ "java/lang/invoke/MethodHandle" ∧ yX4_checkRow.cls ≠ "java/lang/invoke/VarHandle" ∧ (parseMethodDescriptor yX4_checkRow.desc).map (fun d => d.parameters.length) = some 1 := by decide +kernel
def wsX4_checkOctet : List Cond := Cond.code yX4_checkOctet cX4_checkOctet 2 none :: ds_all
theorem g_X4_checkOctet : GoodIn ds_all wsX4_checkOctet := ds_goodIn iw_93
theorem hd_X4_checkOctet : yX4_checkOctet.cls ≠ "java/lang/invoke/MethodHandle" ∧ yX4_checkOctet.cls ≠ "java/lang/invoke/VarHandle" ∧ (parseMethodDescriptor yX4_checkOctet.desc).map (fun d => d.parameters.length) = some 2 := by decide +kernel
def wsX4_checkRange : List Cond := Cond.code yX4_checkRange cX4_checkRange 3 none :: ds_all
theorem g_X4_checkRange : GoodIn ds_all wsX4_checkRange := ds_goodIn iw_94
theorem hd_X4_checkRange : yX4_checkRange.cls ≠ "java/lang/invoke/MethodHandle" ∧ yX4_checkRange.cls ≠ "java/lang/invoke/VarHandle" ∧ (parseMethodDescriptor yX4_checkRange.desc).map (fun d => d.parameters.length) = some 3 := by decide +kernel
def wsX4_checkBlocks : List Cond := Cond.code yX4_checkBlocks cX4_checkBlocks 2 none :: ds_all
theorem g_X4_checkBlocks : GoodIn ds_all wsX4_checkBlocks := ds_goodIn iw_95
theorem hd_X4_checkBlocks : yX4_checkBlocks.cls ≠ "java/lang/invoke/MethodHandle" ∧ yX4_checkBlocks.cls ≠ "java/lang/invoke/VarHandle" ∧ (parseMethodDescriptor yX4_checkBlocks.desc).map (fun d => d.parameters.length) = some 2 := by decide +kernel
def wsX4_blockCount : List Cond := Cond.code yX4_blockCount cX4_blockCount 2 (some .int) :: ds_all
theorem g_X4_blockCount : GoodIn ds_all wsX4_blockCount := ds_goodIn iw_96
theorem hd_X4_blockCount : yX4_blockCount.cls ≠ "java/lang/invoke/MethodHandle" ∧ yX4_blockCount.cls ≠ "java/lang/invoke/VarHandle" ∧ (parseMethodDescriptor yX4_blockCount.desc).map (fun d => d.parameters.length) = some 2 := by decide +kernel
def wsX4_strongMask : List Cond := Cond.code yX4_strongMask cX4_strongMask 1 (some .long) :: ds_all
theorem g_X4_strongMask : GoodIn ds_all wsX4_strongMask := ds_goodIn iw_97
theorem hd_X4_strongMask : yX4_strongMask.cls ≠ "java/lang/invoke/MethodHandle" ∧ yX4_strongMask.cls ≠ "java/lang/invoke/VarHandle" ∧ (parseMethodDescriptor yX4_strongMask.desc).map (fun d => d.parameters.length) = some 1 := by decide +kernel
def wsX4_firstPlace : List Cond := Cond.code yX4_firstPlace cX4_firstPlace 10 (some .int) :: ds_all
theorem g_X4_firstPlace : GoodIn ds_all wsX4_firstPlace := ds_goodIn iw_99
theorem hd_X4_firstPlace : yX4_firstPlace.cls ≠ "java/lang/invoke/MethodHandle" ∧ yX4_firstPlace.cls ≠ "java/lang/invoke/VarHandle" ∧ (parseMethodDescriptor yX4_firstPlace.desc).map (fun d => d.parameters.length) = some 4 := by decide +kernel
def wsX4_makeDelta : List Cond := Cond.code yX4_makeDelta cX4_makeDelta 7 none :: ds_all
theorem g_X4_makeDelta : GoodIn ds_all wsX4_makeDelta := ds_goodIn iw_104
theorem hd_X4_makeDelta : yX4_makeDelta.cls ≠ "java/lang/invoke/MethodHandle" ∧ yX4_makeDelta.cls ≠ "java/lang/invoke/VarHandle" ∧ (parseMethodDescriptor yX4_makeDelta.desc).map (fun d => d.parameters.length) = some 1 := by decide +kernel
def wsX4_blockAt : List Cond := Cond.code yX4_blockAt cX4_blockAt 6 (some .int) :: ds_all
theorem g_X4_blockAt : GoodIn ds_all wsX4_blockAt := ds_goodIn iw_114
theorem hd_X4_blockAt : yX4_blockAt.cls ≠ "java/lang/invoke/MethodHandle" ∧ yX4_blockAt.cls ≠ "java/lang/invoke/VarHandle" ∧ (parseMethodDescriptor yX4_blockAt.desc).map (fun d => d.parameters.length) = some 3 := by decide +kernel
def wsX4_fits : List Cond := Cond.code yX4_fits cX4_fits 5 (some .boolean) :: ds_all
theorem g_X4_fits : GoodIn ds_all wsX4_fits := ds_goodIn iw_118
theorem hd_X4_fits : yX4_fits.cls ≠ "java/lang/invoke/MethodHandle" ∧ yX4_fits.cls ≠ "java/lang/invoke/VarHandle" ∧ (parseMethodDescriptor yX4_fits.desc).map (fun d => d.parameters.length) = some 2 := by decide +kernel
def wsX5_init : List Cond := Cond.code yX5_init cX5_init 1 none :: ds_all
theorem g_X5_init : GoodIn ds_all wsX5_init := ds_goodIn iw_119
theorem hd_X5_init : yX5_init.cls ≠ "java/lang/invoke/MethodHandle" ∧ yX5_init.cls ≠ "java/lang/invoke/VarHandle" ∧ (parseMethodDescriptor yX5_init.desc).map (fun d => d.parameters.length) = some 0 := by decide +kernel
def wsX5_thrown : List Cond := Cond.code yX5_thrown cX5_thrown 1 (some .int) :: ds_all
theorem g_X5_thrown : GoodIn ds_all wsX5_thrown := ds_goodIn iw_130
theorem hd_X5_thrown : yX5_thrown.cls ≠ "java/lang/invoke/MethodHandle" ∧ yX5_thrown.cls ≠ "java/lang/invoke/VarHandle" ∧ (parseMethodDescriptor yX5_thrown.desc).map (fun d => d.parameters.length) = some 0 := by decide +kernel
def wsX5_fails : List Cond := Cond.code yX5_fails cX5_fails 3 (some .boolean) :: ds_all
theorem g_X5_fails : GoodIn ds_all wsX5_fails := ds_goodIn iw_132
theorem hd_X5_fails : yX5_fails.cls ≠ "java/lang/invoke/MethodHandle" ∧ yX5_fails.cls ≠ "java/lang/invoke/VarHandle" ∧ (parseMethodDescriptor yX5_fails.desc).map (fun d => d.parameters.length) = some 2 := by decide +kernel
def wsX5_no : List Cond := Cond.code yX5_no cX5_no 1 (some .boolean) :: ds_all
theorem g_X5_no : GoodIn ds_all wsX5_no := ds_goodIn iw_133
theorem hd_X5_no : yX5_no.cls ≠ "java/lang/invoke/MethodHandle" ∧ yX5_no.cls ≠ "java/lang/invoke/VarHandle" ∧ (parseMethodDescriptor yX5_no.desc).map (fun d => d.parameters.length) = some 1 := by decide +kernel
def wsX5_size : List Cond := Cond.code yX5_size cX5_size 4 none :: ds_all
theorem g_X5_size : GoodIn ds_all wsX5_size := ds_goodIn iw_134
theorem hd_X5_size : yX5_size.cls ≠ "java/lang/invoke/MethodHandle" ∧ yX5_size.cls ≠ "java/lang/invoke/VarHandle" ∧ (parseMethodDescriptor yX5_size.desc).map (fun d => d.parameters.length) = some 2 := by decide +kernel
def wsX5_put : List Cond := Cond.code yX5_put cX5_put 6 none :: ds_all
theorem g_X5_put : GoodIn ds_all wsX5_put := ds_goodIn iw_141
theorem hd_X5_put : yX5_put.cls ≠ "java/lang/invoke/MethodHandle" ∧ yX5_put.cls ≠ "java/lang/invoke/VarHandle" ∧ (parseMethodDescriptor yX5_put.desc).map (fun d => d.parameters.length) = some 3 := by decide +kernel
def wsX5_lacks : List Cond := Cond.code yX5_lacks cX5_lacks 4 (some .boolean) :: ds_all
theorem g_X5_lacks : GoodIn ds_all wsX5_lacks := ds_goodIn iw_142
theorem hd_X5_lacks : yX5_lacks.cls ≠ "java/lang/invoke/MethodHandle" ∧ yX5_lacks.cls ≠ "java/lang/invoke/VarHandle" ∧ (parseMethodDescriptor yX5_lacks.desc).map (fun d => d.parameters.length) = some 3 := by decide +kernel
def wsX5_move : List Cond := Cond.code yX5_move cX5_move 7 none :: ds_all
theorem g_X5_move : GoodIn ds_all wsX5_move := ds_goodIn iw_143
theorem hd_X5_move : yX5_move.cls ≠ "java/lang/invoke/MethodHandle" ∧ yX5_move.cls ≠ "java/lang/invoke/VarHandle" ∧ (parseMethodDescriptor yX5_move.desc).map (fun d => d.parameters.length) = some 5 := by decide +kernel
def wsX5_octet : List Cond := Cond.code yX5_octet cX5_octet 3 (some .int) :: ds_all
theorem g_X5_octet : GoodIn ds_all wsX5_octet := ds_goodIn iw_147
theorem hd_X5_octet : yX5_octet.cls ≠ "java/lang/invoke/MethodHandle" ∧ yX5_octet.cls ≠ "java/lang/invoke/VarHandle" ∧ (parseMethodDescriptor yX5_octet.desc).map (fun d => d.parameters.length) = some 2 := by decide +kernel
def wsX5_weakOf : List Cond := Cond.code yX5_weakOf cX5_weakOf 7 (some .int) :: ds_all
theorem g_X5_weakOf : GoodIn ds_all wsX5_weakOf := ds_goodIn iw_148
theorem hd_X5_weakOf : yX5_weakOf.cls ≠ "java/lang/invoke/MethodHandle" ∧ yX5_weakOf.cls ≠ "java/lang/invoke/VarHandle" ∧ (parseMethodDescriptor yX5_weakOf.desc).map (fun d => d.parameters.length) = some 3 := by decide +kernel
def wsX5_strongOf : List Cond := Cond.code yX5_strongOf cX5_strongOf 7 (some .long) :: ds_all
theorem g_X5_strongOf : GoodIn ds_all wsX5_strongOf := ds_goodIn iw_151
theorem hd_X5_strongOf : yX5_strongOf.cls ≠ "java/lang/invoke/MethodHandle" ∧ yX5_strongOf.cls ≠ "java/lang/invoke/VarHandle" ∧ (parseMethodDescriptor yX5_strongOf.desc).map (fun d => d.parameters.length) = some 3 := by decide +kernel
def wsX5_weak : List Cond := Cond.code yX5_weak cX5_weak 4 (some .int) :: ds_all
theorem g_X5_weak : GoodIn ds_all wsX5_weak := ds_goodIn iw_154
theorem hd_X5_weak : yX5_weak.cls ≠ "java/lang/invoke/MethodHandle" ∧ yX5_weak.cls ≠ "java/lang/invoke/VarHandle" ∧ (parseMethodDescriptor yX5_weak.desc).map (fun d => d.parameters.length) = some 3 := by decide +kernel
def wsX5_strong : List Cond := Cond.code yX5_strong cX5_strong 4 (some .long) :: ds_all
theorem g_X5_strong : GoodIn ds_all wsX5_strong := ds_goodIn iw_158
theorem hd_X5_strong : yX5_strong.cls ≠ "java/lang/invoke/MethodHandle" ∧ yX5_strong.cls ≠ "java/lang/invoke/VarHandle" ∧ (parseMethodDescriptor yX5_strong.desc).map (fun d => d.parameters.length) = some 3 := by decide +kernel
def wsX5_bad : List Cond := Cond.code yX5_bad cX5_bad 2 (some .boolean) :: ds_all
theorem g_X5_bad : GoodIn ds_all wsX5_bad := ds_goodIn iw_162
theorem hd_X5_bad : yX5_bad.cls ≠ "java/lang/invoke/MethodHandle" ∧ yX5_bad.cls ≠ "java/lang/invoke/VarHandle" ∧ (parseMethodDescriptor yX5_bad.desc).map (fun d => d.parameters.length) = some 2 := by decide +kernel
def wsX5_blocks : List Cond := Cond.code yX5_blocks cX5_blocks 2 (some .int) :: ds_all
theorem g_X5_blocks : GoodIn ds_all wsX5_blocks := ds_goodIn iw_163
theorem hd_X5_blocks : yX5_blocks.cls ≠ "java/lang/invoke/MethodHandle" ∧ yX5_blocks.cls ≠ "java/lang/invoke/VarHandle" ∧ (parseMethodDescriptor yX5_blocks.desc).map (fun d => d.parameters.length) = some 1 := by decide +kernel
def wsX5_length : List Cond := Cond.code yX5_length cX5_length 3 (some .int) :: ds_all
theorem g_X5_length : GoodIn ds_all wsX5_length := ds_goodIn iw_164
theorem hd_X5_length : yX5_length.cls ≠ "java/lang/invoke/MethodHandle" ∧ yX5_length.cls ≠ "java/lang/invoke/VarHandle" ∧ (parseMethodDescriptor yX5_length.desc).map (fun d => d.parameters.length) = some 2 := by decide +kernel
def wsX5_fits : List Cond := Cond.code yX5_fits cX5_fits 8 (some .boolean) :: ds_all
theorem g_X5_fits : GoodIn ds_all wsX5_fits := ds_goodIn iw_165
theorem hd_X5_fits : yX5_fits.cls ≠ "java/lang/invoke/MethodHandle" ∧ yX5_fits.cls ≠ "java/lang/invoke/VarHandle" ∧ (parseMethodDescriptor yX5_fits.desc).map (fun d => d.parameters.length) = some 4 := by decide +kernel
def wsX5_find : List Cond := Cond.code yX5_find cX5_find 6 (some .int) :: ds_all
theorem g_X5_find : GoodIn ds_all wsX5_find := ds_goodIn iw_169
theorem hd_X5_find : yX5_find.cls ≠ "java/lang/invoke/MethodHandle" ∧ yX5_find.cls ≠ "java/lang/invoke/VarHandle" ∧ (parseMethodDescriptor yX5_find.desc).map (fun d => d.parameters.length) = some 4 := by decide +kernel
def wsX5_delta : List Cond := Cond.code yX5_delta cX5_delta 9 (some .int) :: ds_all
theorem g_X5_delta : GoodIn ds_all wsX5_delta := ds_goodIn iw_178
theorem hd_X5_delta : yX5_delta.cls ≠ "java/lang/invoke/MethodHandle" ∧ yX5_delta.cls ≠ "java/lang/invoke/VarHandle" ∧ (parseMethodDescriptor yX5_delta.desc).map (fun d => d.parameters.length) = some 2 := by decide +kernel
def wsX5_token : List Cond := Cond.code yX5_token cX5_token 3 (some .int) :: ds_all
theorem g_X5_token : GoodIn ds_all wsX5_token := ds_goodIn iw_182
theorem hd_X5_token : yX5_token.cls ≠ "java/lang/invoke/MethodHandle" ∧ yX5_token.cls ≠ "java/lang/invoke/VarHandle" ∧ (parseMethodDescriptor yX5_token.desc).map (fun d => d.parameters.length) = some 2 := by decide +kernel
def wsX5_sent : List Cond := Cond.code yX5_sent cX5_sent 3 (some .int) :: ds_all
theorem g_X5_sent : GoodIn ds_all wsX5_sent := ds_goodIn iw_183
theorem hd_X5_sent : yX5_sent.cls ≠ "java/lang/invoke/MethodHandle" ∧ yX5_sent.cls ≠ "java/lang/invoke/VarHandle" ∧ (parseMethodDescriptor yX5_sent.desc).map (fun d => d.parameters.length) = some 0 := by decide +kernel
def wsX5_patch : List Cond := Cond.code yX5_patch cX5_patch 6 (some .int) :: ds_all
theorem g_X5_patch : GoodIn ds_all wsX5_patch := ds_goodIn iw_184
theorem hd_X5_patch : yX5_patch.cls ≠ "java/lang/invoke/MethodHandle" ∧ yX5_patch.cls ≠ "java/lang/invoke/VarHandle" ∧ (parseMethodDescriptor yX5_patch.desc).map (fun d => d.parameters.length) = some 0 := by decide +kernel
def wsX5_same : List Cond := Cond.code yX5_same cX5_same 2 (some .boolean) :: ds_all
theorem g_X5_same : GoodIn ds_all wsX5_same := ds_goodIn iw_185
theorem hd_X5_same : yX5_same.cls ≠ "java/lang/invoke/MethodHandle" ∧ yX5_same.cls ≠ "java/lang/invoke/VarHandle" ∧ (parseMethodDescriptor yX5_same.desc).map (fun d => d.parameters.length) = some 0 := by decide +kernel
def wsX5_count : List Cond := Cond.code yX5_count cX5_count 2 (some .int) :: ds_all
theorem g_X5_count : GoodIn ds_all wsX5_count := ds_goodIn iw_186
theorem hd_X5_count : yX5_count.cls ≠ "java/lang/invoke/MethodHandle" ∧ yX5_count.cls ≠ "java/lang/invoke/VarHandle" ∧ (parseMethodDescriptor yX5_count.desc).map (fun d => d.parameters.length) = some 1 := by decide +kernel
def wsX0_init : List Cond := Cond.code yX0_init cX0_init 2 none :: ds_all
theorem g_X0_init : GoodIn ds_all wsX0_init := ds_goodIn iw_187
theorem hd_X0_init : yX0_init.cls ≠ "java/lang/invoke/MethodHandle" ∧ yX0_init.cls ≠ "java/lang/invoke/VarHandle" ∧ (parseMethodDescriptor yX0_init.desc).map (fun d => d.parameters.length) = some 1 := by decide +kernel
def wsX0_cut : List Cond := Cond.code yX0_cut cX0_cut 3 none :: ds_all
theorem g_X0_cut : GoodIn ds_all wsX0_cut := ds_goodIn iw_196
theorem hd_X0_cut : yX0_cut.cls ≠ "java/lang/invoke/MethodHandle" ∧ yX0_cut.cls ≠ "java/lang/invoke/VarHandle" ∧ (parseMethodDescriptor yX0_cut.desc).map (fun d => d.parameters.length) = some 1 := by decide +kernel
def wsX0_start : List Cond := Cond.code yX0_start cX0_start 2 (some .int) :: ds_all
theorem g_X0_start : GoodIn ds_all wsX0_start := ds_goodIn iw_199
theorem hd_X0_start : yX0_start.cls ≠ "java/lang/invoke/MethodHandle" ∧ yX0_start.cls ≠ "java/lang/invoke/VarHandle" ∧ (parseMethodDescriptor yX0_start.desc).map (fun d => d.parameters.length) = some 1 := by decide +kernel
def wsX0_length : List Cond := Cond.code yX0_length cX0_length 2 (some .int) :: ds_all
theorem g_X0_length : GoodIn ds_all wsX0_length := ds_goodIn iw_200
theorem hd_X0_length : yX0_length.cls ≠ "java/lang/invoke/MethodHandle" ∧ yX0_length.cls ≠ "java/lang/invoke/VarHandle" ∧ (parseMethodDescriptor yX0_length.desc).map (fun d => d.parameters.length) = some 1 := by decide +kernel
def wsX1_init : List Cond := Cond.code yX1_init cX1_init 1 none :: ds_all
theorem g_X1_init : GoodIn ds_all wsX1_init := ds_goodIn iw_201
theorem hd_X1_init : yX1_init.cls ≠ "java/lang/invoke/MethodHandle" ∧ yX1_init.cls ≠ "java/lang/invoke/VarHandle" ∧ (parseMethodDescriptor yX1_init.desc).map (fun d => d.parameters.length) = some 0 := by decide +kernel
def wsX1_resize : List Cond := Cond.code yX1_resize cX1_resize 3 none :: ds_all
theorem g_X1_resize : GoodIn ds_all wsX1_resize := ds_goodIn iw_205
theorem hd_X1_resize : yX1_resize.cls ≠ "java/lang/invoke/MethodHandle" ∧ yX1_resize.cls ≠ "java/lang/invoke/VarHandle" ∧ (parseMethodDescriptor yX1_resize.desc).map (fun d => d.parameters.length) = some 1 := by decide +kernel
def wsX1_write : List Cond := Cond.code yX1_write cX1_write 5 none :: ds_all
theorem g_X1_write : GoodIn ds_all wsX1_write := ds_goodIn iw_206
theorem hd_X1_write : yX1_write.cls ≠ "java/lang/invoke/MethodHandle" ∧ yX1_write.cls ≠ "java/lang/invoke/VarHandle" ∧ (parseMethodDescriptor yX1_write.desc).map (fun d => d.parameters.length) = some 2 := by decide +kernel
def wsX1_append : List Cond := Cond.code yX1_append cX1_append 4 none :: ds_all
theorem g_X1_append : GoodIn ds_all wsX1_append := ds_goodIn iw_207
theorem hd_X1_append : yX1_append.cls ≠ "java/lang/invoke/MethodHandle" ∧ yX1_append.cls ≠ "java/lang/invoke/VarHandle" ∧ (parseMethodDescriptor yX1_append.desc).map (fun d => d.parameters.length) = some 3 := by decide +kernel
def wsX1_weakSum : List Cond := Cond.code yX1_weakSum cX1_weakSum 6 (some .int) :: ds_all
theorem g_X1_weakSum : GoodIn ds_all wsX1_weakSum := ds_goodIn iw_209
theorem hd_X1_weakSum : yX1_weakSum.cls ≠ "java/lang/invoke/MethodHandle" ∧ yX1_weakSum.cls ≠ "java/lang/invoke/VarHandle" ∧ (parseMethodDescriptor yX1_weakSum.desc).map (fun d => d.parameters.length) = some 2 := by decide +kernel
def wsX1_joinWeak : List Cond := Cond.code yX1_joinWeak cX1_joinWeak 2 (some .int) :: ds_all
theorem g_X1_joinWeak : GoodIn ds_all wsX1_joinWeak := ds_goodIn iw_212
theorem hd_X1_joinWeak : yX1_joinWeak.cls ≠ "java/lang/invoke/MethodHandle" ∧ yX1_joinWeak.cls ≠ "java/lang/invoke/VarHandle" ∧ (parseMethodDescriptor yX1_joinWeak.desc).map (fun d => d.parameters.length) = some 2 := by decide +kernel
def wsX1_strongSum : List Cond := Cond.code yX1_strongSum cX1_strongSum 6 (some .long) :: ds_all
theorem g_X1_strongSum : GoodIn ds_all wsX1_strongSum := ds_goodIn iw_215
theorem hd_X1_strongSum : yX1_strongSum.cls ≠ "java/lang/invoke/MethodHandle" ∧ yX1_strongSum.cls ≠ "java/lang/invoke/VarHandle" ∧ (parseMethodDescriptor yX1_strongSum.desc).map (fun d => d.parameters.length) = some 2 := by decide +kernel
def wsX2_init : List Cond := Cond.code yX2_init cX2_init 1 none :: ds_all
theorem g_X2_init : GoodIn ds_all wsX2_init := ds_goodIn iw_218
theorem hd_X2_init : yX2_init.cls ≠ "java/lang/invoke/MethodHandle" ∧ yX2_init.cls ≠ "java/lang/invoke/VarHandle" ∧ (parseMethodDescriptor yX2_init.desc).map (fun d => d.parameters.length) = some 0 := by decide +kernel
def wsX2_clear : List Cond := Cond.code yX2_clear cX2_clear 1 none :: ds_all
theorem g_X2_clear : GoodIn ds_all wsX2_clear := ds_goodIn iw_224
theorem hd_X2_clear : yX2_clear.cls ≠ "java/lang/invoke/MethodHandle" ∧ yX2_clear.cls ≠ "java/lang/invoke/VarHandle" ∧ (parseMethodDescriptor yX2_clear.desc).map (fun d => d.parameters.length) = some 0 := by decide +kernel
def wsX2_add : List Cond := Cond.code yX2_add cX2_add 3 none :: ds_all
theorem g_X2_add : GoodIn ds_all wsX2_add := ds_goodIn iw_225
theorem hd_X2_add : yX2_add.cls ≠ "java/lang/invoke/MethodHandle" ∧ yX2_add.cls ≠ "java/lang/invoke/VarHandle" ∧ (parseMethodDescriptor yX2_add.desc).map (fun d => d.parameters.length) = some 2 := by decide +kernel
def wsX2_goesOn : List Cond := Cond.code yX2_goesOn cX2_goesOn 3 (some .boolean) :: ds_all
theorem g_X2_goesOn : GoodIn ds_all wsX2_goesOn := ds_goodIn iw_229
theorem hd_X2_goesOn : yX2_goesOn.cls ≠ "java/lang/invoke/MethodHandle" ∧ yX2_goesOn.cls ≠ "java/lang/invoke/VarHandle" ∧ (parseMethodDescriptor yX2_goesOn.desc).map (fun d => d.parameters.length) = some 2 := by decide +kernel
def wsX3_init : List Cond := Cond.code yX3_init cX3_init 2 none :: ds_all
theorem g_X3_init : GoodIn ds_all wsX3_init := ds_goodIn iw_230
theorem hd_X3_init : yX3_init.cls ≠ "java/lang/invoke/MethodHandle" ∧ yX3_init.cls ≠ "java/lang/invoke/VarHandle" ∧ (parseMethodDescriptor yX3_init.desc).map (fun d => d.parameters.length) = some 1 := by decide +kernel
def wsX3_open : List Cond := Cond.code yX3_open cX3_open 2 none :: ds_all
theorem g_X3_open : GoodIn ds_all wsX3_open := ds_goodIn iw_237
theorem hd_X3_open : yX3_open.cls ≠ "java/lang/invoke/MethodHandle" ∧ yX3_open.cls ≠ "java/lang/invoke/VarHandle" ∧ (parseMethodDescriptor yX3_open.desc).map (fun d => d.parameters.length) = some 1 := by decide +kernel
def wsX3_moveTo : List Cond := Cond.code yX3_moveTo cX3_moveTo 3 none :: ds_all
theorem g_X3_moveTo : GoodIn ds_all wsX3_moveTo := ds_goodIn iw_238
theorem hd_X3_moveTo : yX3_moveTo.cls ≠ "java/lang/invoke/MethodHandle" ∧ yX3_moveTo.cls ≠ "java/lang/invoke/VarHandle" ∧ (parseMethodDescriptor yX3_moveTo.desc).map (fun d => d.parameters.length) = some 1 := by decide +kernel
def wsX3_roll : List Cond := Cond.code yX3_roll cX3_roll 3 none :: ds_all
theorem g_X3_roll : GoodIn ds_all wsX3_roll := ds_goodIn iw_248
theorem hd_X3_roll : yX3_roll.cls ≠ "java/lang/invoke/MethodHandle" ∧ yX3_roll.cls ≠ "java/lang/invoke/VarHandle" ∧ (parseMethodDescriptor yX3_roll.desc).map (fun d => d.parameters.length) = some 0 := by decide +kernel
def wsX3_sumAfresh : List Cond := Cond.code yX3_sumAfresh cX3_sumAfresh 3 none :: ds_all
theorem g_X3_sumAfresh : GoodIn ds_all wsX3_sumAfresh := ds_goodIn iw_249
theorem hd_X3_sumAfresh : yX3_sumAfresh.cls ≠ "java/lang/invoke/MethodHandle" ∧ yX3_sumAfresh.cls ≠ "java/lang/invoke/VarHandle" ∧ (parseMethodDescriptor yX3_sumAfresh.desc).map (fun d => d.parameters.length) = some 1 := by decide +kernel
def wsX3_shows : List Cond := Cond.code yX3_shows cX3_shows 6 (some .boolean) :: ds_all
theorem g_X3_shows : GoodIn ds_all wsX3_shows := ds_goodIn iw_250
theorem hd_X3_shows : yX3_shows.cls ≠ "java/lang/invoke/MethodHandle" ∧ yX3_shows.cls ≠ "java/lang/invoke/VarHandle" ∧ (parseMethodDescriptor yX3_shows.desc).map (fun d => d.parameters.length) = some 3 := by decide +kernel
def wsX3_strongSumHere : List Cond := Cond.code yX3_strongSumHere cX3_strongSumHere 1 (some .long) :: ds_all
theorem g_X3_strongSumHere : GoodIn ds_all wsX3_strongSumHere := ds_goodIn iw_254
theorem hd_X3_strongSumHere : yX3_strongSumHere.cls ≠ "java/lang/invoke/MethodHandle" ∧ yX3_strongSumHere.cls ≠ "java/lang/invoke/VarHandle" ∧ (parseMethodDescriptor yX3_strongSumHere.desc).map (fun d => d.parameters.length) = some 0 := by decide +kernel
def wsL_size : List Cond := Cond.codeWith yL_size cL_size 4 (some .int) [(0, 6, 9, 13)] :: ds_all
theorem g_L_size : GoodIn ds_all wsL_size := ds_goodIn iw_256
theorem hd_L_size : yL_size.cls ≠ "java/lang/invoke/MethodHandle" ∧ yL_size.cls ≠ "java/lang/invoke/VarHandle" ∧ (parseMethodDescriptor yL_size.desc).map (fun d => d.parameters.length) = some 3 := by decide +kernel
def wsL_put : List Cond := Cond.codeWith yL_put cL_put 6 (some .int) [(0, 7, 10, 13), (0, 7, 14, 19)] :: ds_all
theorem g_L_put : GoodIn ds_all wsL_put := ds_goodIn iw_260
theorem hd_L_put : yL_put.cls ≠ "java/lang/invoke/MethodHandle" ∧ yL_put.cls ≠ "java/lang/invoke/VarHandle" ∧ (parseMethodDescriptor yL_put.desc).map (fun d => d.parameters.length) = some 4 := by decide +kernel
def wsL_move : List Cond := Cond.codeWith yL_move cL_move 7 (some .int) [(0, 11, 14, 13), (0, 11, 18, 19)] :: ds_all
theorem g_L_move : GoodIn ds_all wsL_move := ds_goodIn iw_264
theorem hd_L_move : yL_move.cls ≠ "java/lang/invoke/MethodHandle" ∧ yL_move.cls ≠ "java/lang/invoke/VarHandle" ∧ (parseMethodDescriptor yL_move.desc).map (fun d => d.parameters.length) = some 6 := by decide +kernel
def wsL_octet : List Cond := Cond.codeWith yL_octet cL_octet 5 (some .int) [(0, 10, 13, 13), (0, 10, 17, 19)] :: ds_all
theorem g_L_octet : GoodIn ds_all wsL_octet := ds_goodIn iw_268
theorem hd_L_octet : yL_octet.cls ≠ "java/lang/invoke/MethodHandle" ∧ yL_octet.cls ≠ "java/lang/invoke/VarHandle" ∧ (parseMethodDescriptor yL_octet.desc).map (fun d => d.parameters.length) = some 4 := by decide +kernel
def wsL_weak : List Cond := Cond.codeWith yL_weak cL_weak 6 (some .int) [(0, 12, 15, 13), (0, 12, 19, 19)] :: ds_all
theorem g_L_weak : GoodIn ds_all wsL_weak := ds_goodIn iw_272
theorem hd_L_weak : yL_weak.cls ≠ "java/lang/invoke/MethodHandle" ∧ yL_weak.cls ≠ "java/lang/invoke/VarHandle" ∧ (parseMethodDescriptor yL_weak.desc).map (fun d => d.parameters.length) = some 5 := by decide +kernel
def wsL_strong : List Cond := Cond.codeWith yL_strong cL_strong 6 (some .int) [(0, 11, 14, 13), (0, 11, 18, 19)] :: ds_all
theorem g_L_strong : GoodIn ds_all wsL_strong := ds_goodIn iw_276
theorem hd_L_strong : yL_strong.cls ≠ "java/lang/invoke/MethodHandle" ∧ yL_strong.cls ≠ "java/lang/invoke/VarHandle" ∧ (parseMethodDescriptor yL_strong.desc).map (fun d => d.parameters.length) = some 5 := by decide +kernel
def wsL_find : List Cond := Cond.codeWith yL_find cL_find 7 (some .int) [(0, 14, 17, 13), (0, 14, 21, 19)] :: ds_all
theorem g_L_find : GoodIn ds_all wsL_find := ds_goodIn iw_280
theorem hd_L_find : yL_find.cls ≠ "java/lang/invoke/MethodHandle" ∧ yL_find.cls ≠ "java/lang/invoke/VarHandle" ∧ (parseMethodDescriptor yL_find.desc).map (fun d => d.parameters.length) = some 6 := by decide +kernel
def wsL_delta : List Cond := Cond.codeWith yL_delta cL_delta 5 (some .int) [(0, 10, 13, 13)] :: ds_all
theorem g_L_delta : GoodIn ds_all wsL_delta := ds_goodIn iw_284
theorem hd_L_delta : yL_delta.cls ≠ "java/lang/invoke/MethodHandle" ∧ yL_delta.cls ≠ "java/lang/invoke/VarHandle" ∧ (parseMethodDescriptor yL_delta.desc).map (fun d => d.parameters.length) = some 4 := by decide +kernel
def wsL_token : List Cond := Cond.codeWith yL_token cL_token 5 (some .int) [(0, 10, 13, 13), (0, 10, 17, 19)] :: ds_all
theorem g_L_token : GoodIn ds_all wsL_token := ds_goodIn iw_288
theorem hd_L_token : yL_token.cls ≠ "java/lang/invoke/MethodHandle" ∧ yL_token.cls ≠ "java/lang/invoke/VarHandle" ∧ (parseMethodDescriptor yL_token.desc).map (fun d => d.parameters.length) = some 4 := by decide +kernel
def wsL_count : List Cond := Cond.codeWith yL_count cL_count 4 (some .int) [(0, 9, 12, 13)] :: ds_all
theorem g_L_count : GoodIn ds_all wsL_count := ds_goodIn iw_292
theorem hd_L_count : yL_count.cls ≠ "java/lang/invoke/MethodHandle" ∧ yL_count.cls ≠ "java/lang/invoke/VarHandle" ∧ (parseMethodDescriptor yL_count.desc).map (fun d => d.parameters.length) = some 3 := by decide +kernel
end
section
/-! ===== one shape of contract for every method: rows of mine over the kit of worlds ===== -/
theorem ds_fm {α β : Type} (f : α → Option β) : ∀ (l : List α) (w : List β), l.map f = w.map some → l.filterMap f = w
  | [], [], _ => rfl
  | [], _ :: _, h => by cases h
  | _ :: _, [], h => by cases h
  | a :: l, b :: w, h => by
    simp only [List.map_cons, List.cons.injEq] at h
    rw [List.filterMap_cons, h.1, ds_fm f l w h.2]
/-- what the tables say for ever: the classes, the two kinds of arrays, the nest mates' links, the texts -/
def ds_K (D : va_G) (cI cL : ClassId) (U : State) : Prop :=
  va_K D vwCl [(cI, .int), (cL, .long)] U ∧ (∀ q ∈ ds_nF, va_Nw (.fieldLinkNest q.1 q.2.1 q.2.2.1 q.2.2.2.1 q.2.2.2.2.1 q.2.2.2.2.2) U) ∧
  (∀ q ∈ ds_nM, va_Nw (.methodLinkNest q.1 q.2.1 q.2.2.1 q.2.2.2) U) ∧ (∀ q ∈ ds_nC, va_Nw (.castable q.1 q.2) U) ∧ (∀ q ∈ ds_tx, ∃ a, vk_R RX4 q.1 q.2 a U) ∧ va_Nc "java/lang/IndexOutOfBoundsException" "java/lang/IllegalArgumentException" U ∧ ∀ q ∈ ds_nD, va_Nw (.declares q) U
theorem ds_K.warm {D : va_G} {cI cL : ClassId} {s U : State} (hW : s.WarmedH U.vm) (h : ds_K D cI cL s) : ds_K D cI cL U :=
  ⟨va_K.moved hW.alike h.1, fun q hq => va_Nw.warmF hW (h.2.1 q hq), fun q hq => va_Nw.warmM hW (h.2.2.1 q hq), fun q hq => va_Nw.warmC hW (h.2.2.2.1 q hq),
    fun q hq => by obtain ⟨a, ha⟩ := h.2.2.2.2.1 q hq; exact ⟨a, vk_R.warm hW ha⟩, va_Nc.moved hW.alike h.2.2.2.2.2.1, fun q hq => va_Nw.warmD hW (h.2.2.2.2.2.2 q hq)⟩
theorem ds_K.same {D : va_G} {cI cL : ClassId} {u U : State} (hv : u.vm = U.vm) (h : ds_K D cI cL u) : ds_K D cI cL U :=
  ⟨va_K.moved (by rw [hv]; exact Vm.Alike.refl _) h.1, fun q hq => va_Nw.same rfl hv (h.2.1 q hq), fun q hq => va_Nw.same rfl hv (h.2.2.1 q hq), fun q hq => va_Nw.same rfl hv (h.2.2.2.1 q hq),
    fun q hq => by obtain ⟨a, ha⟩ := h.2.2.2.2.1 q hq; exact ⟨a, vk_R.same hv.symm ha⟩, va_Nc.moved (by rw [hv]; exact Vm.Alike.refl _) h.2.2.2.2.2.1, fun q hq => va_Nw.same rfl hv (h.2.2.2.2.2.2 q hq)⟩
/-- the two statics that a throw reads, in a heap of which A may change -/
def ds_Z (A : Nat → Prop) (U : State) (H : Heap) : Prop := vx_Zq Bundle.tN "UNASSIGNED_STACK" Bundle.steD A U H ∧ vx_Zq Bundle.tN "SUPPRESSED_SENTINEL" Bundle.listD A U H
theorem ds_Z.go {A B : Nat → Prop} {s U : State} {H : Heap} {locs : List Loc} (h : ds_Z A s s.heap) (hS : va_S A s.heap H locs) (hB : ∀ q, B q → A q) (hW : s.WarmedH U.vm) (hU : U.heap = H) : ds_Z B U U.heap := by
  rw [hU]
  exact ⟨vx_Zq.moved hW.alike ((vx_Zq.kept h.1 hS.2.1).narrow hB), vx_Zq.moved hW.alike ((vx_Zq.kept h.2 hS.2.1).narrow hB)⟩
theorem ds_Z.same {A : Nat → Prop} {u U : State} {H : Heap} (hv : u.vm = U.vm) (h : ds_Z A u H) : ds_Z A U H :=
  ⟨vx_Zq.moved (by rw [hv]; exact Vm.Alike.refl _) h.1, vx_Zq.moved (by rw [hv]; exact Vm.Alike.refl _) h.2⟩
/-- a method's start; one that may throw has the statics beside it -/
def ds_P (D : va_G) (cI cL : ClassId) (av : List Value) (w : va_W) (sz : Nat) : Array Value → State → Prop :=
  va_Pc av (fun U => U.heap.size = sz ∧ va_P D vwCl w U.heap ∧ ds_K D cI cL U ∧ va_D (fun _ => True) w)
def ds_PX (D : va_G) (cI cL : ClassId) (av : List Value) (w : va_W) (sz : Nat) : Array Value → State → Prop :=
  va_Pc av (fun U => U.heap.size = sz ∧ va_P D vwCl w U.heap ∧ ds_K D cI cL U ∧ va_D (fun _ => True) w ∧ ds_Z (va_A w sz) U U.heap)
theorem ds_P.blind {D : va_G} {cI cL : ClassId} {av : List Value} {w : va_W} {sz : Nat} : FrameBlind (ds_P D cI cL av w sz) := fun a U g mk h => by
  obtain ⟨h0, h1, h2, h3, h4⟩ := h
  exact ⟨h0, h1, h2, ds_K.same (u := U) (U := U.calling g mk a) rfl h3, h4⟩
theorem ds_PX.blind {D : va_G} {cI cL : ClassId} {av : List Value} {w : va_W} {sz : Nat} : FrameBlind (ds_PX D cI cL av w sz) := fun a U g mk h => by
  obtain ⟨h0, h1, h2, h3, h4, h5⟩ := h
  exact ⟨h0, h1, h2, ds_K.same (u := U) (U := U.calling g mk a) rfl h3, h4, ds_Z.same (u := U) (U := U.calling g mk a) rfl h5⟩
theorem ds_pS {D : va_G} {cI cL : ClassId} {av : List Value} {w : va_W} {A : Nat → Prop} {s : State} {H : Heap} (hP : va_P D vwCl w H) (hD : va_D A w) (hK : ds_K D cI cL s) : PreS s H (ds_P D cI cL av w H.size) av :=
  ⟨ds_P.blind, fun U hU hW => ⟨rfl, by rw [hU], by rw [hU]; exact hP, hK.warm hW, hD.weaken (fun _ _ _ _ => trivial)⟩⟩
theorem ds_pV {D : va_G} {cI cL : ClassId} {As : List Value} {w : va_W} {A : Nat → Prop} {s : State} {H : Heap} {b q0 ci : Nat} {q : vw_C} {fs : List Value} (hP : va_P D vwCl w H) (hD : va_D A w) (hK : ds_K D cI cL s) (he : w[q0]? = some (b, .inr (ci, fs))) (hc : vwCl[ci]? = some q) : PreV s H q.1 b (ds_P D cI cL (.ref b :: As) w H.size) As :=
  ⟨ds_P.blind, va_recv hK.1 hP hc he, fun U hU hW => ⟨rfl, by rw [hU], by rw [hU]; exact hP, hK.warm hW, hD.weaken (fun _ _ _ _ => trivial)⟩⟩
theorem ds_pSX {D : va_G} {cI cL : ClassId} {av : List Value} {w ws : va_W} {A : Nat → Prop} {s : State} {H : Heap} {locs : List Loc} (hP : va_P D vwCl w H) (hD : va_D A w) (hK : ds_K D cI cL s) (hZ : ds_Z A s s.heap) (hS : va_S A s.heap H locs) (hF : ∀ q, va_A w H.size q → A q) : PreS s H (ds_PX D cI cL av w H.size) av :=
  ⟨ds_PX.blind, fun U hU hW => ⟨rfl, by rw [hU], by rw [hU]; exact hP, hK.warm hW, hD.weaken (fun _ _ _ _ => trivial), hZ.go hS hF hW hU⟩⟩
theorem ds_pVX {D : va_G} {cI cL : ClassId} {As : List Value} {w : va_W} {A : Nat → Prop} {s : State} {H : Heap} {locs : List Loc} {b q0 ci : Nat} {q : vw_C} {fs : List Value} (hP : va_P D vwCl w H) (hD : va_D A w) (hK : ds_K D cI cL s) (hZ : ds_Z A s s.heap) (hS : va_S A s.heap H locs) (hF : ∀ q, va_A w H.size q → A q) (he : w[q0]? = some (b, .inr (ci, fs))) (hc : vwCl[ci]? = some q) : PreV s H q.1 b (ds_PX D cI cL (.ref b :: As) w H.size) As :=
  ⟨ds_PX.blind, va_recv hK.1 hP hc he, fun U hU hW => ⟨rfl, by rw [hU], by rw [hU]; exact hP, hK.warm hW, hD.weaken (fun _ _ _ _ => trivial), hZ.go hS hF hW hU⟩⟩
/-- a method's end: the world behind it -/
abbrev ds_W {S : Type} (D : va_G) (wo : S → va_W) (A : Nat → Prop) : S → State → Prop := fun u t => va_P D vwCl (wo u) t.heap ∧ va_D A (wo u)
abbrev ds_Qi {S : Type} (D : va_G) (post : Int32 → S → Prop) (wo : S → va_W) (A : Nat → Prop) : Array Value → State → Outcome → State → Prop := va_Qi post (ds_W D wo A) A
abbrev ds_Ql {S : Type} (D : va_G) (post : Int64 → S → Prop) (wo : S → va_W) (A : Nat → Prop) : Array Value → State → Outcome → State → Prop := va_Ql post (ds_W D wo A) A
abbrev ds_Qv {S : Type} (D : va_G) (post : S → Prop) (wo : S → va_W) (A : Nat → Prop) : Array Value → State → Outcome → State → Prop := va_Qv post (ds_W D wo A) A
abbrev ds_Qr {S : Type} (D : va_G) (post : S → Nat → Prop) (wo : S → va_W) (A : Nat → Prop) : Array Value → State → Outcome → State → Prop := va_Qr (fun _ : S => True) (fun u a t => post u a ∧ va_P D vwCl (wo u) t.heap ∧ va_D A (wo u)) A
/-- .. and where it throws: the class of what is thrown, the world as it was -/
abbrev ds_X (D : va_G) (px : String → Prop) (w : va_W) (A : Nat → Prop) : String → State → State → Prop := vx_X (fun _ : Unit => True) (fun E _ t => px E ∧ va_P D vwCl w t.heap) A
section DSE
variable {l : Launch} {y : MethodName} {ws : List Cond} {rm : Room} {cc : ByteArray} {maxL : Nat} {ret : Option FieldType} {D : va_G} {cI cL : ClassId} {av : List Value} {w : va_W} {sz mc ms : Nat}
theorem ds_enter {Qf : (Nat → Prop) → Array Value → State → Outcome → State → Prop} (hy : plainName y.cls = true) (hw : ws = Cond.code y cc maxL ret :: ds_all) (hlen : (lg_sl av).length ≤ maxL)
    (body : ∀ (p : Program) (e : Env) (s : State) (m : MethodId) (args : Array Value) (below : List Frame) (meth : Method) (c : Code), p.tables.exec = Jvm.exec → c.code = cc → c.maxLocals = maxL → meth.sig.returnType = ret →
      (∀ w ∈ ds_all, w.before args s = true) → s.vm.findClass y.cls = some m.cls → meth.locks = false → meth.name = y.name → ∀ (A : Nat → Prop) (H : Heap) (locs : List Loc), (∀ q : Nat, s.heap.size ≤ q → A q) → va_P D vwCl w H → va_D A w → va_S A s.heap H locs → ds_K D cI cL s →
      ∀ ls : Array Slot, lv_has ls maxL (lv_args 0 av) → W p l e rm s m args below meth c H locs 0 0 (MQ below (Qf A) args s mc ms A) (F0 m 0 ls [])) :
    Met l y ws rm (ds_P D cI cL av w sz) (Qf (va_A w sz)) mc ms (va_A w sz) := by
  refine Met.ofW (cc := cc) (maxL := maxL) (ret := ret) hy hw ?_
  intro p e s m args below meth c s₁ B hml hv
  obtain ⟨rfl, hsz, hP, hK, hD0⟩ := hv
  subst hsz
  have hts := atoms_spec (ws := ws) B.pre
  have hl := lv_entry av (n := maxL) hlen
  rw [lg_entry_eq]
  exact body p e s m _ below meth c B.exec B.bytes hml B.returns (fun w h => hts w (by rw [hw]; exact List.mem_cons_of_mem _ h)) (findClass_of_methodNamed B.named) B.notSynchronized (name_of_methodNamed B.named B.method).1 _ s.heap [] (fun q h => Or.inr h) hP hD0.self va_S.rf hK _ hl
theorem ds_enterX {Qf : (Nat → Prop) → Array Value → State → Outcome → State → Prop} {XC : (Nat → Prop) → String → State → State → Prop} (hy : plainName y.cls = true) (hw : ws = Cond.code y cc maxL ret :: ds_all) (hlen : (lg_sl av).length ≤ maxL)
    (body : ∀ (p : Program) (e : Env) (s : State) (m : MethodId) (args : Array Value) (below : List Frame) (meth : Method) (c : Code), p.tables.exec = Jvm.exec → c.code = cc → c.maxLocals = maxL → meth.sig.returnType = ret →
      (∀ w ∈ ds_all, w.before args s = true) → s.vm.findClass y.cls = some m.cls → meth.locks = false → meth.name = y.name → ∀ (A : Nat → Prop) (H : Heap) (locs : List Loc), (∀ q : Nat, s.heap.size ≤ q → A q) → va_P D vwCl w H → va_D A w → va_S A s.heap H locs → ds_K D cI cL s →
      ds_Z A s s.heap → (∀ x ∈ c.exceptionTable.toList, False) →
      ∀ ls : Array Slot, lv_has ls maxL (lv_args 0 av) → W p l e rm s m args below meth c H locs 0 0 (vx_MQ below (Qf A) (XC A) args s mc ms A) (F0 m 0 ls [])) :
    vx_Met l y ws rm (ds_PX D cI cL av w sz) (Qf (va_A w sz)) (XC (va_A w sz)) mc ms (va_A w sz) := by
  refine vx_ofW (cc := cc) (maxL := maxL) (ret := ret) hy hw ?_
  intro p e s m args below meth c s₁ B hml hno hv
  obtain ⟨rfl, hsz, hP, hK, hD0, hZ⟩ := hv
  subst hsz
  have hts := atoms_spec (ws := ws) B.pre
  have hl := lv_entry av (n := maxL) hlen
  rw [lg_entry_eq]
  exact body p e s m _ below meth c B.exec B.bytes hml B.returns (fun w h => hts w (by rw [hw]; exact List.mem_cons_of_mem _ h)) (findClass_of_methodNamed B.named) B.notSynchronized (name_of_methodNamed B.named B.method).1 _ s.heap [] (fun q h => Or.inr h) hP hD0.self va_S.rf hK hZ hno _ hl
theorem ds_enterW {Qf : (Nat → Prop) → Array Value → State → Outcome → State → Prop} {hh : List (Nat × Nat × Nat × Nat)} (hy : plainName y.cls = true) (hw : ws = Cond.codeWith y cc maxL ret hh :: ds_all) (hlen : (lg_sl av).length ≤ maxL)
    (body : ∀ (p : Program) (e : Env) (s : State) (m : MethodId) (args : Array Value) (below : List Frame) (meth : Method) (c : Code), p.tables.exec = Jvm.exec → c.code = cc → c.maxLocals = maxL → meth.sig.returnType = ret →
      (∀ w ∈ ds_all, w.before args s = true) → s.vm.findClass y.cls = some m.cls → meth.locks = false → meth.name = y.name → ∀ (A : Nat → Prop) (H : Heap) (locs : List Loc), (∀ q : Nat, s.heap.size ≤ q → A q) → va_P D vwCl w H → va_D A w → va_S A s.heap H locs → ds_K D cI cL s →
      ds_Z A s s.heap → c.exceptionTable.toList = tableOf hh →
      ∀ ls : Array Slot, lv_has ls maxL (lv_args 0 av) → W p l e rm s m args below meth c H locs 0 0 (MQ below (Qf A) args s mc ms A) (F0 m 0 ls [])) :
    Met l y ws rm (ds_PX D cI cL av w sz) (Qf (va_A w sz)) mc ms (va_A w sz) := by
  refine va_MetW (cc := cc) (maxL := maxL) (ret := ret) (hh := hh) hy hw ?_
  intro p e s m args below meth c s₁ B hml hv
  obtain ⟨rfl, hsz, hP, hK, hD0, hZ⟩ := hv
  subst hsz
  have hts := atoms_spec (ws := ws) B.pre
  have hl := lv_entry av (n := maxL) hlen
  rw [lg_entry_eq]
  exact body p e s m _ below meth c B.exec B.bytes hml B.returns (fun w h => hts w (by rw [hw]; exact List.mem_cons_of_mem _ h)) (findClass_of_methodNamed B.named) B.notSynchronized (name_of_methodNamed B.named B.method).1 _ s.heap [] (fun q h => Or.inr h) hP hD0.self va_S.rf hK hZ (vx_table (x := y) B (hts _ (by rw [hw]; exact List.mem_cons_self))) _ hl
end DSE
section DSR
variable {p : Program} {l : Launch} {e : Env} {R : Room} {s : State} {m : MethodId} {args : Array Value} {below : List Frame} {meth : Method} {c : Code} {H : Heap} {locs : List Loc} {cells slots : Nat} {Q : State → Prop}
variable {cc : ByteArray} {pc : Nat} {ls : Array Slot} {rest st0 : List Value} {D : va_G} {cI cL : ClassId} {A : Nat → Prop} {S : Type} {wo wn : S → va_W} {mc ms : Nat}
-- returns
theorem ds_iret {post : Int32 → S → Prop} {v : Int32} {ty : FieldType} (hexec : p.tables.exec = Jvm.exec) (hb : c.code = cc) (hr : meth.sig.returnType = some ty) (hlk : meth.locks = false) (hn : narrow ty (.int v) = .int v) (u : S) (hp : post v u) (hP : va_P D vwCl (wo u) H) (hD : va_D A (wo u)) (hS : va_S A s.heap H locs) (hc : cells ≤ mc) (hs : slots ≤ ms) (hdg : decode cc pc = .ok (.ireturn, 1)) :
    W p l e R s m args below meth c H locs cells slots (MQ below (ds_Qi D post wo A) args s mc ms A) (F0 m pc ls [.int v]) := by
  refine W.widen hc hs ?_
  exact W.zret hexec hb hr hn (fun t ht hW => ⟨⟨v, u, rfl, hp, by rw [ht]; exact hP, hD⟩, hS.F ht⟩) hS.2.2 hdg hlk
theorem ds_lret {post : Int64 → S → Prop} {v : Int64} (hexec : p.tables.exec = Jvm.exec) (hb : c.code = cc) (hr : meth.sig.returnType = some .long) (hlk : meth.locks = false) (u : S) (hp : post v u) (hP : va_P D vwCl (wo u) H) (hD : va_D A (wo u)) (hS : va_S A s.heap H locs) (hc : cells ≤ mc) (hs : slots ≤ ms) (hdg : decode cc pc = .ok (.lreturn, 1)) :
    W p l e R s m args below meth c H locs cells slots (MQ below (ds_Ql D post wo A) args s mc ms A) (F0 m pc ls [.long v]) := by
  refine W.widen hc hs ?_
  exact W.lret hexec hb hr (fun t ht hW => ⟨⟨v, u, rfl, hp, by rw [ht]; exact hP, hD⟩, hS.F ht⟩) hS.2.2 hdg hlk
theorem ds_vret {post : S → Prop} (hexec : p.tables.exec = Jvm.exec) (hb : c.code = cc) (hr : meth.sig.returnType = none) (hlk : meth.locks = false) (u : S) (hp : post u) (hP : va_P D vwCl (wo u) H) (hD : va_D A (wo u)) (hS : va_S A s.heap H locs) (hc : cells ≤ mc) (hs : slots ≤ ms) (hdg : decode cc pc = .ok (.return_, 1)) :
    W p l e R s m args below meth c H locs cells slots (MQ below (ds_Qv D post wo A) args s mc ms A) (F0 m pc ls []) := by
  refine W.widen hc hs ?_
  exact W.vret hexec hb hr (fun t ht hW => ⟨⟨u, rfl, hp, by rw [ht]; exact hP, hD⟩, hS.F ht⟩) hS.2.2 hdg hlk
theorem ds_aret {post : S → Nat → Prop} {a : Nat} {nm : String} (hexec : p.tables.exec = Jvm.exec) (hb : c.code = cc) (hr : meth.sig.returnType = some (.object nm)) (hlk : meth.locks = false) (u : S) (hp : post u a) (hP : va_P D vwCl (wo u) H) (hD : va_D A (wo u)) (hS : va_S A s.heap H locs) (hc : cells ≤ mc) (hs : slots ≤ ms) (hdg : decode cc pc = .ok (.areturn, 1)) :
    W p l e R s m args below meth c H locs cells slots (MQ below (ds_Qr D post wo A) args s mc ms A) (F0 m pc ls [.ref a]) := by
  refine W.widen hc hs ?_
  exact W.aret hexec hb hr (Or.inl ⟨nm, rfl⟩) (Or.inr ⟨a, rfl⟩) (fun t ht hW => ⟨⟨u, a, rfl, trivial, hp, by rw [ht]; exact hP, hD⟩, hS.F ht⟩) hS.2.2 hdg hlk
end DSR

section DSC
variable {p : Program} {l : Launch} {e : Env} {R : Room} {s : State} {m : MethodId} {args : Array Value} {below : List Frame} {meth : Method} {c : Code} {H : Heap} {locs : List Loc} {cells slots : Nat} {Q : State → Prop}
variable {cc : ByteArray} {pc : Nat} {ls : Array Slot} {rest st0 : List Value} {D : va_G} {cI cL : ClassId} {A : Nat → Prop} {S : Type} {wo wn : S → va_W} {mc ms : Nat} {ws wc wr : va_W} {a : Array Value}

/-- how a call cuts the world: the callee's places, the rest's places -/
def ds_C (ws wc wr : va_W) (isC isR : List Nat) : Prop := isC.map (fun i => ws[i]?) = wc.map some ∧ isR.map (fun i => ws[i]?) = wr.map some ∧ va_nd isC = true ∧ va_nd isR = true ∧ ∀ i ∈ isR, i ∉ isC
theorem ds_after {H1 : Heap} {u : S} {isC isR : List Nat} (hP : va_P D vwCl ws H) (hD : va_D A ws) (hC : ds_C ws wc wr isC isR) (isN : List Nat) (hn2 : va_nd isN = true) (hN : ∀ u, isN.map (fun i => (wr ++ wo u)[i]?) = (wn u).map some)
    (hk : ∀ q : Nat, q < H.size → ¬ va_A wc H.size q → H1[q]? = H[q]?) (hF : ∀ q, va_A wc H.size q → A q) (hP1 : va_P D vwCl (wo u) H1) (hD1 : va_D (va_A wc H.size) (wo u)) : va_P D vwCl (wn u) H1 ∧ va_D A (wn u) := by
  obtain ⟨hP2, hD2⟩ := va_join (wr := wr) hP hD isC isR hC.1 hC.2.1 hC.2.2.2.1 hC.2.2.2.2 hk hF hP1 hD1
  exact ⟨hP2.sub isN (ds_fm _ _ _ (hN u)), hD2.sub isN hn2 (hN u)⟩
theorem ds_same {H1 : Heap} {isC isR : List Nat} (hP : va_P D vwCl ws H) (hD : va_D A ws) (hC : ds_C ws wc wr isC isR) (isB : List Nat) (hB : isB.map (fun i => (wr ++ wc)[i]?) = ws.map some)
    (hk : ∀ q : Nat, q < H.size → ¬ va_A wc H.size q → H1[q]? = H[q]?) (hF : ∀ q, va_A wc H.size q → A q) (hP1 : va_P D vwCl wc H1) : va_P D vwCl ws H1 := by
  obtain ⟨hP2, -⟩ := va_join (wr := wr) hP hD isC isR hC.1 hC.2.1 hC.2.2.2.1 hC.2.2.2.2 hk hF hP1 (hD.sub isC hC.2.2.1 hC.1).self
  exact hP2.sub isB (ds_fm _ _ _ hB)

theorem ds_calli {post : Int32 → S → Prop} {isC isR : List Nat} (hP : va_P D vwCl ws H) (hD : va_D A ws) (hS : va_S A s.heap H locs) (hA : ∀ q : Nat, s.heap.size ≤ q → A q) (hC : ds_C ws wc wr isC isR) (isN : List Nat) (hn2 : va_nd isN = true) (hN : ∀ u, isN.map (fun i => (wr ++ wo u)[i]?) = (wn u).map some)
    (hr : va_P D vwCl wc H → va_D A wc → va_Run p l e R s m args below meth c H locs cells slots mc ms (F0 m pc ls st0) rest (ds_Qi D post wo (va_A wc H.size) a) (va_A wc H.size))
    (kk : ∀ (r : Int32) (u : S) (H1 : Heap) (locs1 : List Loc), post r u → va_P D vwCl (wn u) H1 → va_D A (wn u) → va_S A s.heap H1 locs1 → W p l e R s m args below meth c H1 locs1 (cells + mc) (slots + ms) Q (F0 m (pc + 3) ls (.int r :: rest))) :
    W p l e R s m args below meth c H locs cells slots Q (F0 m pc ls st0) := by
  have hF := va_free (wc := wc) hD hS hA isC hC.1
  refine va_calli (hr (hP.sub isC (ds_fm _ _ _ hC.1)) (hD.sub isC hC.2.2.1 hC.1)) hS (fun q _ h => hF q h) hF (fun r u t H1 locs1 ht hvm hp hB hz hk hS1 => ?_)
  obtain ⟨hP1, hD1⟩ := hB
  rw [ht] at hP1
  obtain ⟨hP2, hD2⟩ := ds_after hP hD hC isN hn2 hN hk hF hP1 hD1
  exact kk r u H1 locs1 hp hP2 hD2 hS1

theorem ds_callXi {post : Int32 → S → Prop} {px : String → Prop} {isC isR : List Nat} (hP : va_P D vwCl ws H) (hD : va_D A ws) (hS : va_S A s.heap H locs) (hA : ∀ q : Nat, s.heap.size ≤ q → A q) (hC : ds_C ws wc wr isC isR) (isN : List Nat) (hn2 : va_nd isN = true) (hN : ∀ u, isN.map (fun i => (wr ++ wo u)[i]?) = (wn u).map some) (isB : List Nat) (hB : isB.map (fun i => (wr ++ wc)[i]?) = ws.map some)
    (hr : va_P D vwCl wc H → va_D A wc → (∀ q, va_A wc H.size q → A q) → vx_Run p l e R s m args below meth c H locs cells slots mc ms (F0 m pc ls st0) rest (ds_Qi D post wo (va_A wc H.size) a) (ds_X D px wc (va_A wc H.size)) (va_A wc H.size))
    (kx : ∀ (E : String) (ce : Cell) (q9 : Addr) (H1 : Heap) (locs1 : List Loc), px E → va_P D vwCl ws H1 → va_S A s.heap H1 locs1 → H1[q9]? = some ce → ce.vm = .none → s.vm.findClass E = some ce.cls → vx_W p l e R s m args below meth c H1 locs1 (cells + mc) (slots + ms) Q (F0 m pc ls rest) q9)
    (kk : ∀ (r : Int32) (u : S) (H1 : Heap) (locs1 : List Loc), post r u → va_P D vwCl (wn u) H1 → va_D A (wn u) → va_S A s.heap H1 locs1 → W p l e R s m args below meth c H1 locs1 (cells + mc) (slots + ms) Q (F0 m (pc + 3) ls (.int r :: rest))) :
    W p l e R s m args below meth c H locs cells slots Q (F0 m pc ls st0) := by
  have hF := va_free (wc := wc) hD hS hA isC hC.1
  refine vx_calli (hr (hP.sub isC (ds_fm _ _ _ hC.1)) (hD.sub isC hC.2.2.1 hC.1) hF) hS (fun q _ h => hF q h) hF (fun q _ h => hF q h) (fun E ce q9 u t H1 locs1 ht hvm hp hB1 hz hk hS1 h9 hn9 hc9 => ?_) (fun r u t H1 locs1 ht hvm hp hB1 hz hk hS1 => ?_)
  · obtain ⟨hpx, hP1⟩ := hB1
    rw [ht] at hP1
    exact kx E ce q9 H1 locs1 hpx (ds_same hP hD hC isB hB hk hF hP1) hS1 h9 hn9 hc9
  · obtain ⟨hP1, hD1⟩ := hB1
    rw [ht] at hP1
    obtain ⟨hP2, hD2⟩ := ds_after hP hD hC isN hn2 hN hk hF hP1 hD1
    exact kk r u H1 locs1 hp hP2 hD2 hS1

theorem ds_calll {post : Int64 → S → Prop} {isC isR : List Nat} (hP : va_P D vwCl ws H) (hD : va_D A ws) (hS : va_S A s.heap H locs) (hA : ∀ q : Nat, s.heap.size ≤ q → A q) (hC : ds_C ws wc wr isC isR) (isN : List Nat) (hn2 : va_nd isN = true) (hN : ∀ u, isN.map (fun i => (wr ++ wo u)[i]?) = (wn u).map some)
    (hr : va_P D vwCl wc H → va_D A wc → va_Run p l e R s m args below meth c H locs cells slots mc ms (F0 m pc ls st0) rest (ds_Ql D post wo (va_A wc H.size) a) (va_A wc H.size))
    (kk : ∀ (r : Int64) (u : S) (H1 : Heap) (locs1 : List Loc), post r u → va_P D vwCl (wn u) H1 → va_D A (wn u) → va_S A s.heap H1 locs1 → W p l e R s m args below meth c H1 locs1 (cells + mc) (slots + ms) Q (F0 m (pc + 3) ls (.long r :: rest))) :
    W p l e R s m args below meth c H locs cells slots Q (F0 m pc ls st0) := by
  have hF := va_free (wc := wc) hD hS hA isC hC.1
  refine va_calll (hr (hP.sub isC (ds_fm _ _ _ hC.1)) (hD.sub isC hC.2.2.1 hC.1)) hS (fun q _ h => hF q h) hF (fun r u t H1 locs1 ht hvm hp hB hz hk hS1 => ?_)
  obtain ⟨hP1, hD1⟩ := hB
  rw [ht] at hP1
  obtain ⟨hP2, hD2⟩ := ds_after hP hD hC isN hn2 hN hk hF hP1 hD1
  exact kk r u H1 locs1 hp hP2 hD2 hS1

theorem ds_callXl {post : Int64 → S → Prop} {px : String → Prop} {isC isR : List Nat} (hP : va_P D vwCl ws H) (hD : va_D A ws) (hS : va_S A s.heap H locs) (hA : ∀ q : Nat, s.heap.size ≤ q → A q) (hC : ds_C ws wc wr isC isR) (isN : List Nat) (hn2 : va_nd isN = true) (hN : ∀ u, isN.map (fun i => (wr ++ wo u)[i]?) = (wn u).map some) (isB : List Nat) (hB : isB.map (fun i => (wr ++ wc)[i]?) = ws.map some)
    (hr : va_P D vwCl wc H → va_D A wc → (∀ q, va_A wc H.size q → A q) → vx_Run p l e R s m args below meth c H locs cells slots mc ms (F0 m pc ls st0) rest (ds_Ql D post wo (va_A wc H.size) a) (ds_X D px wc (va_A wc H.size)) (va_A wc H.size))
    (kx : ∀ (E : String) (ce : Cell) (q9 : Addr) (H1 : Heap) (locs1 : List Loc), px E → va_P D vwCl ws H1 → va_S A s.heap H1 locs1 → H1[q9]? = some ce → ce.vm = .none → s.vm.findClass E = some ce.cls → vx_W p l e R s m args below meth c H1 locs1 (cells + mc) (slots + ms) Q (F0 m pc ls rest) q9)
    (kk : ∀ (r : Int64) (u : S) (H1 : Heap) (locs1 : List Loc), post r u → va_P D vwCl (wn u) H1 → va_D A (wn u) → va_S A s.heap H1 locs1 → W p l e R s m args below meth c H1 locs1 (cells + mc) (slots + ms) Q (F0 m (pc + 3) ls (.long r :: rest))) :
    W p l e R s m args below meth c H locs cells slots Q (F0 m pc ls st0) := by
  have hF := va_free (wc := wc) hD hS hA isC hC.1
  refine vx_calll (hr (hP.sub isC (ds_fm _ _ _ hC.1)) (hD.sub isC hC.2.2.1 hC.1) hF) hS (fun q _ h => hF q h) hF (fun q _ h => hF q h) (fun E ce q9 u t H1 locs1 ht hvm hp hB1 hz hk hS1 h9 hn9 hc9 => ?_) (fun r u t H1 locs1 ht hvm hp hB1 hz hk hS1 => ?_)
  · obtain ⟨hpx, hP1⟩ := hB1
    rw [ht] at hP1
    exact kx E ce q9 H1 locs1 hpx (ds_same hP hD hC isB hB hk hF hP1) hS1 h9 hn9 hc9
  · obtain ⟨hP1, hD1⟩ := hB1
    rw [ht] at hP1
    obtain ⟨hP2, hD2⟩ := ds_after hP hD hC isN hn2 hN hk hF hP1 hD1
    exact kk r u H1 locs1 hp hP2 hD2 hS1

theorem ds_callv {post : S → Prop} {isC isR : List Nat} (hP : va_P D vwCl ws H) (hD : va_D A ws) (hS : va_S A s.heap H locs) (hA : ∀ q : Nat, s.heap.size ≤ q → A q) (hC : ds_C ws wc wr isC isR) (isN : List Nat) (hn2 : va_nd isN = true) (hN : ∀ u, isN.map (fun i => (wr ++ wo u)[i]?) = (wn u).map some)
    (hr : va_P D vwCl wc H → va_D A wc → va_Run p l e R s m args below meth c H locs cells slots mc ms (F0 m pc ls st0) rest (ds_Qv D post wo (va_A wc H.size) a) (va_A wc H.size))
    (kk : ∀ (u : S) (H1 : Heap) (locs1 : List Loc), post u → va_P D vwCl (wn u) H1 → va_D A (wn u) → va_S A s.heap H1 locs1 → W p l e R s m args below meth c H1 locs1 (cells + mc) (slots + ms) Q (F0 m (pc + 3) ls (rest))) :
    W p l e R s m args below meth c H locs cells slots Q (F0 m pc ls st0) := by
  have hF := va_free (wc := wc) hD hS hA isC hC.1
  refine va_callv (hr (hP.sub isC (ds_fm _ _ _ hC.1)) (hD.sub isC hC.2.2.1 hC.1)) hS (fun q _ h => hF q h) hF (fun u t H1 locs1 ht hvm hp hB hz hk hS1 => ?_)
  obtain ⟨hP1, hD1⟩ := hB
  rw [ht] at hP1
  obtain ⟨hP2, hD2⟩ := ds_after hP hD hC isN hn2 hN hk hF hP1 hD1
  exact kk u H1 locs1 hp hP2 hD2 hS1

theorem ds_callXv {post : S → Prop} {px : String → Prop} {isC isR : List Nat} (hP : va_P D vwCl ws H) (hD : va_D A ws) (hS : va_S A s.heap H locs) (hA : ∀ q : Nat, s.heap.size ≤ q → A q) (hC : ds_C ws wc wr isC isR) (isN : List Nat) (hn2 : va_nd isN = true) (hN : ∀ u, isN.map (fun i => (wr ++ wo u)[i]?) = (wn u).map some) (isB : List Nat) (hB : isB.map (fun i => (wr ++ wc)[i]?) = ws.map some)
    (hr : va_P D vwCl wc H → va_D A wc → (∀ q, va_A wc H.size q → A q) → vx_Run p l e R s m args below meth c H locs cells slots mc ms (F0 m pc ls st0) rest (ds_Qv D post wo (va_A wc H.size) a) (ds_X D px wc (va_A wc H.size)) (va_A wc H.size))
    (kx : ∀ (E : String) (ce : Cell) (q9 : Addr) (H1 : Heap) (locs1 : List Loc), px E → va_P D vwCl ws H1 → va_S A s.heap H1 locs1 → H1[q9]? = some ce → ce.vm = .none → s.vm.findClass E = some ce.cls → vx_W p l e R s m args below meth c H1 locs1 (cells + mc) (slots + ms) Q (F0 m pc ls rest) q9)
    (kk : ∀ (u : S) (H1 : Heap) (locs1 : List Loc), post u → va_P D vwCl (wn u) H1 → va_D A (wn u) → va_S A s.heap H1 locs1 → W p l e R s m args below meth c H1 locs1 (cells + mc) (slots + ms) Q (F0 m (pc + 3) ls (rest))) :
    W p l e R s m args below meth c H locs cells slots Q (F0 m pc ls st0) := by
  have hF := va_free (wc := wc) hD hS hA isC hC.1
  refine vx_callv (hr (hP.sub isC (ds_fm _ _ _ hC.1)) (hD.sub isC hC.2.2.1 hC.1) hF) hS (fun q _ h => hF q h) hF (fun q _ h => hF q h) (fun E ce q9 u t H1 locs1 ht hvm hp hB1 hz hk hS1 h9 hn9 hc9 => ?_) (fun u t H1 locs1 ht hvm hp hB1 hz hk hS1 => ?_)
  · obtain ⟨hpx, hP1⟩ := hB1
    rw [ht] at hP1
    exact kx E ce q9 H1 locs1 hpx (ds_same hP hD hC isB hB hk hF hP1) hS1 h9 hn9 hc9
  · obtain ⟨hP1, hD1⟩ := hB1
    rw [ht] at hP1
    obtain ⟨hP2, hD2⟩ := ds_after hP hD hC isN hn2 hN hk hF hP1 hD1
    exact kk u H1 locs1 hp hP2 hD2 hS1

theorem ds_callr {post : S → Nat → Prop} {isC isR : List Nat} (hP : va_P D vwCl ws H) (hD : va_D A ws) (hS : va_S A s.heap H locs) (hA : ∀ q : Nat, s.heap.size ≤ q → A q) (hC : ds_C ws wc wr isC isR) (isN : List Nat) (hn2 : va_nd isN = true) (hN : ∀ u, isN.map (fun i => (wr ++ wo u)[i]?) = (wn u).map some)
    (hr : va_P D vwCl wc H → va_D A wc → va_Run p l e R s m args below meth c H locs cells slots mc ms (F0 m pc ls st0) rest (ds_Qr D post wo (va_A wc H.size) a) (va_A wc H.size))
    (kk : ∀ (r : Nat) (u : S) (H1 : Heap) (locs1 : List Loc), post u r → va_P D vwCl (wn u) H1 → va_D A (wn u) → va_S A s.heap H1 locs1 → W p l e R s m args below meth c H1 locs1 (cells + mc) (slots + ms) Q (F0 m (pc + 3) ls (.ref r :: rest))) :
    W p l e R s m args below meth c H locs cells slots Q (F0 m pc ls st0) := by
  have hF := va_free (wc := wc) hD hS hA isC hC.1
  refine va_callr (hr (hP.sub isC (ds_fm _ _ _ hC.1)) (hD.sub isC hC.2.2.1 hC.1)) hS (fun q _ h => hF q h) hF (fun u r t H1 locs1 ht hvm _ hB hz hk hS1 => ?_)
  obtain ⟨hp, hP1, hD1⟩ := hB
  rw [ht] at hP1
  obtain ⟨hP2, hD2⟩ := ds_after hP hD hC isN hn2 hN hk hF hP1 hD1
  exact kk r u H1 locs1 hp hP2 hD2 hS1
/-- what a call threw leaves this method too -/
theorem ds_out {Qc : Array Value → State → Outcome → State → Prop} {px : String → Prop} {E : String} {ce : Cell} {q9 : Addr} (hno : ∀ x ∈ c.exceptionTable.toList, False) (hlk : meth.locks = false) (hpx : px E) (hP : va_P D vwCl ws H) (hS : va_S A s.heap H locs) (h9 : H[q9]? = some ce) (hn9 : ce.vm = .none) (hc9 : s.vm.findClass E = some ce.cls) (hc : cells ≤ mc) (hs : slots ≤ ms) :
    vx_W p l e R s m args below meth c H locs cells slots (vx_MQ below Qc (ds_X D px ws A) args s mc ms A) (F0 m pc ls rest) q9 :=
  vx_out (fun x h => (hno x h).elim) hlk h9 hn9 hc9 (fun t ht _ => ⟨(), trivial, ⟨hpx, by rw [ht]; exact hP⟩, hS.F ht⟩) hS.2.2 hc hs
-- arrays, at places that are naturals
variable {b n k : Nat} {f : Nat → Int32} {fl : Nat → Int64}
theorem ds_iald (hexec : p.tables.exec = Jvm.exec) (hb : c.code = cc) (hK : ds_K D cI cL s) (hP : va_P D vwCl ws H) (q0 : Nat) (ha : ws[q0]? = some (b, .inl (cI, n, .inl f))) (hk : k < n) (hn : n < 2 ^ 31) (hdg : decode cc pc = .ok (.iaload, 1))
    (kk : W p l e R s m args below meth c H locs cells slots Q (F0 m (pc + 1) ls (.int (f k) :: rest))) : W p l e R s m args below meth c H locs cells slots Q (F0 m pc ls (.int (nI k) :: .ref b :: rest)) := by
  refine va_iald hexec hb hK.1 hP q0 0 ha rfl (vp_in_nI hk hn) hdg ?_
  rw [nI_clamp (by omega)]
  exact kk
theorem ds_lald (hexec : p.tables.exec = Jvm.exec) (hb : c.code = cc) (hK : ds_K D cI cL s) (hP : va_P D vwCl ws H) (q0 : Nat) (ha : ws[q0]? = some (b, .inl (cL, n, .inr (.inl fl)))) (hk : k < n) (hn : n < 2 ^ 31) (hdg : decode cc pc = .ok (.laload, 1))
    (kk : W p l e R s m args below meth c H locs cells slots Q (F0 m (pc + 1) ls (.long (fl k) :: rest))) : W p l e R s m args below meth c H locs cells slots Q (F0 m pc ls (.int (nI k) :: .ref b :: rest)) := by
  refine va_lald hexec hb hK.1 hP q0 1 ha rfl (vp_in_nI hk hn) hdg ?_
  rw [nI_clamp (by omega)]
  exact kk
theorem ds_iast {x : Int32} (hexec : p.tables.exec = Jvm.exec) (hb : c.code = cc) (hK : ds_K D cI cL s) (hP : va_P D vwCl ws H) (hD : va_D A ws) (hS : va_S A s.heap H locs) (q0 : Nat) (ha : ws[q0]? = some (b, .inl (cI, n, .inl f))) (hk : k < n) (hn : n < 2 ^ 31) (hdg : decode cc pc = .ok (.iastore, 1))
    (kk : ∀ (H1 : Heap) (locs1 : List Loc), va_P D vwCl (ws.set q0 (b, .inl (cI, n, .inl (upd f k x)))) H1 → va_D A (ws.set q0 (b, .inl (cI, n, .inl (upd f k x)))) → va_S A s.heap H1 locs1 → W p l e R s m args below meth c H1 locs1 cells slots Q (F0 m (pc + 1) ls rest)) : W p l e R s m args below meth c H locs cells slots Q (F0 m pc ls (.int x :: .int (nI k) :: .ref b :: rest)) := by
  refine va_iast hexec hb hK.1 hP hD hS q0 0 ha rfl (vp_in_nI hk hn) hdg (fun H1 locs1 h1 h2 h3 => ?_)
  rw [nI_clamp (by omega)] at h1 h2
  exact kk H1 locs1 h1 h2 h3
theorem ds_last {x : Int64} (hexec : p.tables.exec = Jvm.exec) (hb : c.code = cc) (hK : ds_K D cI cL s) (hP : va_P D vwCl ws H) (hD : va_D A ws) (hS : va_S A s.heap H locs) (q0 : Nat) (ha : ws[q0]? = some (b, .inl (cL, n, .inr (.inl fl)))) (hk : k < n) (hn : n < 2 ^ 31) (hdg : decode cc pc = .ok (.lastore, 1))
    (kk : ∀ (H1 : Heap) (locs1 : List Loc), va_P D vwCl (ws.set q0 (b, .inl (cL, n, .inr (.inl (vp_updL fl k x))))) H1 → va_D A (ws.set q0 (b, .inl (cL, n, .inr (.inl (vp_updL fl k x))))) → va_S A s.heap H1 locs1 → W p l e R s m args below meth c H1 locs1 cells slots Q (F0 m (pc + 1) ls rest)) : W p l e R s m args below meth c H locs cells slots Q (F0 m pc ls (.long x :: .int (nI k) :: .ref b :: rest)) := by
  refine va_last hexec hb hK.1 hP hD hS q0 1 ha rfl (vp_in_nI hk hn) hdg (fun H1 locs1 h1 h2 h3 => ?_)
  rw [nI_clamp (by omega)] at h1 h2
  exact kk H1 locs1 h1 h2 h3
/-- the number on top, said otherwise -/
theorem ds_top {x z : Int32} (h : x = z) (kk : W p l e R s m args below meth c H locs cells slots Q (F0 m pc ls (.int z :: rest))) : W p l e R s m args below meth c H locs cells slots Q (F0 m pc ls (.int x :: rest)) := h ▸ kk
theorem ds_topl {x z : Int64} (h : x = z) (kk : W p l e R s m args below meth c H locs cells slots Q (F0 m pc ls (.long z :: rest))) : W p l e R s m args below meth c H locs cells slots Q (F0 m pc ls (.long x :: rest)) := h ▸ kk
end DSC

theorem ds_otI (ik : Nat) : ∀ w ∈ Cond.classLink RX4 ik "java/lang/IllegalArgumentException" :: Cond.initialized "java/lang/IllegalArgumentException" :: vx_atS RX4 60 "java/lang/IllegalArgumentException" ["java/lang/RuntimeException", "java/lang/Exception"], vx_ot w = true := by
  have h : ∀ w ∈ Cond.initialized "java/lang/IllegalArgumentException" :: vx_atS RX4 60 "java/lang/IllegalArgumentException" ["java/lang/RuntimeException", "java/lang/Exception"], vx_ot w = true := by decide +kernel
  intro w hw
  rcases List.mem_cons.mp hw with rfl | hw
  · rfl
  · exact h w hw
theorem ds_otO (ik : Nat) : ∀ w ∈ Cond.classLink RX4 ik "java/lang/IndexOutOfBoundsException" :: Cond.initialized "java/lang/IndexOutOfBoundsException" :: vx_atS RX4 115 "java/lang/IndexOutOfBoundsException" ["java/lang/RuntimeException", "java/lang/Exception"], vx_ot w = true := by
  have h : ∀ w ∈ Cond.initialized "java/lang/IndexOutOfBoundsException" :: vx_atS RX4 115 "java/lang/IndexOutOfBoundsException" ["java/lang/RuntimeException", "java/lang/Exception"], vx_ot w = true := by decide +kernel
  intro w hw
  rcases List.mem_cons.mp hw with rfl | hw
  · rfl
  · exact h w hw
theorem ds_cI {D : va_G} {cI cL cA : ClassId} {s : State} (h : va_K D vwCl ([(cI, .int), (cL, .long)] ++ [(cA, .int)]) s) : cA = cI := by
  have h1 : s.vm.findClass ("[" ++ FieldType.int.toString) = some cA := (h.2 2 (cA, .int) rfl).2
  have h2 : s.vm.findClass ("[" ++ FieldType.int.toString) = some cI := (h.2 0 (cI, .int) rfl).2
  exact Option.some.inj (h1.symm.trans h2)
theorem ds_cL {D : va_G} {cI cL cA : ClassId} {s : State} (h : va_K D vwCl ([(cI, .int), (cL, .long)] ++ [(cA, .long)]) s) : cA = cL := by
  have h1 : s.vm.findClass ("[" ++ FieldType.long.toString) = some cA := (h.2 2 (cA, .long) rfl).2
  have h2 : s.vm.findClass ("[" ++ FieldType.long.toString) = some cL := (h.2 1 (cL, .long) rfl).2
  exact Option.some.inj (h1.symm.trans h2)
section DST
variable {p : Program} {l : Launch} {e : Env} {R : Room} {s : State} {m : MethodId} {args : Array Value} {below : List Frame} {meth : Method} {c : Code} {H : Heap} {locs : List Loc} {cells slots : Nat} {Q : State → Prop}
variable {cc : ByteArray} {pc : Nat} {ls : Array Slot} {rest st0 : List Value} {D : va_G} {cI cL : ClassId} {A : Nat → Prop} {mc ms : Nat} {ws : va_W}
theorem ds_copyi {own : String} {index : Nat} (sp dp n : Nat) {a a0 n0 n1 : Nat} {f g : Nat → Int32} (hexec : p.tables.exec = Jvm.exec) (hb : c.code = cc) (hml : c.maxLocals = ls.size) (hown : s.vm.findClass own = some m.cls) (hlink : (Cond.methodLink own index arraycopyName).before args s = true) (hnat : (Cond.native arraycopyName).before args s = true) (hstat : (Cond.static arraycopyName).before args s = true) (hini : (Cond.initialized "java/lang/System").before args s = true)
    (hK : ds_K D cI cL s) (hP : va_P D vwCl ws H) (hD : va_D A ws) (hS : va_S A s.heap H locs) (q0 q1 : Nat) (ha0 : ws[q0]? = some (a0, .inl (cI, n0, .inl f))) (ha1 : ws[q1]? = some (a, .inl (cI, n1, .inl g))) (h4 : sp + n ≤ n0) (h5 : dp + n ≤ n1) (hbig : n0 < 2 ^ 31 ∧ n1 < 2 ^ 31)
    (hframes : 1 ≤ R.frames) (hlocals : (rest.map fun v => v.category).sum + 18 ≤ R.locals) (hdg : decode cc pc = .ok (.invokestatic index, 3))
    (kk : ∀ (H1 : Heap) (locs1 : List Loc), va_P D vwCl (ws.set q1 (a, .inl (cI, n1, .inl (va_cpy f g sp dp n)))) H1 → va_D A (ws.set q1 (a, .inl (cI, n1, .inl (va_cpy f g sp dp n)))) → va_S A s.heap H1 locs1 → W p l e R s m args below meth c H1 locs1 cells slots Q (F0 m (pc + 3) ls rest)) : W p l e R s m args below meth c H locs cells slots Q (F0 m pc ls (.int (nI n) :: .int (nI dp) :: .ref a :: .int (nI sp) :: .ref a0 :: rest)) := by
  have e1 : (nI sp).toNatClampNeg = sp := nI_clamp (by omega)
  have e2 : (nI dp).toNatClampNeg = dp := nI_clamp (by omega)
  have e3 : (nI n).toNatClampNeg = n := nI_clamp (by omega)
  have z : ∀ k : Nat, k < 2 ^ 31 → ¬ nI k < 0 := fun k hk h => by rw [← nI_0] at h; exact Nat.not_lt_zero _ ((nI_ltI hk (by omega)).mp h)
  refine va_copyi hexec hb hml hown hlink hnat hstat hini hK.1 hP hD hS q0 q1 0 0 ha0 ha1 rfl rfl rfl (z sp (by omega)) (z dp (by omega)) (z n (by omega)) (by rw [e1, e3]; exact h4) (by rw [e2, e3]; exact h5) (fun _ _ => rfl) hframes hlocals hdg (fun H1 locs1 h1 h2 h3 => ?_)
  rw [e1, e2, e3] at h1 h2
  exact kk H1 locs1 h1 h2 h3
theorem ds_throwI {Qc : Array Value → State → Outcome → State → Prop} {px : String → Prop} {ik is : Nat} {text : String} (hexec : p.tables.exec = Jvm.exec) (hb : c.code = cc) (hl : l.stackTraces = false) (hown : s.vm.findClass RX4 = some m.cls) (hk : (Cond.classLink RX4 ik "java/lang/IllegalArgumentException").before args s = true) (hini : (Cond.initialized "java/lang/IllegalArgumentException").before args s = true)
    (ht : ∀ w ∈ ds_all, w.before args s = true) (hK : ds_K D cI cL s) (htx : (is, text) ∈ ds_tx) (hZ : ds_Z A s s.heap) (hP : va_P D vwCl ws H) (hS : va_S A s.heap H locs) (hsize : ls.size = c.maxLocals)
    (d0 : decode cc pc = .ok (.new ik, 3)) (d3 : decode cc (pc + 3) = .ok (.dup, 1)) (d4 : decode cc (pc + 4) = .ok (.ldc is, 2)) (d6 : decode cc (pc + 6) = .ok (.invokespecial 60, 3)) (d9 : decode cc (pc + 9) = .ok (.athrow, 1))
    (hno : ∀ x ∈ c.exceptionTable.toList, False) (hlocks : meth.locks = false) (hRframes : 5 < R.frames) (hRlocals : (rest.map fun v => v.category).sum + 82 ≤ R.locals) (hRcells : cells + 1 ≤ R.cells) (hRslots : slots + 6 ≤ R.slots) (hc : cells + 1 ≤ mc) (hs : slots + 6 ≤ ms) (hpx : px "java/lang/IllegalArgumentException") :
    W p l e R s m args below meth c H locs cells slots (vx_MQ below Qc (ds_X D px ws A) args s mc ms A) (F0 m pc ls rest) := by
  obtain ⟨sa, hstr⟩ := hK.2.2.2.2.1 _ htx
  refine vx_throwS (own := RX4) (cls := "java/lang/IllegalArgumentException") (names := ["java/lang/RuntimeException", "java/lang/Exception"]) (ic := 60) (A := A) hexec hb hl hown (by decide +kernel) (by decide +kernel) hk hini hstr
    (vx_hat (B := .castable "java/lang/IllegalArgumentException" "java/lang/IllegalArgumentException" :: ds_nD.map Cond.declares) (fun w h => ht w (inA_xI w h)) (by decide +kernel) (fun w h => ?_)) (ds_otI ik) hZ.1 hZ.2 hS hsize d0 d3 d4 d6 d9 (fun x h => (hno x h).elim) hRframes hRlocals hRcells hRslots hlocks ?_ hS.2.2 hc hs
  · rcases List.mem_cons.mp h with rfl | h
    rotate_left
    · obtain ⟨y9, hy9, rfl⟩ := List.mem_map.mp h
      exact va_Nw.use rfl (hK.2.2.2.2.2.2 y9 hy9)
    exact va_Nw.use rfl (hK.2.2.2.1 ("java/lang/IllegalArgumentException", "java/lang/IllegalArgumentException") (List.mem_cons_self))
  · intro t _ h1 h2
    refine ⟨(), trivial, ⟨hpx, hP.kept (fun k q hq => h2 q.1 (hP k q hq).lt)⟩, ?_⟩
    exact ⟨Nat.le_trans hS.1 h1, fun q hq hn => (h2 q (Nat.lt_of_lt_of_le hq hS.1)).trans (hS.2.1 q hq hn)⟩
theorem ds_throwO {Qc : Array Value → State → Outcome → State → Prop} {px : String → Prop} {ik is : Nat} {text : String} (hexec : p.tables.exec = Jvm.exec) (hb : c.code = cc) (hl : l.stackTraces = false) (hown : s.vm.findClass RX4 = some m.cls) (hk : (Cond.classLink RX4 ik "java/lang/IndexOutOfBoundsException").before args s = true) (hini : (Cond.initialized "java/lang/IndexOutOfBoundsException").before args s = true)
    (ht : ∀ w ∈ ds_all, w.before args s = true) (hK : ds_K D cI cL s) (htx : (is, text) ∈ ds_tx) (hZ : ds_Z A s s.heap) (hP : va_P D vwCl ws H) (hS : va_S A s.heap H locs) (hsize : ls.size = c.maxLocals)
    (d0 : decode cc pc = .ok (.new ik, 3)) (d3 : decode cc (pc + 3) = .ok (.dup, 1)) (d4 : decode cc (pc + 4) = .ok (.ldc is, 2)) (d6 : decode cc (pc + 6) = .ok (.invokespecial 115, 3)) (d9 : decode cc (pc + 9) = .ok (.athrow, 1))
    (hno : ∀ x ∈ c.exceptionTable.toList, False) (hlocks : meth.locks = false) (hRframes : 5 < R.frames) (hRlocals : (rest.map fun v => v.category).sum + 82 ≤ R.locals) (hRcells : cells + 1 ≤ R.cells) (hRslots : slots + 6 ≤ R.slots) (hc : cells + 1 ≤ mc) (hs : slots + 6 ≤ ms) (hpx : px "java/lang/IndexOutOfBoundsException") :
    W p l e R s m args below meth c H locs cells slots (vx_MQ below Qc (ds_X D px ws A) args s mc ms A) (F0 m pc ls rest) := by
  obtain ⟨sa, hstr⟩ := hK.2.2.2.2.1 _ htx
  refine vx_throwS (own := RX4) (cls := "java/lang/IndexOutOfBoundsException") (names := ["java/lang/RuntimeException", "java/lang/Exception"]) (ic := 115) (A := A) hexec hb hl hown (by decide +kernel) (by decide +kernel) hk hini hstr
    (vx_hat (B := .castable "java/lang/IndexOutOfBoundsException" "java/lang/IndexOutOfBoundsException" :: ds_nD.map Cond.declares) (fun w h => ht w (inA_xO w h)) (by decide +kernel) (fun w h => ?_)) (ds_otO ik) hZ.1 hZ.2 hS hsize d0 d3 d4 d6 d9 (fun x h => (hno x h).elim) hRframes hRlocals hRcells hRslots hlocks ?_ hS.2.2 hc hs
  · rcases List.mem_cons.mp h with rfl | h
    rotate_left
    · obtain ⟨y9, hy9, rfl⟩ := List.mem_map.mp h
      exact va_Nw.use rfl (hK.2.2.2.2.2.2 y9 hy9)
    exact va_Nw.use rfl (hK.2.2.2.1 ("java/lang/IndexOutOfBoundsException", "java/lang/IndexOutOfBoundsException") (List.mem_cons_of_mem _ List.mem_cons_self))
  · intro t _ h1 h2
    refine ⟨(), trivial, ⟨hpx, hP.kept (fun k q hq => h2 q.1 (hP k q hq).lt)⟩, ?_⟩
    exact ⟨Nat.le_trans hS.1 h1, fun q hq hn => (h2 q (Nat.lt_of_lt_of_le hq hS.1)).trans (hS.2.1 q hq hn)⟩
end DST
end
section
/-! ===== the sums of the document, as numbers of 32 and 64 bits ===== -/
/-- the sum of n octets from p on -/
def su_A (f : Nat → Int32) (p : Nat) : Nat → Int32
  | 0 => 0
  | n + 1 => su_A f p n + f (p + n)
/-- .. each as often as octets stand from it to the end -/
def su_B (f : Nat → Int32) (p : Nat) : Nat → Int32
  | 0 => 0
  | n + 1 => su_B f p n + su_A f p (n + 1)
/-- WEAK out of both -/
def su_J (a b : Int32) : Int32 := (a &&& 65535) + 65536 * (b &&& 65535)
def su_W (f : Nat → Int32) (p n : Nat) : Int32 := su_J (su_A f p n) (su_B f p n)
/-- STRONG -/
def su_S (f : Nat → Int32) (p : Nat) : Nat → Int64
  | 0 => -3750763034362895579
  | n + 1 => (su_S f p n ^^^ (f (p + n)).toInt64) * 1099511628211
/-- the sum with weights that count down from n, over the first k -/
def su_C (f : Nat → Int32) (p n : Nat) : Nat → Int32
  | 0 => 0
  | k + 1 => su_C f p n k + nI (n - k) * f (p + k)
theorem su_C_B (f : Nat → Int32) (p n : Nat) : ∀ k, k ≤ n → su_C f p n k = su_B f p k + nI (n - k) * su_A f p k
  | 0, _ => by
    show (0 : Int32) = 0 + nI (n - 0) * 0
    grind
  | k + 1, h => by
    have ih := su_C_B f p n k (by omega)
    have e1 : nI (n - k) = nI (n - (k + 1)) + 1 := by rw [show n - k = (n - (k + 1)) + 1 by omega, nI_succ]
    show su_C f p n k + nI (n - k) * f (p + k) = su_B f p k + su_A f p (k + 1) + nI (n - (k + 1)) * su_A f p (k + 1)
    rw [ih, e1]
    show _ = su_B f p k + (su_A f p k + f (p + k)) + nI (n - (k + 1)) * (su_A f p k + f (p + k))
    grind
theorem su_C_n (f : Nat → Int32) (p n : Nat) : su_C f p n n = su_B f p n := by
  rw [su_C_B f p n n (Nat.le_refl n), Nat.sub_self]
  show su_B f p n + nI 0 * su_A f p n = su_B f p n
  rw [nI_0]
  grind
/-- a window that goes on by one -/
theorem su_A_roll (f : Nat → Int32) (p : Nat) : ∀ n, su_A f (p + 1) n = su_A f p n + (f (p + n) - f p)
  | 0 => by
    show (0 : Int32) = 0 + (f (p + 0) - f p)
    rw [Nat.add_zero]
    grind
  | n + 1 => by
    show su_A f (p + 1) n + f (p + 1 + n) = su_A f p n + f (p + n) + (f (p + (n + 1)) - f p)
    rw [su_A_roll f p n, show p + 1 + n = p + (n + 1) by omega]
    grind
theorem su_B_roll (f : Nat → Int32) (p : Nat) : ∀ n, su_B f (p + 1) n = su_B f p n + (su_A f (p + 1) n - nI n * f p)
  | 0 => by
    show (0 : Int32) = 0 + (0 - nI 0 * f p)
    rw [nI_0]
    grind
  | n + 1 => by
    show su_B f (p + 1) n + su_A f (p + 1) (n + 1) = su_B f p n + su_A f p (n + 1) + (su_A f (p + 1) (n + 1) - nI (n + 1) * f p)
    have h1 := su_A_roll f p n
    have h2 := su_A_roll f p (n + 1)
    have h3 : su_A f p (n + 1) = su_A f p n + f (p + n) := rfl
    rw [su_B_roll f p n, nI_succ]
    grind
theorem su_A_congr {f g : Nat → Int32} (p : Nat) : ∀ n, (∀ j, j < n → f (p + j) = g (p + j)) → su_A f p n = su_A g p n
  | 0, _ => rfl
  | n + 1, h => by
    show su_A f p n + f (p + n) = su_A g p n + g (p + n)
    rw [su_A_congr p n (fun j hj => h j (by omega)), h n (by omega)]
theorem su_B_congr {f g : Nat → Int32} (p : Nat) : ∀ n, (∀ j, j < n → f (p + j) = g (p + j)) → su_B f p n = su_B g p n
  | 0, _ => rfl
  | n + 1, h => by
    show su_B f p n + su_A f p (n + 1) = su_B g p n + su_A g p (n + 1)
    rw [su_B_congr p n (fun j hj => h j (by omega)), su_A_congr p (n + 1) h]
theorem su_S_congr {f g : Nat → Int32} (p : Nat) : ∀ n, (∀ j, j < n → f (p + j) = g (p + j)) → su_S f p n = su_S g p n
  | 0, _ => rfl
  | n + 1, h => by
    show (su_S f p n ^^^ (f (p + n)).toInt64) * 1099511628211 = (su_S g p n ^^^ (g (p + n)).toInt64) * 1099511628211
    rw [su_S_congr p n (fun j hj => h j (by omega)), h n (by omega)]

def rz (f : Nat → Int32) (n k : Nat) : Nat → Int32 := fun j => if n ≤ j ∧ j < k then 0 else f j
theorem rz_0 {f : Nat → Int32} {n : Nat} : rz f n n = f := by
  funext j
  show (if n ≤ j ∧ j < n then 0 else f j) = f j
  rw [if_neg (by omega)]
theorem rz_s {f : Nat → Int32} {n i : Nat} (h : n ≤ i) : rz f n (i + 1) = upd (rz f n i) i (nI 0) := by
  funext j
  show (if n ≤ j ∧ j < i + 1 then 0 else f j) = if j = i then nI 0 else (if n ≤ j ∧ j < i then 0 else f j)
  by_cases e : j = i
  · rw [if_pos (by omega), if_pos e, nI_0]
  · rw [if_neg e]
    by_cases e2 : n ≤ j ∧ j < i
    · rw [if_pos e2, if_pos (by omega)]
    · rw [if_neg e2, if_neg (by omega)]
theorem rz_e {f : Nat → Int32} {n k i : Nat} (h1 : n ≤ i) (h2 : k ≤ i) (h3 : i ≤ n ∨ i ≤ k) : rz f n k = rz f n i := by
  funext j
  show (if n ≤ j ∧ j < k then 0 else f j) = (if n ≤ j ∧ j < i then 0 else f j)
  by_cases e2 : n ≤ j ∧ j < k
  · rw [if_pos e2, if_pos (by omega)]
  · rw [if_neg e2, if_neg (by omega)]
def ds_oct (v : Int64) (i : Nat) : Int32 := (v.toUInt64 >>> ((nI (56 - 8 * i)).toInt64.toUInt64 &&& Int64.toUInt64 63)).toInt64.toInt32 &&& nI 255
def wr (f : Nat → Int32) (q : Nat) (v : Int64) (i : Nat) : Nat → Int32 := fun j => if q ≤ j ∧ j < q + i then ds_oct v (j - q) else f j
theorem wr_0 {f : Nat → Int32} {q : Nat} {v : Int64} : wr f q v 0 = f := by
  funext j
  show (if q ≤ j ∧ j < q + 0 then ds_oct v (j - q) else f j) = f j
  rw [if_neg (by omega)]
theorem wr_s {f : Nat → Int32} {q i : Nat} {v : Int64} : wr f q v (i + 1) = upd (wr f q v i) (q + i) (ds_oct v i) := by
  funext j
  show (if q ≤ j ∧ j < q + (i + 1) then ds_oct v (j - q) else f j) = if j = q + i then ds_oct v i else (if q ≤ j ∧ j < q + i then ds_oct v (j - q) else f j)
  by_cases e : j = q + i
  · rw [if_pos (by omega), if_pos e, show j - q = i by omega]
  · rw [if_neg e]
    by_cases e2 : q ≤ j ∧ j < q + i
    · rw [if_pos e2, if_pos (by omega)]
    · rw [if_neg e2, if_neg (by omega)]
def tk_add (fk ff fl : Nat → Int32) (c : Nat) (kd nb : Int32) : (Nat → Int32) × (Nat → Int32) × (Nat → Int32) × Nat :=
  if 0 < c ∧ fk (c - 1) = kd ∧ ff (c - 1) + fl (c - 1) = nb then (fk, ff, upd fl (c - 1) (fl (c - 1) + nI 1), c) else (upd fk c kd, upd ff c nb, upd fl c (nI 1), c + 1)
def bn (n s : Nat) : Nat := (n + s - 1) / s
def bL (n s : Nat) : Nat := if bn n s = 0 then 0 else n - (bn n s - 1) * s
def bl (n s i : Nat) : Nat := if i + 1 = bn n s then bL n s else s
theorem bn_lt {n s i : Nat} (h0 : 0 < s) (h : i < bn n s) : i * s < n := by
  have h1 : (i + 1) * s ≤ n + s - 1 := (Nat.le_div_iff_mul_le h0).mp h
  rw [Nat.add_mul, Nat.one_mul] at h1
  omega
theorem bn_up {n s : Nat} (h0 : 0 < s) : n ≤ bn n s * s := by
  have h1 : n + s - 1 < ((n + s - 1) / s + 1) * s := Nat.lt_mul_of_div_lt (Nat.lt_succ_self _) h0
  rw [Nat.add_mul, Nat.one_mul] at h1
  show n ≤ (n + s - 1) / s * s
  omega
theorem bn_pos {n s : Nat} (h0 : 0 < s) (h : 0 < n) : 0 < bn n s := by
  have := bn_up (n := n) h0
  rcases Nat.eq_zero_or_pos (bn n s) with e | e
  · rw [e, Nat.zero_mul] at this
    omega
  · exact e
theorem bn_300 {n s : Nat} (h : n ≤ 1200) (h4 : 4 ≤ s) : bn n s ≤ 300 := by
  rcases Nat.lt_or_ge 300 (bn n s) with e | e
  · have h1 := bn_lt (by omega) e
    have h2 : 300 * 4 ≤ 300 * s := Nat.mul_le_mul_left 300 h4
    omega
  · exact e
theorem bl_in {n s i : Nat} (h0 : 0 < s) (h : i < bn n s) : i * s + bl n s i ≤ n ∧ 0 < bl n s i := by
  have h1 := bn_lt h0 h
  unfold bl
  by_cases e : i + 1 = bn n s
  · rw [if_pos e, bL, if_neg (by omega), show bn n s - 1 = i by omega]
    omega
  · rw [if_neg e]
    have h2 := bn_lt (n := n) (i := i + 1) h0 (by omega)
    rw [Nat.add_mul, Nat.one_mul] at h2
    omega
theorem bL_le {n s : Nat} (h0 : 0 < s) : bL n s ≤ s := by
  unfold bL
  by_cases e : bn n s = 0
  · rw [if_pos e]
    omega
  · rw [if_neg e]
    have h1 := bn_up (n := n) h0
    have h2 : bn n s * s = (bn n s - 1) * s + s := by
      have h3 : bn n s = (bn n s - 1) + 1 := by omega
      calc bn n s * s = ((bn n s - 1) + 1) * s := by rw [← h3]
        _ = (bn n s - 1) * s + s := by rw [Nat.add_mul, Nat.one_mul]
    omega
theorem bl_last {n s i : Nat} (h : i + 1 = bn n s) : bl n s i = n - i * s := by
  unfold bl
  rw [if_pos h, bL, if_neg (by omega), show bn n s - 1 = i by omega]
/-- a window: its sums belong to its place, where it is inside -/
def dw_I (f : Nat → Int32) (n z : Nat) (ins pl a b : Int32) : Prop := ins = 0 ∨ (ins = 1 ∧ ∃ q, pl = nI q ∧ q + z ≤ n ∧ a = su_A f q z ∧ b = su_B f q z)
def dw_S (f : Nat → Int32) (z p : Nat) (ks : Int32) (st : Int64) : Prop := ks = 0 ∨ (ks = 1 ∧ st = su_S f p z)
theorem ds_sublt {n z p : Nat} (hn : n ≤ 1200) (hz : z ≤ 1200) (hp : p < 2 ^ 31) : nI n - nI z < nI p ↔ n < p + z := by
  rw [Int32.lt_iff_toInt_lt, pk_sub_toInt (by omega) (by omega), nI_toInt (by omega)]
  omega
theorem cut_s {gw : Nat → Int32} {gs : Nat → Int64} {f : Nat → Int32} {n k i : Nat} (hv : ∀ j, j < i → gw j = su_W f (j * k) (bl n k j) ∧ gs j = su_S f (j * k) (bl n k j)) :
    ∀ j, j < i + 1 → upd gw i (su_W f (i * k) (bl n k i)) j = su_W f (j * k) (bl n k j) ∧ vp_updL gs i (su_S f (i * k) (bl n k i)) j = su_S f (j * k) (bl n k j) := by
  intro j hj
  by_cases e : j = i
  · subst e
    exact ⟨pk_us, pk_uLs⟩
  · rw [pk_un e, pk_uLn e]
    exact hv j (by omega)
theorem ds_nm1 {b : Nat} (h : b < 2 ^ 31) : ¬ nI b = -1 := fun e => nI_pos h (by rw [e]; decide)
def dw_P (f : Nat → Int32) (n z p : Nat) (ins wk : Int32) : Prop := (p + z ≤ n ∧ ins = 1 ∧ wk = su_W f p z) ∨ (n < p + z ∧ ins = 0)
abbrev ft (fo fn : Nat → Int32) (ln : Nat) (mk : Int64) (q p k : Nat) : Prop := p + k ≤ ln ∧ su_W fn p k = su_W fo q k ∧ (su_S fn p k ^^^ su_S fo q k) &&& mk = 0
theorem dw_P.sh {f : Nat → Int32} {n z p : Nat} {ins wk : Int32} (h : dw_P f n z p ins wk) (hn : n ≤ 1200) : ins = 0 ∨ (ins = 1 ∧ p + z ≤ 1200) := by
  rcases h with h | h
  · exact Or.inr ⟨h.2.1, by omega⟩
  · exact Or.inl h.2
theorem dw_P.ft {fo f : Nat → Int32} {n z p q : Nat} {ins wk wv : Int32} {sv mk : Int64} (h : dw_P f n z p ins wk) (h1 : wv = su_W fo q z) (h2 : sv = su_S fo q z) : (ins = 1 ∧ wk = wv ∧ (su_S f p z ^^^ sv) &&& mk = 0) ↔ ft fo f n mk q p z := by
  subst h1 h2
  rcases h with ⟨h3, h4, h5⟩ | ⟨h3, h4⟩
  · subst h4 h5
    exact ⟨fun k => ⟨h3, k.2.1, k.2.2⟩, fun k => ⟨rfl, k.2.1, k.2.2⟩⟩
  · subst h4
    exact ⟨fun k => absurd k.1 (by decide), fun k => absurd k.1 (by omega)⟩
def fb (fo fn : Nat → Int32) (lo ln s : Nat) (mk : Int64) (p b : Nat) : Bool := decide (ft fo fn ln mk (b * s) p (bl lo s b))
def oI : Option Nat → Int32
  | none => -1
  | some b => nI b
def fsN (P : Nat → Bool) : Nat → Nat → Option Nat
  | _, 0 => none
  | i, k + 1 => if P i = true then some i else fsN P (i + 1) k
def pick (P : Nat → Bool) (n : Nat) : Option Nat → Option Nat
  | none => fsN P 0 n
  | some b => if b + 1 < n ∧ P (b + 1) = true then some (b + 1) else fsN P 0 n
theorem fsN_yes {P : Nat → Bool} {i n : Nat} (h : i < n) (hp : P i = true) : fsN P i (n - i) = some i := by
  rw [show n - i = (n - (i + 1)) + 1 by omega]
  exact if_pos hp
theorem fsN_no {P : Nat → Bool} {i n : Nat} (h : i < n) (hp : ¬ P i = true) : fsN P i (n - i) = fsN P (i + 1) (n - (i + 1)) := by
  rw [show n - i = (n - (i + 1)) + 1 by omega]
  exact if_neg hp
theorem fsN_end {P : Nat → Bool} {i n : Nat} (h : n ≤ i) : fsN P i (n - i) = none := by
  rw [show n - i = 0 by omega]
  rfl
theorem fsN_lt {P : Nat → Bool} : ∀ (k i b : Nat), fsN P i k = some b → b < i + k ∧ P b = true
  | 0, _, _, h => by cases h
  | k + 1, i, b, h => by
    by_cases e : P i = true
    · rw [show fsN P i (k + 1) = some i from if_pos e] at h
      cases h
      exact ⟨by omega, e⟩
    · rw [show fsN P i (k + 1) = fsN P (i + 1) k from if_neg e] at h
      have := fsN_lt k (i + 1) b h
      exact ⟨by omega, this.2⟩
theorem pick_lt {P : Nat → Bool} {n b : Nat} {bf : Option Nat} (h : pick P n bf = some b) : b < n ∧ P b = true := by
  have key : fsN P 0 n = some b → b < n ∧ P b = true := fun h => by
    have := fsN_lt n 0 b h
    exact ⟨by omega, this.2⟩
  rcases bf with _ | b0
  · exact key h
  · by_cases e : b0 + 1 < n ∧ P (b0 + 1) = true
    · rw [show pick P n (some b0) = some (b0 + 1) from if_pos e] at h
      cases h
      exact e
    · rw [show pick P n (some b0) = fsN P 0 n from if_neg e] at h
      exact key h
def ds_mask (b : Nat) : Int64 := if b = 64 then -1 else 1 <<< ((nI b).toInt64 &&& 63) - 1
theorem fb_no {P : Prop} {r : Int32} (h : (r = 1 ∧ P) ∨ (r = 0 ∧ ¬ P)) : narrow .boolean (.int r) = .int r := by
  rcases h with ⟨rfl, _⟩ | ⟨rfl, _⟩ <;> rfl
theorem ds_cv {r : Int32} {X Y : Prop} (h : X ↔ Y) (hp : (r = 1 ∧ X) ∨ (r = 0 ∧ ¬ X)) : (r = 1 ∧ Y) ∨ (r = 0 ∧ ¬ Y) := hp.imp (fun z => ⟨z.1, h.mp z.2⟩) (fun z => ⟨z.1, fun y => z.2 (h.mpr y)⟩)
theorem mv_P {f : Nat → Int32} {n z q : Nat} {u : Int32 × Int32 × Int32 × Int32} (h : (q + z ≤ n ∧ u.1 = 1 ∧ u.2.1 = su_A f q z ∧ u.2.2.1 = su_B f q z ∧ u.2.2.2 = su_W f q z) ∨ (n < q + z ∧ u.1 = 0)) : dw_P f n z q u.1 u.2.2.2 :=
  h.imp (fun k => ⟨k.1, k.2.1, k.2.2.2.2⟩) id
theorem mv_I {f : Nat → Int32} {n z q : Nat} {u : Int32 × Int32 × Int32 × Int32} (h : (q + z ≤ n ∧ u.1 = 1 ∧ u.2.1 = su_A f q z ∧ u.2.2.1 = su_B f q z ∧ u.2.2.2 = su_W f q z) ∨ (n < q + z ∧ u.1 = 0)) : dw_I f n z u.1 (nI q) u.2.1 u.2.2.1 :=
  h.elim (fun k => Or.inr ⟨k.2.1, q, rfl, k.1, k.2.2.1, k.2.2.2.1⟩) (fun k => Or.inl k.2)
abbrev dl_T : Type := Nat × Option Nat × ((Nat → Int32) × (Nat → Int32) × (Nat → Int32) × Nat) × (Nat → Int32)
def dl_step (fo fn : Nat → Int32) (lo ln s : Nat) (mk : Int64) (t : dl_T) : dl_T :=
  match pick (fb fo fn lo ln s mk t.1) (bn lo s) t.2.1 with
  | none => (t.1 + 1, none, tk_add t.2.2.1.1 t.2.2.1.2.1 t.2.2.1.2.2.1 t.2.2.1.2.2.2 (nI 1) (nI t.1), va_cpy fn t.2.2.2 t.1 t.1 1)
  | some b => (t.1 + bl lo s b, some b, tk_add t.2.2.1.1 t.2.2.1.2.1 t.2.2.1.2.2.1 t.2.2.1.2.2.2 (nI 0) (nI b), va_cpy fo t.2.2.2 (b * s) t.1 (bl lo s b))
def dl (fo fn : Nat → Int32) (lo ln s : Nat) (mk : Int64) : Nat → dl_T → dl_T
  | 0, t => t
  | k + 1, t => if t.1 < ln then dl fo fn lo ln s mk k (dl_step fo fn lo ln s mk t) else t
theorem dl_end {fo fn : Nat → Int32} {lo ln s : Nat} {mk : Int64} {t : dl_T} (h : ln ≤ t.1) : ∀ k, dl fo fn lo ln s mk k t = t
  | 0 => rfl
  | _ + 1 => if_neg (by omega)
theorem dl_go {fo fn : Nat → Int32} {lo ln s : Nat} {mk : Int64} {t : dl_T} {i : Nat} (h : t.1 < ln) (hi : i < 1200) : dl fo fn lo ln s mk (1200 - i) t = dl fo fn lo ln s mk (1200 - (i + 1)) (dl_step fo fn lo ln s mk t) := by
  rw [show 1200 - i = (1200 - (i + 1)) + 1 by omega]
  exact if_pos h
theorem dl_none {fo fn : Nat → Int32} {lo ln s : Nat} {mk : Int64} {p c : Nat} {bf : Option Nat} {fk ff fl fm : Nat → Int32} (h : pick (fb fo fn lo ln s mk p) (bn lo s) bf = none) :
    dl_step fo fn lo ln s mk (p, bf, (fk, ff, fl, c), fm) = (p + 1, none, tk_add fk ff fl c (nI 1) (nI p), va_cpy fn fm p p 1) := by
  unfold dl_step
  rw [show pick (fb fo fn lo ln s mk ((p, bf, (fk, ff, fl, c), fm) : dl_T).1) (bn lo s) ((p, bf, (fk, ff, fl, c), fm) : dl_T).2.1 = none from h]
theorem dl_some {fo fn : Nat → Int32} {lo ln s : Nat} {mk : Int64} {p c b : Nat} {bf : Option Nat} {fk ff fl fm : Nat → Int32} (h : pick (fb fo fn lo ln s mk p) (bn lo s) bf = some b) :
    dl_step fo fn lo ln s mk (p, bf, (fk, ff, fl, c), fm) = (p + bl lo s b, some b, tk_add fk ff fl c (nI 0) (nI b), va_cpy fo fm (b * s) p (bl lo s b)) := by
  unfold dl_step
  rw [show pick (fb fo fn lo ln s mk ((p, bf, (fk, ff, fl, c), fm) : dl_T).1) (bn lo s) ((p, bf, (fk, ff, fl, c), fm) : dl_T).2.1 = some b from h]
theorem tk_add_c {fk ff fl : Nat → Int32} {c : Nat} {kd nb : Int32} : (tk_add fk ff fl c kd nb).2.2.2 ≤ c + 1 := by
  unfold tk_add
  by_cases h : 0 < c ∧ fk (c - 1) = kd ∧ ff (c - 1) + fl (c - 1) = nb
  · rw [if_pos h]
    exact Nat.le_succ c
  · rw [if_neg h]
    exact Nat.le_refl _
theorem bl_min {n s i : Nat} (h0 : 0 < s) (h : i < bn n s) : (if n - i * s < s then n - i * s else s) = bl n s i := by
  have h1 := bn_lt h0 h
  by_cases e : i + 1 = bn n s
  · rw [bl_last e]
    have h2 := bL_le (n := n) h0
    have h3 : bL n s = n - i * s := by
      have := bl_last e
      rw [← this]
      exact (if_pos e).symm
    by_cases e2 : n - i * s < s
    · rw [if_pos e2]
    · rw [if_neg e2]
      omega
  · have h2 := bn_lt (n := n) (i := i + 1) h0 (by omega)
    rw [Nat.add_mul, Nat.one_mul] at h2
    rw [if_neg (by omega), bl, if_neg e]
theorem bl_minI {n s i : Nat} (h0 : 0 < s) (hs : s ≤ 256) (hn : n ≤ 1200) (h : i < bn n s) : (if nI (n - i * s) < nI s then nI (n - i * s) else nI s) = nI (bl n s i) := by
  rw [← bl_min h0 h]
  by_cases e : n - i * s < s
  · rw [if_pos e, if_pos ((nI_ltI (by omega) (by omega)).mpr e)]
  · rw [if_neg e, if_neg (fun z => e ((nI_ltI (by omega) (by omega)).mp z))]
def snt (fk fl : Nat → Int32) : Nat → Int32
  | 0 => 0
  | k + 1 => snt fk fl k + (if fk k = 0 then nI 5 else nI 3 + fl k)
end
section
theorem dX4_init_0 : decode cX4_init 0 = .ok (.aload_n 0, 1) := by decide +kernel
theorem dX4_init_1 : decode cX4_init 1 = .ok (.invokespecial 3, 3) := by decide +kernel
theorem dX4_init_4 : decode cX4_init 4 = .ok (.aload_n 0, 1) := by decide +kernel
theorem dX4_init_5 : decode cX4_init 5 = .ok (.new 9, 3) := by decide +kernel
theorem dX4_init_8 : decode cX4_init 8 = .ok (.dup, 1) := by decide +kernel
theorem dX4_init_9 : decode cX4_init 9 = .ok (.invokespecial 11, 3) := by decide +kernel
theorem dX4_init_12 : decode cX4_init 12 = .ok (.putfield 12, 3) := by decide +kernel
theorem dX4_init_15 : decode cX4_init 15 = .ok (.aload_n 0, 1) := by decide +kernel
theorem dX4_init_16 : decode cX4_init 16 = .ok (.new 9, 3) := by decide +kernel
theorem dX4_init_19 : decode cX4_init 19 = .ok (.dup, 1) := by decide +kernel
theorem dX4_init_20 : decode cX4_init 20 = .ok (.invokespecial 11, 3) := by decide +kernel
theorem dX4_init_23 : decode cX4_init 23 = .ok (.putfield 16, 3) := by decide +kernel
theorem dX4_init_26 : decode cX4_init 26 = .ok (.aload_n 0, 1) := by decide +kernel
theorem dX4_init_27 : decode cX4_init 27 = .ok (.new 9, 3) := by decide +kernel
theorem dX4_init_30 : decode cX4_init 30 = .ok (.dup, 1) := by decide +kernel
theorem dX4_init_31 : decode cX4_init 31 = .ok (.invokespecial 11, 3) := by decide +kernel
theorem dX4_init_34 : decode cX4_init 34 = .ok (.putfield 19, 3) := by decide +kernel
theorem dX4_init_37 : decode cX4_init 37 = .ok (.aload_n 0, 1) := by decide +kernel
theorem dX4_init_38 : decode cX4_init 38 = .ok (.new 22, 3) := by decide +kernel
theorem dX4_init_41 : decode cX4_init 41 = .ok (.dup, 1) := by decide +kernel
theorem dX4_init_42 : decode cX4_init 42 = .ok (.aload_n 0, 1) := by decide +kernel
theorem dX4_init_43 : decode cX4_init 43 = .ok (.getfield 12, 3) := by decide +kernel
theorem dX4_init_46 : decode cX4_init 46 = .ok (.invokespecial 24, 3) := by decide +kernel
theorem dX4_init_49 : decode cX4_init 49 = .ok (.putfield 27, 3) := by decide +kernel
theorem dX4_init_52 : decode cX4_init 52 = .ok (.aload_n 0, 1) := by decide +kernel
theorem dX4_init_53 : decode cX4_init 53 = .ok (.new 31, 3) := by decide +kernel
theorem dX4_init_56 : decode cX4_init 56 = .ok (.dup, 1) := by decide +kernel
theorem dX4_init_57 : decode cX4_init 57 = .ok (.aload_n 0, 1) := by decide +kernel
theorem dX4_init_58 : decode cX4_init 58 = .ok (.getfield 16, 3) := by decide +kernel
theorem dX4_init_61 : decode cX4_init 61 = .ok (.invokespecial 33, 3) := by decide +kernel
theorem dX4_init_64 : decode cX4_init 64 = .ok (.putfield 34, 3) := by decide +kernel
theorem dX4_init_67 : decode cX4_init 67 = .ok (.aload_n 0, 1) := by decide +kernel
theorem dX4_init_68 : decode cX4_init 68 = .ok (.new 31, 3) := by decide +kernel
theorem dX4_init_71 : decode cX4_init 71 = .ok (.dup, 1) := by decide +kernel
theorem dX4_init_72 : decode cX4_init 72 = .ok (.aload_n 0, 1) := by decide +kernel
theorem dX4_init_73 : decode cX4_init 73 = .ok (.getfield 16, 3) := by decide +kernel
theorem dX4_init_76 : decode cX4_init 76 = .ok (.invokespecial 33, 3) := by decide +kernel
theorem dX4_init_79 : decode cX4_init 79 = .ok (.putfield 38, 3) := by decide +kernel
theorem dX4_init_82 : decode cX4_init 82 = .ok (.aload_n 0, 1) := by decide +kernel
theorem dX4_init_83 : decode cX4_init 83 = .ok (.new 41, 3) := by decide +kernel
theorem dX4_init_86 : decode cX4_init 86 = .ok (.dup, 1) := by decide +kernel
theorem dX4_init_87 : decode cX4_init 87 = .ok (.invokespecial 43, 3) := by decide +kernel
theorem dX4_init_90 : decode cX4_init 90 = .ok (.putfield 44, 3) := by decide +kernel
theorem dX4_init_93 : decode cX4_init 93 = .ok (.aload_n 0, 1) := by decide +kernel
theorem dX4_init_94 : decode cX4_init 94 = .ok (.iconst 0, 1) := by decide +kernel
theorem dX4_init_95 : decode cX4_init 95 = .ok (.putfield 48, 3) := by decide +kernel
theorem dX4_init_98 : decode cX4_init 98 = .ok (.return_, 1) := by decide +kernel
theorem dX4_size_0 : decode cX4_size 0 = .ok (.iload_n 1, 1) := by decide +kernel
theorem dX4_size_1 : decode cX4_size 1 = .ok (.invokestatic 52, 3) := by decide +kernel
theorem dX4_size_4 : decode cX4_size 4 = .ok (.iload_n 2, 1) := by decide +kernel
theorem dX4_size_5 : decode cX4_size 5 = .ok (.ifCond .lt 10, 3) := by decide +kernel
theorem dX4_size_8 : decode cX4_size 8 = .ok (.iload_n 2, 1) := by decide +kernel
theorem dX4_size_9 : decode cX4_size 9 = .ok (.sipush 1200, 3) := by decide +kernel
theorem dX4_size_12 : decode cX4_size 12 = .ok (.if_icmp .le 13, 3) := by decide +kernel
theorem dX4_size_15 : decode cX4_size 15 = .ok (.new 56, 3) := by decide +kernel
theorem dX4_size_18 : decode cX4_size 18 = .ok (.dup, 1) := by decide +kernel
theorem dX4_size_19 : decode cX4_size 19 = .ok (.ldc 58, 2) := by decide +kernel
theorem dX4_size_21 : decode cX4_size 21 = .ok (.invokespecial 60, 3) := by decide +kernel
theorem dX4_size_24 : decode cX4_size 24 = .ok (.athrow, 1) := by decide +kernel
theorem dX4_size_25 : decode cX4_size 25 = .ok (.aload_n 0, 1) := by decide +kernel
theorem dX4_size_26 : decode cX4_size 26 = .ok (.iload_n 1, 1) := by decide +kernel
theorem dX4_size_27 : decode cX4_size 27 = .ok (.invokevirtual 63, 3) := by decide +kernel
theorem dX4_size_30 : decode cX4_size 30 = .ok (.iload_n 2, 1) := by decide +kernel
theorem dX4_size_31 : decode cX4_size 31 = .ok (.invokevirtual 67, 3) := by decide +kernel
theorem dX4_size_34 : decode cX4_size 34 = .ok (.return_, 1) := by decide +kernel
theorem dX4_put_0 : decode cX4_put 0 = .ok (.iload_n 1, 1) := by decide +kernel
theorem dX4_put_1 : decode cX4_put 1 = .ok (.invokestatic 52, 3) := by decide +kernel
theorem dX4_put_4 : decode cX4_put 4 = .ok (.aload_n 0, 1) := by decide +kernel
theorem dX4_put_5 : decode cX4_put 5 = .ok (.iload_n 1, 1) := by decide +kernel
theorem dX4_put_6 : decode cX4_put 6 = .ok (.invokevirtual 63, 3) := by decide +kernel
theorem dX4_put_9 : decode cX4_put 9 = .ok (.iload_n 2, 1) := by decide +kernel
theorem dX4_put_10 : decode cX4_put 10 = .ok (.invokestatic 70, 3) := by decide +kernel
theorem dX4_put_13 : decode cX4_put 13 = .ok (.aload_n 0, 1) := by decide +kernel
theorem dX4_put_14 : decode cX4_put 14 = .ok (.iload_n 1, 1) := by decide +kernel
theorem dX4_put_15 : decode cX4_put 15 = .ok (.invokevirtual 63, 3) := by decide +kernel
theorem dX4_put_18 : decode cX4_put 18 = .ok (.iload_n 2, 1) := by decide +kernel
theorem dX4_put_19 : decode cX4_put 19 = .ok (.lload_n 3, 1) := by decide +kernel
theorem dX4_put_20 : decode cX4_put 20 = .ok (.invokevirtual 74, 3) := by decide +kernel
theorem dX4_put_23 : decode cX4_put 23 = .ok (.return_, 1) := by decide +kernel
theorem dX4_move_0 : decode cX4_move 0 = .ok (.iload_n 1, 1) := by decide +kernel
theorem dX4_move_1 : decode cX4_move 1 = .ok (.invokestatic 52, 3) := by decide +kernel
theorem dX4_move_4 : decode cX4_move 4 = .ok (.iload_n 3, 1) := by decide +kernel
theorem dX4_move_5 : decode cX4_move 5 = .ok (.invokestatic 52, 3) := by decide +kernel
theorem dX4_move_8 : decode cX4_move 8 = .ok (.aload_n 0, 1) := by decide +kernel
theorem dX4_move_9 : decode cX4_move 9 = .ok (.iload_n 1, 1) := by decide +kernel
theorem dX4_move_10 : decode cX4_move 10 = .ok (.invokevirtual 63, 3) := by decide +kernel
theorem dX4_move_13 : decode cX4_move 13 = .ok (.iload_n 2, 1) := by decide +kernel
theorem dX4_move_14 : decode cX4_move 14 = .ok (.iload 5, 2) := by decide +kernel
theorem dX4_move_16 : decode cX4_move 16 = .ok (.invokestatic 78, 3) := by decide +kernel
theorem dX4_move_19 : decode cX4_move 19 = .ok (.aload_n 0, 1) := by decide +kernel
theorem dX4_move_20 : decode cX4_move 20 = .ok (.iload_n 3, 1) := by decide +kernel
theorem dX4_move_21 : decode cX4_move 21 = .ok (.invokevirtual 63, 3) := by decide +kernel
theorem dX4_move_24 : decode cX4_move 24 = .ok (.iload 4, 2) := by decide +kernel
theorem dX4_move_26 : decode cX4_move 26 = .ok (.iload 5, 2) := by decide +kernel
theorem dX4_move_28 : decode cX4_move 28 = .ok (.invokestatic 78, 3) := by decide +kernel
theorem dX4_move_31 : decode cX4_move 31 = .ok (.aload_n 0, 1) := by decide +kernel
theorem dX4_move_32 : decode cX4_move 32 = .ok (.iload_n 1, 1) := by decide +kernel
theorem dX4_move_33 : decode cX4_move 33 = .ok (.invokevirtual 63, 3) := by decide +kernel
theorem dX4_move_36 : decode cX4_move 36 = .ok (.getfield 82, 3) := by decide +kernel
theorem dX4_move_39 : decode cX4_move 39 = .ok (.iload_n 2, 1) := by decide +kernel
theorem dX4_move_40 : decode cX4_move 40 = .ok (.aload_n 0, 1) := by decide +kernel
theorem dX4_move_41 : decode cX4_move 41 = .ok (.iload_n 3, 1) := by decide +kernel
theorem dX4_move_42 : decode cX4_move 42 = .ok (.invokevirtual 63, 3) := by decide +kernel
theorem dX4_move_45 : decode cX4_move 45 = .ok (.getfield 82, 3) := by decide +kernel
theorem dX4_move_48 : decode cX4_move 48 = .ok (.iload 4, 2) := by decide +kernel
theorem dX4_move_50 : decode cX4_move 50 = .ok (.iload 5, 2) := by decide +kernel
theorem dX4_move_52 : decode cX4_move 52 = .ok (.invokestatic 86, 3) := by decide +kernel
theorem dX4_move_55 : decode cX4_move 55 = .ok (.return_, 1) := by decide +kernel
theorem dX4_octet_0 : decode cX4_octet 0 = .ok (.iload_n 1, 1) := by decide +kernel
theorem dX4_octet_1 : decode cX4_octet 1 = .ok (.invokestatic 52, 3) := by decide +kernel
theorem dX4_octet_4 : decode cX4_octet 4 = .ok (.aload_n 0, 1) := by decide +kernel
theorem dX4_octet_5 : decode cX4_octet 5 = .ok (.iload_n 1, 1) := by decide +kernel
theorem dX4_octet_6 : decode cX4_octet 6 = .ok (.invokevirtual 63, 3) := by decide +kernel
theorem dX4_octet_9 : decode cX4_octet 9 = .ok (.iload_n 2, 1) := by decide +kernel
theorem dX4_octet_10 : decode cX4_octet 10 = .ok (.invokestatic 70, 3) := by decide +kernel
theorem dX4_octet_13 : decode cX4_octet 13 = .ok (.aload_n 0, 1) := by decide +kernel
theorem dX4_octet_14 : decode cX4_octet 14 = .ok (.iload_n 1, 1) := by decide +kernel
theorem dX4_octet_15 : decode cX4_octet 15 = .ok (.invokevirtual 63, 3) := by decide +kernel
theorem dX4_octet_18 : decode cX4_octet 18 = .ok (.getfield 82, 3) := by decide +kernel
theorem dX4_octet_21 : decode cX4_octet 21 = .ok (.iload_n 2, 1) := by decide +kernel
theorem dX4_octet_22 : decode cX4_octet 22 = .ok (.iaload, 1) := by decide +kernel
theorem dX4_octet_23 : decode cX4_octet 23 = .ok (.ireturn, 1) := by decide +kernel
theorem dX4_weak_0 : decode cX4_weak 0 = .ok (.iload_n 1, 1) := by decide +kernel
theorem dX4_weak_1 : decode cX4_weak 1 = .ok (.invokestatic 52, 3) := by decide +kernel
theorem dX4_weak_4 : decode cX4_weak 4 = .ok (.aload_n 0, 1) := by decide +kernel
theorem dX4_weak_5 : decode cX4_weak 5 = .ok (.iload_n 1, 1) := by decide +kernel
theorem dX4_weak_6 : decode cX4_weak 6 = .ok (.invokevirtual 63, 3) := by decide +kernel
theorem dX4_weak_9 : decode cX4_weak 9 = .ok (.iload_n 2, 1) := by decide +kernel
theorem dX4_weak_10 : decode cX4_weak 10 = .ok (.iload_n 3, 1) := by decide +kernel
theorem dX4_weak_11 : decode cX4_weak 11 = .ok (.invokestatic 78, 3) := by decide +kernel
theorem dX4_weak_14 : decode cX4_weak 14 = .ok (.aload_n 0, 1) := by decide +kernel
theorem dX4_weak_15 : decode cX4_weak 15 = .ok (.iload_n 1, 1) := by decide +kernel
theorem dX4_weak_16 : decode cX4_weak 16 = .ok (.invokevirtual 63, 3) := by decide +kernel
theorem dX4_weak_19 : decode cX4_weak 19 = .ok (.iload_n 2, 1) := by decide +kernel
theorem dX4_weak_20 : decode cX4_weak 20 = .ok (.iload_n 3, 1) := by decide +kernel
theorem dX4_weak_21 : decode cX4_weak 21 = .ok (.invokevirtual 92, 3) := by decide +kernel
theorem dX4_weak_24 : decode cX4_weak 24 = .ok (.ireturn, 1) := by decide +kernel
theorem dX4_strong_0 : decode cX4_strong 0 = .ok (.iload_n 1, 1) := by decide +kernel
theorem dX4_strong_1 : decode cX4_strong 1 = .ok (.invokestatic 52, 3) := by decide +kernel
theorem dX4_strong_4 : decode cX4_strong 4 = .ok (.aload_n 0, 1) := by decide +kernel
theorem dX4_strong_5 : decode cX4_strong 5 = .ok (.iload_n 1, 1) := by decide +kernel
theorem dX4_strong_6 : decode cX4_strong 6 = .ok (.invokevirtual 63, 3) := by decide +kernel
theorem dX4_strong_9 : decode cX4_strong 9 = .ok (.iload_n 2, 1) := by decide +kernel
theorem dX4_strong_10 : decode cX4_strong 10 = .ok (.iload_n 3, 1) := by decide +kernel
theorem dX4_strong_11 : decode cX4_strong 11 = .ok (.invokestatic 78, 3) := by decide +kernel
theorem dX4_strong_14 : decode cX4_strong 14 = .ok (.aload_n 0, 1) := by decide +kernel
theorem dX4_strong_15 : decode cX4_strong 15 = .ok (.iload_n 1, 1) := by decide +kernel
theorem dX4_strong_16 : decode cX4_strong 16 = .ok (.invokevirtual 63, 3) := by decide +kernel
theorem dX4_strong_19 : decode cX4_strong 19 = .ok (.iload_n 2, 1) := by decide +kernel
theorem dX4_strong_20 : decode cX4_strong 20 = .ok (.iload_n 3, 1) := by decide +kernel
theorem dX4_strong_21 : decode cX4_strong 21 = .ok (.invokevirtual 96, 3) := by decide +kernel
theorem dX4_strong_24 : decode cX4_strong 24 = .ok (.lreturn, 1) := by decide +kernel
end
section
theorem dX4_find_0 : decode cX4_find 0 = .ok (.iload_n 1, 1) := by decide +kernel
theorem dX4_find_1 : decode cX4_find 1 = .ok (.iload_n 2, 1) := by decide +kernel
theorem dX4_find_2 : decode cX4_find 2 = .ok (.invokestatic 100, 3) := by decide +kernel
theorem dX4_find_5 : decode cX4_find 5 = .ok (.iload_n 3, 1) := by decide +kernel
theorem dX4_find_6 : decode cX4_find 6 = .ok (.ifCond .lt 18, 3) := by decide +kernel
theorem dX4_find_9 : decode cX4_find 9 = .ok (.iload_n 3, 1) := by decide +kernel
theorem dX4_find_10 : decode cX4_find 10 = .ok (.aload_n 0, 1) := by decide +kernel
theorem dX4_find_11 : decode cX4_find 11 = .ok (.getfield 12, 3) := by decide +kernel
theorem dX4_find_14 : decode cX4_find 14 = .ok (.getfield 104, 3) := by decide +kernel
theorem dX4_find_17 : decode cX4_find 17 = .ok (.iload_n 1, 1) := by decide +kernel
theorem dX4_find_18 : decode cX4_find 18 = .ok (.invokestatic 108, 3) := by decide +kernel
theorem dX4_find_21 : decode cX4_find 21 = .ok (.if_icmp .lt 13, 3) := by decide +kernel
theorem dX4_find_24 : decode cX4_find 24 = .ok (.new 111, 3) := by decide +kernel
theorem dX4_find_27 : decode cX4_find 27 = .ok (.dup, 1) := by decide +kernel
theorem dX4_find_28 : decode cX4_find 28 = .ok (.ldc 113, 2) := by decide +kernel
theorem dX4_find_30 : decode cX4_find 30 = .ok (.invokespecial 115, 3) := by decide +kernel
theorem dX4_find_33 : decode cX4_find 33 = .ok (.athrow, 1) := by decide +kernel
theorem dX4_find_34 : decode cX4_find 34 = .ok (.iload 4, 2) := by decide +kernel
theorem dX4_find_36 : decode cX4_find 36 = .ok (.ifCond .ge 13, 3) := by decide +kernel
theorem dX4_find_39 : decode cX4_find 39 = .ok (.new 111, 3) := by decide +kernel
theorem dX4_find_42 : decode cX4_find 42 = .ok (.dup, 1) := by decide +kernel
theorem dX4_find_43 : decode cX4_find 43 = .ok (.ldc 116, 2) := by decide +kernel
theorem dX4_find_45 : decode cX4_find 45 = .ok (.invokespecial 115, 3) := by decide +kernel
theorem dX4_find_48 : decode cX4_find 48 = .ok (.athrow, 1) := by decide +kernel
theorem dX4_find_49 : decode cX4_find 49 = .ok (.aload_n 0, 1) := by decide +kernel
theorem dX4_find_50 : decode cX4_find 50 = .ok (.iload_n 3, 1) := by decide +kernel
theorem dX4_find_51 : decode cX4_find 51 = .ok (.iload_n 1, 1) := by decide +kernel
theorem dX4_find_52 : decode cX4_find 52 = .ok (.imul, 1) := by decide +kernel
theorem dX4_find_53 : decode cX4_find 53 = .ok (.iload_n 1, 1) := by decide +kernel
theorem dX4_find_54 : decode cX4_find 54 = .ok (.aload_n 0, 1) := by decide +kernel
theorem dX4_find_55 : decode cX4_find 55 = .ok (.getfield 12, 3) := by decide +kernel
theorem dX4_find_58 : decode cX4_find 58 = .ok (.getfield 104, 3) := by decide +kernel
theorem dX4_find_61 : decode cX4_find 61 = .ok (.iload_n 3, 1) := by decide +kernel
theorem dX4_find_62 : decode cX4_find 62 = .ok (.iload_n 1, 1) := by decide +kernel
theorem dX4_find_63 : decode cX4_find 63 = .ok (.imul, 1) := by decide +kernel
theorem dX4_find_64 : decode cX4_find 64 = .ok (.isub, 1) := by decide +kernel
theorem dX4_find_65 : decode cX4_find 65 = .ok (.invokestatic 118, 3) := by decide +kernel
theorem dX4_find_68 : decode cX4_find 68 = .ok (.iload_n 2, 1) := by decide +kernel
theorem dX4_find_69 : decode cX4_find 69 = .ok (.invokestatic 123, 3) := by decide +kernel
theorem dX4_find_72 : decode cX4_find 72 = .ok (.iload 4, 2) := by decide +kernel
theorem dX4_find_74 : decode cX4_find 74 = .ok (.invokevirtual 127, 3) := by decide +kernel
theorem dX4_find_77 : decode cX4_find 77 = .ok (.ireturn, 1) := by decide +kernel
theorem dX4_delta_0 : decode cX4_delta 0 = .ok (.iload_n 1, 1) := by decide +kernel
theorem dX4_delta_1 : decode cX4_delta 1 = .ok (.iload_n 2, 1) := by decide +kernel
theorem dX4_delta_2 : decode cX4_delta 2 = .ok (.invokestatic 100, 3) := by decide +kernel
theorem dX4_delta_5 : decode cX4_delta 5 = .ok (.aload_n 0, 1) := by decide +kernel
theorem dX4_delta_6 : decode cX4_delta 6 = .ok (.getfield 27, 3) := by decide +kernel
theorem dX4_delta_9 : decode cX4_delta 9 = .ok (.iload_n 1, 1) := by decide +kernel
theorem dX4_delta_10 : decode cX4_delta 10 = .ok (.invokevirtual 131, 3) := by decide +kernel
theorem dX4_delta_13 : decode cX4_delta 13 = .ok (.aload_n 0, 1) := by decide +kernel
theorem dX4_delta_14 : decode cX4_delta 14 = .ok (.getfield 34, 3) := by decide +kernel
theorem dX4_delta_17 : decode cX4_delta 17 = .ok (.iload_n 1, 1) := by decide +kernel
theorem dX4_delta_18 : decode cX4_delta 18 = .ok (.invokevirtual 134, 3) := by decide +kernel
theorem dX4_delta_21 : decode cX4_delta 21 = .ok (.aload_n 0, 1) := by decide +kernel
theorem dX4_delta_22 : decode cX4_delta 22 = .ok (.getfield 38, 3) := by decide +kernel
theorem dX4_delta_25 : decode cX4_delta 25 = .ok (.aload_n 0, 1) := by decide +kernel
theorem dX4_delta_26 : decode cX4_delta 26 = .ok (.getfield 27, 3) := by decide +kernel
theorem dX4_delta_29 : decode cX4_delta 29 = .ok (.getfield 137, 3) := by decide +kernel
theorem dX4_delta_32 : decode cX4_delta 32 = .ok (.invokevirtual 134, 3) := by decide +kernel
theorem dX4_delta_35 : decode cX4_delta 35 = .ok (.aload_n 0, 1) := by decide +kernel
theorem dX4_delta_36 : decode cX4_delta 36 = .ok (.getfield 44, 3) := by decide +kernel
theorem dX4_delta_39 : decode cX4_delta 39 = .ok (.invokevirtual 140, 3) := by decide +kernel
theorem dX4_delta_42 : decode cX4_delta 42 = .ok (.aload_n 0, 1) := by decide +kernel
theorem dX4_delta_43 : decode cX4_delta 43 = .ok (.getfield 19, 3) := by decide +kernel
theorem dX4_delta_46 : decode cX4_delta 46 = .ok (.iconst 0, 1) := by decide +kernel
theorem dX4_delta_47 : decode cX4_delta 47 = .ok (.putfield 104, 3) := by decide +kernel
theorem dX4_delta_50 : decode cX4_delta 50 = .ok (.aload_n 0, 1) := by decide +kernel
theorem dX4_delta_51 : decode cX4_delta 51 = .ok (.iload_n 2, 1) := by decide +kernel
theorem dX4_delta_52 : decode cX4_delta 52 = .ok (.invokestatic 123, 3) := by decide +kernel
theorem dX4_delta_55 : decode cX4_delta 55 = .ok (.invokevirtual 143, 3) := by decide +kernel
theorem dX4_delta_58 : decode cX4_delta 58 = .ok (.aload_n 0, 1) := by decide +kernel
theorem dX4_delta_59 : decode cX4_delta 59 = .ok (.iconst 1, 1) := by decide +kernel
theorem dX4_delta_60 : decode cX4_delta 60 = .ok (.putfield 48, 3) := by decide +kernel
theorem dX4_delta_63 : decode cX4_delta 63 = .ok (.aload_n 0, 1) := by decide +kernel
theorem dX4_delta_64 : decode cX4_delta 64 = .ok (.getfield 44, 3) := by decide +kernel
theorem dX4_delta_67 : decode cX4_delta 67 = .ok (.getfield 147, 3) := by decide +kernel
theorem dX4_delta_70 : decode cX4_delta 70 = .ok (.ireturn, 1) := by decide +kernel
theorem dX4_token_0 : decode cX4_token 0 = .ok (.iload_n 2, 1) := by decide +kernel
theorem dX4_token_1 : decode cX4_token 1 = .ok (.ifCond .lt 8, 3) := by decide +kernel
theorem dX4_token_4 : decode cX4_token 4 = .ok (.iload_n 2, 1) := by decide +kernel
theorem dX4_token_5 : decode cX4_token 5 = .ok (.iconst 2, 1) := by decide +kernel
theorem dX4_token_6 : decode cX4_token 6 = .ok (.if_icmp .le 13, 3) := by decide +kernel
theorem dX4_token_9 : decode cX4_token 9 = .ok (.new 56, 3) := by decide +kernel
theorem dX4_token_12 : decode cX4_token 12 = .ok (.dup, 1) := by decide +kernel
theorem dX4_token_13 : decode cX4_token 13 = .ok (.ldc 150, 2) := by decide +kernel
theorem dX4_token_15 : decode cX4_token 15 = .ok (.invokespecial 60, 3) := by decide +kernel
theorem dX4_token_18 : decode cX4_token 18 = .ok (.athrow, 1) := by decide +kernel
theorem dX4_token_19 : decode cX4_token 19 = .ok (.iload_n 1, 1) := by decide +kernel
theorem dX4_token_20 : decode cX4_token 20 = .ok (.ifCond .lt 14, 3) := by decide +kernel
theorem dX4_token_23 : decode cX4_token 23 = .ok (.iload_n 1, 1) := by decide +kernel
theorem dX4_token_24 : decode cX4_token 24 = .ok (.aload_n 0, 1) := by decide +kernel
theorem dX4_token_25 : decode cX4_token 25 = .ok (.getfield 44, 3) := by decide +kernel
theorem dX4_token_28 : decode cX4_token 28 = .ok (.getfield 147, 3) := by decide +kernel
theorem dX4_token_31 : decode cX4_token 31 = .ok (.if_icmp .lt 13, 3) := by decide +kernel
theorem dX4_token_34 : decode cX4_token 34 = .ok (.new 111, 3) := by decide +kernel
theorem dX4_token_37 : decode cX4_token 37 = .ok (.dup, 1) := by decide +kernel
theorem dX4_token_38 : decode cX4_token 38 = .ok (.ldc 152, 2) := by decide +kernel
theorem dX4_token_40 : decode cX4_token 40 = .ok (.invokespecial 115, 3) := by decide +kernel
theorem dX4_token_43 : decode cX4_token 43 = .ok (.athrow, 1) := by decide +kernel
theorem dX4_token_44 : decode cX4_token 44 = .ok (.iload_n 2, 1) := by decide +kernel
theorem dX4_token_45 : decode cX4_token 45 = .ok (.ifCond .ne 13, 3) := by decide +kernel
theorem dX4_token_48 : decode cX4_token 48 = .ok (.aload_n 0, 1) := by decide +kernel
theorem dX4_token_49 : decode cX4_token 49 = .ok (.getfield 44, 3) := by decide +kernel
theorem dX4_token_52 : decode cX4_token 52 = .ok (.getfield 154, 3) := by decide +kernel
theorem dX4_token_55 : decode cX4_token 55 = .ok (.iload_n 1, 1) := by decide +kernel
theorem dX4_token_56 : decode cX4_token 56 = .ok (.iaload, 1) := by decide +kernel
theorem dX4_token_57 : decode cX4_token 57 = .ok (.ireturn, 1) := by decide +kernel
theorem dX4_token_58 : decode cX4_token 58 = .ok (.iload_n 2, 1) := by decide +kernel
theorem dX4_token_59 : decode cX4_token 59 = .ok (.iconst 1, 1) := by decide +kernel
theorem dX4_token_60 : decode cX4_token 60 = .ok (.if_icmp .ne 15, 3) := by decide +kernel
theorem dX4_token_63 : decode cX4_token 63 = .ok (.aload_n 0, 1) := by decide +kernel
theorem dX4_token_64 : decode cX4_token 64 = .ok (.getfield 44, 3) := by decide +kernel
theorem dX4_token_67 : decode cX4_token 67 = .ok (.getfield 157, 3) := by decide +kernel
theorem dX4_token_70 : decode cX4_token 70 = .ok (.iload_n 1, 1) := by decide +kernel
theorem dX4_token_71 : decode cX4_token 71 = .ok (.iaload, 1) := by decide +kernel
theorem dX4_token_72 : decode cX4_token 72 = .ok (.goto 12, 3) := by decide +kernel
theorem dX4_token_75 : decode cX4_token 75 = .ok (.aload_n 0, 1) := by decide +kernel
theorem dX4_token_76 : decode cX4_token 76 = .ok (.getfield 44, 3) := by decide +kernel
theorem dX4_token_79 : decode cX4_token 79 = .ok (.getfield 160, 3) := by decide +kernel
theorem dX4_token_82 : decode cX4_token 82 = .ok (.iload_n 1, 1) := by decide +kernel
theorem dX4_token_83 : decode cX4_token 83 = .ok (.iaload, 1) := by decide +kernel
theorem dX4_token_84 : decode cX4_token 84 = .ok (.ireturn, 1) := by decide +kernel
theorem dX4_sent_0 : decode cX4_sent 0 = .ok (.iconst 0, 1) := by decide +kernel
theorem dX4_sent_1 : decode cX4_sent 1 = .ok (.istore_n 1, 1) := by decide +kernel
theorem dX4_sent_2 : decode cX4_sent 2 = .ok (.iconst 0, 1) := by decide +kernel
theorem dX4_sent_3 : decode cX4_sent 3 = .ok (.istore_n 2, 1) := by decide +kernel
theorem dX4_sent_4 : decode cX4_sent 4 = .ok (.iload_n 2, 1) := by decide +kernel
theorem dX4_sent_5 : decode cX4_sent 5 = .ok (.aload_n 0, 1) := by decide +kernel
theorem dX4_sent_6 : decode cX4_sent 6 = .ok (.getfield 44, 3) := by decide +kernel
theorem dX4_sent_9 : decode cX4_sent 9 = .ok (.getfield 147, 3) := by decide +kernel
theorem dX4_sent_12 : decode cX4_sent 12 = .ok (.if_icmp .ge 39, 3) := by decide +kernel
theorem dX4_sent_15 : decode cX4_sent 15 = .ok (.iload_n 1, 1) := by decide +kernel
theorem dX4_sent_16 : decode cX4_sent 16 = .ok (.aload_n 0, 1) := by decide +kernel
theorem dX4_sent_17 : decode cX4_sent 17 = .ok (.getfield 44, 3) := by decide +kernel
theorem dX4_sent_20 : decode cX4_sent 20 = .ok (.getfield 154, 3) := by decide +kernel
theorem dX4_sent_23 : decode cX4_sent 23 = .ok (.iload_n 2, 1) := by decide +kernel
theorem dX4_sent_24 : decode cX4_sent 24 = .ok (.iaload, 1) := by decide +kernel
theorem dX4_sent_25 : decode cX4_sent 25 = .ok (.ifCond .ne 7, 3) := by decide +kernel
theorem dX4_sent_28 : decode cX4_sent 28 = .ok (.iconst 5, 1) := by decide +kernel
theorem dX4_sent_29 : decode cX4_sent 29 = .ok (.goto 14, 3) := by decide +kernel
theorem dX4_sent_32 : decode cX4_sent 32 = .ok (.iconst 3, 1) := by decide +kernel
theorem dX4_sent_33 : decode cX4_sent 33 = .ok (.aload_n 0, 1) := by decide +kernel
theorem dX4_sent_34 : decode cX4_sent 34 = .ok (.getfield 44, 3) := by decide +kernel
theorem dX4_sent_37 : decode cX4_sent 37 = .ok (.getfield 160, 3) := by decide +kernel
theorem dX4_sent_40 : decode cX4_sent 40 = .ok (.iload_n 2, 1) := by decide +kernel
theorem dX4_sent_41 : decode cX4_sent 41 = .ok (.iaload, 1) := by decide +kernel
theorem dX4_sent_42 : decode cX4_sent 42 = .ok (.iadd, 1) := by decide +kernel
theorem dX4_sent_43 : decode cX4_sent 43 = .ok (.iadd, 1) := by decide +kernel
theorem dX4_sent_44 : decode cX4_sent 44 = .ok (.istore_n 1, 1) := by decide +kernel
theorem dX4_sent_45 : decode cX4_sent 45 = .ok (.iinc 2 1, 3) := by decide +kernel
theorem dX4_sent_48 : decode cX4_sent 48 = .ok (.goto (-44), 3) := by decide +kernel
theorem dX4_sent_51 : decode cX4_sent 51 = .ok (.iload_n 1, 1) := by decide +kernel
theorem dX4_sent_52 : decode cX4_sent 52 = .ok (.ireturn, 1) := by decide +kernel
end
section
theorem dX4_patch_0 : decode cX4_patch 0 = .ok (.aload_n 0, 1) := by decide +kernel
theorem dX4_patch_1 : decode cX4_patch 1 = .ok (.getfield 48, 3) := by decide +kernel
theorem dX4_patch_4 : decode cX4_patch 4 = .ok (.ifCond .ne 5, 3) := by decide +kernel
theorem dX4_patch_7 : decode cX4_patch 7 = .ok (.iconst 0, 1) := by decide +kernel
theorem dX4_patch_8 : decode cX4_patch 8 = .ok (.ireturn, 1) := by decide +kernel
theorem dX4_patch_9 : decode cX4_patch 9 = .ok (.aload_n 0, 1) := by decide +kernel
theorem dX4_patch_10 : decode cX4_patch 10 = .ok (.getfield 12, 3) := by decide +kernel
theorem dX4_patch_13 : decode cX4_patch 13 = .ok (.iconst 0, 1) := by decide +kernel
theorem dX4_patch_14 : decode cX4_patch 14 = .ok (.putfield 104, 3) := by decide +kernel
theorem dX4_patch_17 : decode cX4_patch 17 = .ok (.aload_n 0, 1) := by decide +kernel
theorem dX4_patch_18 : decode cX4_patch 18 = .ok (.getfield 12, 3) := by decide +kernel
theorem dX4_patch_21 : decode cX4_patch 21 = .ok (.aload_n 0, 1) := by decide +kernel
theorem dX4_patch_22 : decode cX4_patch 22 = .ok (.getfield 19, 3) := by decide +kernel
theorem dX4_patch_25 : decode cX4_patch 25 = .ok (.iconst 0, 1) := by decide +kernel
theorem dX4_patch_26 : decode cX4_patch 26 = .ok (.aload_n 0, 1) := by decide +kernel
theorem dX4_patch_27 : decode cX4_patch 27 = .ok (.getfield 19, 3) := by decide +kernel
theorem dX4_patch_30 : decode cX4_patch 30 = .ok (.getfield 104, 3) := by decide +kernel
theorem dX4_patch_33 : decode cX4_patch 33 = .ok (.invokevirtual 163, 3) := by decide +kernel
theorem dX4_patch_36 : decode cX4_patch 36 = .ok (.aload_n 0, 1) := by decide +kernel
theorem dX4_patch_37 : decode cX4_patch 37 = .ok (.getfield 12, 3) := by decide +kernel
theorem dX4_patch_40 : decode cX4_patch 40 = .ok (.getfield 104, 3) := by decide +kernel
theorem dX4_patch_43 : decode cX4_patch 43 = .ok (.ireturn, 1) := by decide +kernel
theorem dX4_same_0 : decode cX4_same 0 = .ok (.aload_n 0, 1) := by decide +kernel
theorem dX4_same_1 : decode cX4_same 1 = .ok (.getfield 12, 3) := by decide +kernel
theorem dX4_same_4 : decode cX4_same 4 = .ok (.getfield 104, 3) := by decide +kernel
theorem dX4_same_7 : decode cX4_same 7 = .ok (.aload_n 0, 1) := by decide +kernel
theorem dX4_same_8 : decode cX4_same 8 = .ok (.getfield 16, 3) := by decide +kernel
theorem dX4_same_11 : decode cX4_same 11 = .ok (.getfield 104, 3) := by decide +kernel
theorem dX4_same_14 : decode cX4_same 14 = .ok (.if_icmp .eq 5, 3) := by decide +kernel
theorem dX4_same_17 : decode cX4_same 17 = .ok (.iconst 0, 1) := by decide +kernel
theorem dX4_same_18 : decode cX4_same 18 = .ok (.ireturn, 1) := by decide +kernel
theorem dX4_same_19 : decode cX4_same 19 = .ok (.iconst 0, 1) := by decide +kernel
theorem dX4_same_20 : decode cX4_same 20 = .ok (.istore_n 1, 1) := by decide +kernel
theorem dX4_same_21 : decode cX4_same 21 = .ok (.iload_n 1, 1) := by decide +kernel
theorem dX4_same_22 : decode cX4_same 22 = .ok (.aload_n 0, 1) := by decide +kernel
theorem dX4_same_23 : decode cX4_same 23 = .ok (.getfield 12, 3) := by decide +kernel
theorem dX4_same_26 : decode cX4_same 26 = .ok (.getfield 104, 3) := by decide +kernel
theorem dX4_same_29 : decode cX4_same 29 = .ok (.if_icmp .ge 32, 3) := by decide +kernel
theorem dX4_same_32 : decode cX4_same 32 = .ok (.aload_n 0, 1) := by decide +kernel
theorem dX4_same_33 : decode cX4_same 33 = .ok (.getfield 12, 3) := by decide +kernel
theorem dX4_same_36 : decode cX4_same 36 = .ok (.getfield 82, 3) := by decide +kernel
theorem dX4_same_39 : decode cX4_same 39 = .ok (.iload_n 1, 1) := by decide +kernel
theorem dX4_same_40 : decode cX4_same 40 = .ok (.iaload, 1) := by decide +kernel
theorem dX4_same_41 : decode cX4_same 41 = .ok (.aload_n 0, 1) := by decide +kernel
theorem dX4_same_42 : decode cX4_same 42 = .ok (.getfield 16, 3) := by decide +kernel
theorem dX4_same_45 : decode cX4_same 45 = .ok (.getfield 82, 3) := by decide +kernel
theorem dX4_same_48 : decode cX4_same 48 = .ok (.iload_n 1, 1) := by decide +kernel
theorem dX4_same_49 : decode cX4_same 49 = .ok (.iaload, 1) := by decide +kernel
theorem dX4_same_50 : decode cX4_same 50 = .ok (.if_icmp .eq 5, 3) := by decide +kernel
theorem dX4_same_53 : decode cX4_same 53 = .ok (.iconst 0, 1) := by decide +kernel
theorem dX4_same_54 : decode cX4_same 54 = .ok (.ireturn, 1) := by decide +kernel
theorem dX4_same_55 : decode cX4_same 55 = .ok (.iinc 1 1, 3) := by decide +kernel
theorem dX4_same_58 : decode cX4_same 58 = .ok (.goto (-37), 3) := by decide +kernel
theorem dX4_same_61 : decode cX4_same 61 = .ok (.iconst 1, 1) := by decide +kernel
theorem dX4_same_62 : decode cX4_same 62 = .ok (.ireturn, 1) := by decide +kernel
theorem dX4_count_0 : decode cX4_count 0 = .ok (.iload_n 1, 1) := by decide +kernel
theorem dX4_count_1 : decode cX4_count 1 = .ok (.ifCond .lt 8, 3) := by decide +kernel
theorem dX4_count_4 : decode cX4_count 4 = .ok (.iload_n 1, 1) := by decide +kernel
theorem dX4_count_5 : decode cX4_count 5 = .ok (.iconst 2, 1) := by decide +kernel
theorem dX4_count_6 : decode cX4_count 6 = .ok (.if_icmp .le 13, 3) := by decide +kernel
theorem dX4_count_9 : decode cX4_count 9 = .ok (.new 56, 3) := by decide +kernel
theorem dX4_count_12 : decode cX4_count 12 = .ok (.dup, 1) := by decide +kernel
theorem dX4_count_13 : decode cX4_count 13 = .ok (.ldc 166, 2) := by decide +kernel
theorem dX4_count_15 : decode cX4_count 15 = .ok (.invokespecial 60, 3) := by decide +kernel
theorem dX4_count_18 : decode cX4_count 18 = .ok (.athrow, 1) := by decide +kernel
theorem dX4_count_19 : decode cX4_count 19 = .ok (.iload_n 1, 1) := by decide +kernel
theorem dX4_count_20 : decode cX4_count 20 = .ok (.ifCond .ne 11, 3) := by decide +kernel
theorem dX4_count_23 : decode cX4_count 23 = .ok (.aload_n 0, 1) := by decide +kernel
theorem dX4_count_24 : decode cX4_count 24 = .ok (.getfield 12, 3) := by decide +kernel
theorem dX4_count_27 : decode cX4_count 27 = .ok (.getfield 104, 3) := by decide +kernel
theorem dX4_count_30 : decode cX4_count 30 = .ok (.ireturn, 1) := by decide +kernel
theorem dX4_count_31 : decode cX4_count 31 = .ok (.iload_n 1, 1) := by decide +kernel
theorem dX4_count_32 : decode cX4_count 32 = .ok (.iconst 1, 1) := by decide +kernel
theorem dX4_count_33 : decode cX4_count 33 = .ok (.if_icmp .ne 13, 3) := by decide +kernel
theorem dX4_count_36 : decode cX4_count 36 = .ok (.aload_n 0, 1) := by decide +kernel
theorem dX4_count_37 : decode cX4_count 37 = .ok (.getfield 16, 3) := by decide +kernel
theorem dX4_count_40 : decode cX4_count 40 = .ok (.getfield 104, 3) := by decide +kernel
theorem dX4_count_43 : decode cX4_count 43 = .ok (.goto 10, 3) := by decide +kernel
theorem dX4_count_46 : decode cX4_count 46 = .ok (.aload_n 0, 1) := by decide +kernel
theorem dX4_count_47 : decode cX4_count 47 = .ok (.getfield 44, 3) := by decide +kernel
theorem dX4_count_50 : decode cX4_count 50 = .ok (.getfield 147, 3) := by decide +kernel
theorem dX4_count_53 : decode cX4_count 53 = .ok (.ireturn, 1) := by decide +kernel
theorem dX4_row_0 : decode cX4_row 0 = .ok (.iload_n 1, 1) := by decide +kernel
theorem dX4_row_1 : decode cX4_row 1 = .ok (.ifCond .ne 10, 3) := by decide +kernel
theorem dX4_row_4 : decode cX4_row 4 = .ok (.aload_n 0, 1) := by decide +kernel
theorem dX4_row_5 : decode cX4_row 5 = .ok (.getfield 12, 3) := by decide +kernel
theorem dX4_row_8 : decode cX4_row 8 = .ok (.goto 7, 3) := by decide +kernel
theorem dX4_row_11 : decode cX4_row 11 = .ok (.aload_n 0, 1) := by decide +kernel
theorem dX4_row_12 : decode cX4_row 12 = .ok (.getfield 16, 3) := by decide +kernel
theorem dX4_row_15 : decode cX4_row 15 = .ok (.areturn, 1) := by decide +kernel
theorem dX4_checkRow_0 : decode cX4_checkRow 0 = .ok (.iload_n 0, 1) := by decide +kernel
theorem dX4_checkRow_1 : decode cX4_checkRow 1 = .ok (.ifCond .eq 18, 3) := by decide +kernel
theorem dX4_checkRow_4 : decode cX4_checkRow 4 = .ok (.iload_n 0, 1) := by decide +kernel
theorem dX4_checkRow_5 : decode cX4_checkRow 5 = .ok (.iconst 1, 1) := by decide +kernel
theorem dX4_checkRow_6 : decode cX4_checkRow 6 = .ok (.if_icmp .eq 13, 3) := by decide +kernel
theorem dX4_checkRow_9 : decode cX4_checkRow 9 = .ok (.new 56, 3) := by decide +kernel
theorem dX4_checkRow_12 : decode cX4_checkRow 12 = .ok (.dup, 1) := by decide +kernel
theorem dX4_checkRow_13 : decode cX4_checkRow 13 = .ok (.ldc 168, 2) := by decide +kernel
theorem dX4_checkRow_15 : decode cX4_checkRow 15 = .ok (.invokespecial 60, 3) := by decide +kernel
theorem dX4_checkRow_18 : decode cX4_checkRow 18 = .ok (.athrow, 1) := by decide +kernel
theorem dX4_checkRow_19 : decode cX4_checkRow 19 = .ok (.return_, 1) := by decide +kernel
theorem dX4_checkOctet_0 : decode cX4_checkOctet 0 = .ok (.iload_n 1, 1) := by decide +kernel
theorem dX4_checkOctet_1 : decode cX4_checkOctet 1 = .ok (.ifCond .lt 11, 3) := by decide +kernel
theorem dX4_checkOctet_4 : decode cX4_checkOctet 4 = .ok (.iload_n 1, 1) := by decide +kernel
theorem dX4_checkOctet_5 : decode cX4_checkOctet 5 = .ok (.aload_n 0, 1) := by decide +kernel
theorem dX4_checkOctet_6 : decode cX4_checkOctet 6 = .ok (.getfield 104, 3) := by decide +kernel
theorem dX4_checkOctet_9 : decode cX4_checkOctet 9 = .ok (.if_icmp .lt 13, 3) := by decide +kernel
theorem dX4_checkOctet_12 : decode cX4_checkOctet 12 = .ok (.new 111, 3) := by decide +kernel
theorem dX4_checkOctet_15 : decode cX4_checkOctet 15 = .ok (.dup, 1) := by decide +kernel
theorem dX4_checkOctet_16 : decode cX4_checkOctet 16 = .ok (.ldc 170, 2) := by decide +kernel
theorem dX4_checkOctet_18 : decode cX4_checkOctet 18 = .ok (.invokespecial 115, 3) := by decide +kernel
theorem dX4_checkOctet_21 : decode cX4_checkOctet 21 = .ok (.athrow, 1) := by decide +kernel
theorem dX4_checkOctet_22 : decode cX4_checkOctet 22 = .ok (.return_, 1) := by decide +kernel
theorem dX4_checkRange_0 : decode cX4_checkRange 0 = .ok (.iload_n 1, 1) := by decide +kernel
theorem dX4_checkRange_1 : decode cX4_checkRange 1 = .ok (.ifCond .lt 17, 3) := by decide +kernel
theorem dX4_checkRange_4 : decode cX4_checkRange 4 = .ok (.iload_n 2, 1) := by decide +kernel
theorem dX4_checkRange_5 : decode cX4_checkRange 5 = .ok (.ifCond .lt 13, 3) := by decide +kernel
theorem dX4_checkRange_8 : decode cX4_checkRange 8 = .ok (.iload_n 1, 1) := by decide +kernel
theorem dX4_checkRange_9 : decode cX4_checkRange 9 = .ok (.aload_n 0, 1) := by decide +kernel
theorem dX4_checkRange_10 : decode cX4_checkRange 10 = .ok (.getfield 104, 3) := by decide +kernel
theorem dX4_checkRange_13 : decode cX4_checkRange 13 = .ok (.iload_n 2, 1) := by decide +kernel
theorem dX4_checkRange_14 : decode cX4_checkRange 14 = .ok (.isub, 1) := by decide +kernel
theorem dX4_checkRange_15 : decode cX4_checkRange 15 = .ok (.if_icmp .le 13, 3) := by decide +kernel
theorem dX4_checkRange_18 : decode cX4_checkRange 18 = .ok (.new 111, 3) := by decide +kernel
theorem dX4_checkRange_21 : decode cX4_checkRange 21 = .ok (.dup, 1) := by decide +kernel
theorem dX4_checkRange_22 : decode cX4_checkRange 22 = .ok (.ldc 172, 2) := by decide +kernel
theorem dX4_checkRange_24 : decode cX4_checkRange 24 = .ok (.invokespecial 115, 3) := by decide +kernel
theorem dX4_checkRange_27 : decode cX4_checkRange 27 = .ok (.athrow, 1) := by decide +kernel
theorem dX4_checkRange_28 : decode cX4_checkRange 28 = .ok (.return_, 1) := by decide +kernel
theorem dX4_checkBlocks_0 : decode cX4_checkBlocks 0 = .ok (.iload_n 0, 1) := by decide +kernel
theorem dX4_checkBlocks_1 : decode cX4_checkBlocks 1 = .ok (.iconst 4, 1) := by decide +kernel
theorem dX4_checkBlocks_2 : decode cX4_checkBlocks 2 = .ok (.if_icmp .lt 10, 3) := by decide +kernel
theorem dX4_checkBlocks_5 : decode cX4_checkBlocks 5 = .ok (.iload_n 0, 1) := by decide +kernel
theorem dX4_checkBlocks_6 : decode cX4_checkBlocks 6 = .ok (.sipush 256, 3) := by decide +kernel
theorem dX4_checkBlocks_9 : decode cX4_checkBlocks 9 = .ok (.if_icmp .le 13, 3) := by decide +kernel
theorem dX4_checkBlocks_12 : decode cX4_checkBlocks 12 = .ok (.new 56, 3) := by decide +kernel
theorem dX4_checkBlocks_15 : decode cX4_checkBlocks 15 = .ok (.dup, 1) := by decide +kernel
theorem dX4_checkBlocks_16 : decode cX4_checkBlocks 16 = .ok (.ldc 174, 2) := by decide +kernel
theorem dX4_checkBlocks_18 : decode cX4_checkBlocks 18 = .ok (.invokespecial 60, 3) := by decide +kernel
theorem dX4_checkBlocks_21 : decode cX4_checkBlocks 21 = .ok (.athrow, 1) := by decide +kernel
theorem dX4_checkBlocks_22 : decode cX4_checkBlocks 22 = .ok (.iload_n 1, 1) := by decide +kernel
theorem dX4_checkBlocks_23 : decode cX4_checkBlocks 23 = .ok (.ifCond .lt 9, 3) := by decide +kernel
theorem dX4_checkBlocks_26 : decode cX4_checkBlocks 26 = .ok (.iload_n 1, 1) := by decide +kernel
theorem dX4_checkBlocks_27 : decode cX4_checkBlocks 27 = .ok (.bipush 64, 2) := by decide +kernel
theorem dX4_checkBlocks_29 : decode cX4_checkBlocks 29 = .ok (.if_icmp .le 13, 3) := by decide +kernel
theorem dX4_checkBlocks_32 : decode cX4_checkBlocks 32 = .ok (.new 56, 3) := by decide +kernel
theorem dX4_checkBlocks_35 : decode cX4_checkBlocks 35 = .ok (.dup, 1) := by decide +kernel
theorem dX4_checkBlocks_36 : decode cX4_checkBlocks 36 = .ok (.ldc 176, 2) := by decide +kernel
theorem dX4_checkBlocks_38 : decode cX4_checkBlocks 38 = .ok (.invokespecial 60, 3) := by decide +kernel
theorem dX4_checkBlocks_41 : decode cX4_checkBlocks 41 = .ok (.athrow, 1) := by decide +kernel
theorem dX4_checkBlocks_42 : decode cX4_checkBlocks 42 = .ok (.return_, 1) := by decide +kernel
end
section
theorem dX4_blockCount_0 : decode cX4_blockCount 0 = .ok (.iload_n 0, 1) := by decide +kernel
theorem dX4_blockCount_1 : decode cX4_blockCount 1 = .ok (.iload_n 1, 1) := by decide +kernel
theorem dX4_blockCount_2 : decode cX4_blockCount 2 = .ok (.iadd, 1) := by decide +kernel
theorem dX4_blockCount_3 : decode cX4_blockCount 3 = .ok (.iconst 1, 1) := by decide +kernel
theorem dX4_blockCount_4 : decode cX4_blockCount 4 = .ok (.isub, 1) := by decide +kernel
theorem dX4_blockCount_5 : decode cX4_blockCount 5 = .ok (.iload_n 1, 1) := by decide +kernel
theorem dX4_blockCount_6 : decode cX4_blockCount 6 = .ok (.idiv, 1) := by decide +kernel
theorem dX4_blockCount_7 : decode cX4_blockCount 7 = .ok (.ireturn, 1) := by decide +kernel
theorem dX4_strongMask_0 : decode cX4_strongMask 0 = .ok (.iload_n 0, 1) := by decide +kernel
theorem dX4_strongMask_1 : decode cX4_strongMask 1 = .ok (.bipush 64, 2) := by decide +kernel
theorem dX4_strongMask_3 : decode cX4_strongMask 3 = .ok (.if_icmp .ne 9, 3) := by decide +kernel
theorem dX4_strongMask_6 : decode cX4_strongMask 6 = .ok (.ldc2_w 178, 3) := by decide +kernel
theorem dX4_strongMask_9 : decode cX4_strongMask 9 = .ok (.goto 8, 3) := by decide +kernel
theorem dX4_strongMask_12 : decode cX4_strongMask 12 = .ok (.lconst 1, 1) := by decide +kernel
theorem dX4_strongMask_13 : decode cX4_strongMask 13 = .ok (.iload_n 0, 1) := by decide +kernel
theorem dX4_strongMask_14 : decode cX4_strongMask 14 = .ok (.lshl, 1) := by decide +kernel
theorem dX4_strongMask_15 : decode cX4_strongMask 15 = .ok (.lconst 1, 1) := by decide +kernel
theorem dX4_strongMask_16 : decode cX4_strongMask 16 = .ok (.lsub, 1) := by decide +kernel
theorem dX4_strongMask_17 : decode cX4_strongMask 17 = .ok (.lreturn, 1) := by decide +kernel
theorem dX4_firstPlace_0 : decode cX4_firstPlace 0 = .ok (.aload_n 0, 1) := by decide +kernel
theorem dX4_firstPlace_1 : decode cX4_firstPlace 1 = .ok (.getfield 12, 3) := by decide +kernel
theorem dX4_firstPlace_4 : decode cX4_firstPlace 4 = .ok (.iload_n 1, 1) := by decide +kernel
theorem dX4_firstPlace_5 : decode cX4_firstPlace 5 = .ok (.iload_n 2, 1) := by decide +kernel
theorem dX4_firstPlace_6 : decode cX4_firstPlace 6 = .ok (.invokevirtual 92, 3) := by decide +kernel
theorem dX4_firstPlace_9 : decode cX4_firstPlace 9 = .ok (.istore 6, 2) := by decide +kernel
theorem dX4_firstPlace_11 : decode cX4_firstPlace 11 = .ok (.aload_n 0, 1) := by decide +kernel
theorem dX4_firstPlace_12 : decode cX4_firstPlace 12 = .ok (.getfield 12, 3) := by decide +kernel
theorem dX4_firstPlace_15 : decode cX4_firstPlace 15 = .ok (.iload_n 1, 1) := by decide +kernel
theorem dX4_firstPlace_16 : decode cX4_firstPlace 16 = .ok (.iload_n 2, 1) := by decide +kernel
theorem dX4_firstPlace_17 : decode cX4_firstPlace 17 = .ok (.invokevirtual 96, 3) := by decide +kernel
theorem dX4_firstPlace_20 : decode cX4_firstPlace 20 = .ok (.lstore 7, 2) := by decide +kernel
theorem dX4_firstPlace_22 : decode cX4_firstPlace 22 = .ok (.aload_n 0, 1) := by decide +kernel
theorem dX4_firstPlace_23 : decode cX4_firstPlace 23 = .ok (.getfield 34, 3) := by decide +kernel
theorem dX4_firstPlace_26 : decode cX4_firstPlace 26 = .ok (.iload_n 2, 1) := by decide +kernel
theorem dX4_firstPlace_27 : decode cX4_firstPlace 27 = .ok (.invokevirtual 134, 3) := by decide +kernel
theorem dX4_firstPlace_30 : decode cX4_firstPlace 30 = .ok (.iload 5, 2) := by decide +kernel
theorem dX4_firstPlace_32 : decode cX4_firstPlace 32 = .ok (.istore 9, 2) := by decide +kernel
theorem dX4_firstPlace_34 : decode cX4_firstPlace 34 = .ok (.iload 9, 2) := by decide +kernel
theorem dX4_firstPlace_36 : decode cX4_firstPlace 36 = .ok (.aload_n 0, 1) := by decide +kernel
theorem dX4_firstPlace_37 : decode cX4_firstPlace 37 = .ok (.getfield 16, 3) := by decide +kernel
theorem dX4_firstPlace_40 : decode cX4_firstPlace 40 = .ok (.getfield 104, 3) := by decide +kernel
theorem dX4_firstPlace_43 : decode cX4_firstPlace 43 = .ok (.iload_n 2, 1) := by decide +kernel
theorem dX4_firstPlace_44 : decode cX4_firstPlace 44 = .ok (.isub, 1) := by decide +kernel
theorem dX4_firstPlace_45 : decode cX4_firstPlace 45 = .ok (.if_icmp .gt 36, 3) := by decide +kernel
theorem dX4_firstPlace_48 : decode cX4_firstPlace 48 = .ok (.aload_n 0, 1) := by decide +kernel
theorem dX4_firstPlace_49 : decode cX4_firstPlace 49 = .ok (.getfield 34, 3) := by decide +kernel
theorem dX4_firstPlace_52 : decode cX4_firstPlace 52 = .ok (.iload 9, 2) := by decide +kernel
theorem dX4_firstPlace_54 : decode cX4_firstPlace 54 = .ok (.invokevirtual 180, 3) := by decide +kernel
theorem dX4_firstPlace_57 : decode cX4_firstPlace 57 = .ok (.aload_n 0, 1) := by decide +kernel
theorem dX4_firstPlace_58 : decode cX4_firstPlace 58 = .ok (.getfield 34, 3) := by decide +kernel
theorem dX4_firstPlace_61 : decode cX4_firstPlace 61 = .ok (.iload 6, 2) := by decide +kernel
theorem dX4_firstPlace_63 : decode cX4_firstPlace 63 = .ok (.lload 7, 2) := by decide +kernel
theorem dX4_firstPlace_65 : decode cX4_firstPlace 65 = .ok (.lload_n 3, 1) := by decide +kernel
theorem dX4_firstPlace_66 : decode cX4_firstPlace 66 = .ok (.invokevirtual 183, 3) := by decide +kernel
theorem dX4_firstPlace_69 : decode cX4_firstPlace 69 = .ok (.ifCond .eq 6, 3) := by decide +kernel
theorem dX4_firstPlace_72 : decode cX4_firstPlace 72 = .ok (.iload 9, 2) := by decide +kernel
theorem dX4_firstPlace_74 : decode cX4_firstPlace 74 = .ok (.ireturn, 1) := by decide +kernel
theorem dX4_firstPlace_75 : decode cX4_firstPlace 75 = .ok (.iinc 9 1, 3) := by decide +kernel
theorem dX4_firstPlace_78 : decode cX4_firstPlace 78 = .ok (.goto (-44), 3) := by decide +kernel
theorem dX4_firstPlace_81 : decode cX4_firstPlace 81 = .ok (.iconst (-1), 1) := by decide +kernel
theorem dX4_firstPlace_82 : decode cX4_firstPlace 82 = .ok (.ireturn, 1) := by decide +kernel
theorem dX4_makeDelta_0 : decode cX4_makeDelta 0 = .ok (.iconst 0, 1) := by decide +kernel
theorem dX4_makeDelta_1 : decode cX4_makeDelta 1 = .ok (.istore_n 3, 1) := by decide +kernel
theorem dX4_makeDelta_2 : decode cX4_makeDelta 2 = .ok (.iconst (-1), 1) := by decide +kernel
theorem dX4_makeDelta_3 : decode cX4_makeDelta 3 = .ok (.istore 4, 2) := by decide +kernel
theorem dX4_makeDelta_5 : decode cX4_makeDelta 5 = .ok (.iconst 0, 1) := by decide +kernel
theorem dX4_makeDelta_6 : decode cX4_makeDelta 6 = .ok (.istore 5, 2) := by decide +kernel
theorem dX4_makeDelta_8 : decode cX4_makeDelta 8 = .ok (.iload 5, 2) := by decide +kernel
theorem dX4_makeDelta_10 : decode cX4_makeDelta 10 = .ok (.sipush 1200, 3) := by decide +kernel
theorem dX4_makeDelta_13 : decode cX4_makeDelta 13 = .ok (.if_icmp .ge 119, 3) := by decide +kernel
theorem dX4_makeDelta_16 : decode cX4_makeDelta 16 = .ok (.iload_n 3, 1) := by decide +kernel
theorem dX4_makeDelta_17 : decode cX4_makeDelta 17 = .ok (.aload_n 0, 1) := by decide +kernel
theorem dX4_makeDelta_18 : decode cX4_makeDelta 18 = .ok (.getfield 16, 3) := by decide +kernel
theorem dX4_makeDelta_21 : decode cX4_makeDelta 21 = .ok (.getfield 104, 3) := by decide +kernel
theorem dX4_makeDelta_24 : decode cX4_makeDelta 24 = .ok (.if_icmp .ge 108, 3) := by decide +kernel
theorem dX4_makeDelta_27 : decode cX4_makeDelta 27 = .ok (.aload_n 0, 1) := by decide +kernel
theorem dX4_makeDelta_28 : decode cX4_makeDelta 28 = .ok (.iload_n 3, 1) := by decide +kernel
theorem dX4_makeDelta_29 : decode cX4_makeDelta 29 = .ok (.iload 4, 2) := by decide +kernel
theorem dX4_makeDelta_31 : decode cX4_makeDelta 31 = .ok (.lload_n 1, 1) := by decide +kernel
theorem dX4_makeDelta_32 : decode cX4_makeDelta 32 = .ok (.invokevirtual 187, 3) := by decide +kernel
theorem dX4_makeDelta_35 : decode cX4_makeDelta 35 = .ok (.istore 6, 2) := by decide +kernel
theorem dX4_makeDelta_37 : decode cX4_makeDelta 37 = .ok (.iload 6, 2) := by decide +kernel
theorem dX4_makeDelta_39 : decode cX4_makeDelta 39 = .ok (.iconst (-1), 1) := by decide +kernel
theorem dX4_makeDelta_40 : decode cX4_makeDelta 40 = .ok (.if_icmp .ne 31, 3) := by decide +kernel
theorem dX4_makeDelta_43 : decode cX4_makeDelta 43 = .ok (.aload_n 0, 1) := by decide +kernel
theorem dX4_makeDelta_44 : decode cX4_makeDelta 44 = .ok (.getfield 44, 3) := by decide +kernel
theorem dX4_makeDelta_47 : decode cX4_makeDelta 47 = .ok (.iconst 1, 1) := by decide +kernel
theorem dX4_makeDelta_48 : decode cX4_makeDelta 48 = .ok (.iload_n 3, 1) := by decide +kernel
theorem dX4_makeDelta_49 : decode cX4_makeDelta 49 = .ok (.invokevirtual 191, 3) := by decide +kernel
theorem dX4_makeDelta_52 : decode cX4_makeDelta 52 = .ok (.aload_n 0, 1) := by decide +kernel
theorem dX4_makeDelta_53 : decode cX4_makeDelta 53 = .ok (.getfield 19, 3) := by decide +kernel
theorem dX4_makeDelta_56 : decode cX4_makeDelta 56 = .ok (.aload_n 0, 1) := by decide +kernel
theorem dX4_makeDelta_57 : decode cX4_makeDelta 57 = .ok (.getfield 16, 3) := by decide +kernel
theorem dX4_makeDelta_60 : decode cX4_makeDelta 60 = .ok (.iload_n 3, 1) := by decide +kernel
theorem dX4_makeDelta_61 : decode cX4_makeDelta 61 = .ok (.iconst 1, 1) := by decide +kernel
theorem dX4_makeDelta_62 : decode cX4_makeDelta 62 = .ok (.invokevirtual 163, 3) := by decide +kernel
theorem dX4_makeDelta_65 : decode cX4_makeDelta 65 = .ok (.iinc 3 1, 3) := by decide +kernel
theorem dX4_makeDelta_68 : decode cX4_makeDelta 68 = .ok (.goto 54, 3) := by decide +kernel
theorem dX4_makeDelta_71 : decode cX4_makeDelta 71 = .ok (.aload_n 0, 1) := by decide +kernel
theorem dX4_makeDelta_72 : decode cX4_makeDelta 72 = .ok (.getfield 44, 3) := by decide +kernel
theorem dX4_makeDelta_75 : decode cX4_makeDelta 75 = .ok (.iconst 0, 1) := by decide +kernel
theorem dX4_makeDelta_76 : decode cX4_makeDelta 76 = .ok (.iload 6, 2) := by decide +kernel
theorem dX4_makeDelta_78 : decode cX4_makeDelta 78 = .ok (.invokevirtual 191, 3) := by decide +kernel
theorem dX4_makeDelta_81 : decode cX4_makeDelta 81 = .ok (.aload_n 0, 1) := by decide +kernel
theorem dX4_makeDelta_82 : decode cX4_makeDelta 82 = .ok (.getfield 19, 3) := by decide +kernel
theorem dX4_makeDelta_85 : decode cX4_makeDelta 85 = .ok (.aload_n 0, 1) := by decide +kernel
theorem dX4_makeDelta_86 : decode cX4_makeDelta 86 = .ok (.getfield 12, 3) := by decide +kernel
theorem dX4_makeDelta_89 : decode cX4_makeDelta 89 = .ok (.aload_n 0, 1) := by decide +kernel
theorem dX4_makeDelta_90 : decode cX4_makeDelta 90 = .ok (.getfield 27, 3) := by decide +kernel
theorem dX4_makeDelta_93 : decode cX4_makeDelta 93 = .ok (.iload 6, 2) := by decide +kernel
theorem dX4_makeDelta_95 : decode cX4_makeDelta 95 = .ok (.invokevirtual 194, 3) := by decide +kernel
theorem dX4_makeDelta_98 : decode cX4_makeDelta 98 = .ok (.aload_n 0, 1) := by decide +kernel
theorem dX4_makeDelta_99 : decode cX4_makeDelta 99 = .ok (.getfield 27, 3) := by decide +kernel
theorem dX4_makeDelta_102 : decode cX4_makeDelta 102 = .ok (.iload 6, 2) := by decide +kernel
theorem dX4_makeDelta_104 : decode cX4_makeDelta 104 = .ok (.invokevirtual 198, 3) := by decide +kernel
theorem dX4_makeDelta_107 : decode cX4_makeDelta 107 = .ok (.invokevirtual 163, 3) := by decide +kernel
theorem dX4_makeDelta_110 : decode cX4_makeDelta 110 = .ok (.iload_n 3, 1) := by decide +kernel
theorem dX4_makeDelta_111 : decode cX4_makeDelta 111 = .ok (.aload_n 0, 1) := by decide +kernel
theorem dX4_makeDelta_112 : decode cX4_makeDelta 112 = .ok (.getfield 27, 3) := by decide +kernel
theorem dX4_makeDelta_115 : decode cX4_makeDelta 115 = .ok (.iload 6, 2) := by decide +kernel
theorem dX4_makeDelta_117 : decode cX4_makeDelta 117 = .ok (.invokevirtual 198, 3) := by decide +kernel
theorem dX4_makeDelta_120 : decode cX4_makeDelta 120 = .ok (.iadd, 1) := by decide +kernel
theorem dX4_makeDelta_121 : decode cX4_makeDelta 121 = .ok (.istore_n 3, 1) := by decide +kernel
theorem dX4_makeDelta_122 : decode cX4_makeDelta 122 = .ok (.iload 6, 2) := by decide +kernel
theorem dX4_makeDelta_124 : decode cX4_makeDelta 124 = .ok (.istore 4, 2) := by decide +kernel
theorem dX4_makeDelta_126 : decode cX4_makeDelta 126 = .ok (.iinc 5 1, 3) := by decide +kernel
theorem dX4_makeDelta_129 : decode cX4_makeDelta 129 = .ok (.goto (-121), 3) := by decide +kernel
theorem dX4_makeDelta_132 : decode cX4_makeDelta 132 = .ok (.return_, 1) := by decide +kernel
theorem dX4_blockAt_0 : decode cX4_blockAt 0 = .ok (.aload_n 0, 1) := by decide +kernel
theorem dX4_blockAt_1 : decode cX4_blockAt 1 = .ok (.getfield 34, 3) := by decide +kernel
theorem dX4_blockAt_4 : decode cX4_blockAt 4 = .ok (.iload_n 1, 1) := by decide +kernel
theorem dX4_blockAt_5 : decode cX4_blockAt 5 = .ok (.invokevirtual 180, 3) := by decide +kernel
theorem dX4_blockAt_8 : decode cX4_blockAt 8 = .ok (.aload_n 0, 1) := by decide +kernel
theorem dX4_blockAt_9 : decode cX4_blockAt 9 = .ok (.getfield 38, 3) := by decide +kernel
theorem dX4_blockAt_12 : decode cX4_blockAt 12 = .ok (.iload_n 1, 1) := by decide +kernel
theorem dX4_blockAt_13 : decode cX4_blockAt 13 = .ok (.invokevirtual 180, 3) := by decide +kernel
theorem dX4_blockAt_16 : decode cX4_blockAt 16 = .ok (.iload_n 2, 1) := by decide +kernel
theorem dX4_blockAt_17 : decode cX4_blockAt 17 = .ok (.iconst (-1), 1) := by decide +kernel
theorem dX4_blockAt_18 : decode cX4_blockAt 18 = .ok (.if_icmp .eq 31, 3) := by decide +kernel
theorem dX4_blockAt_21 : decode cX4_blockAt 21 = .ok (.iload_n 2, 1) := by decide +kernel
theorem dX4_blockAt_22 : decode cX4_blockAt 22 = .ok (.iconst 1, 1) := by decide +kernel
theorem dX4_blockAt_23 : decode cX4_blockAt 23 = .ok (.iadd, 1) := by decide +kernel
theorem dX4_blockAt_24 : decode cX4_blockAt 24 = .ok (.aload_n 0, 1) := by decide +kernel
theorem dX4_blockAt_25 : decode cX4_blockAt 25 = .ok (.getfield 27, 3) := by decide +kernel
theorem dX4_blockAt_28 : decode cX4_blockAt 28 = .ok (.getfield 200, 3) := by decide +kernel
theorem dX4_blockAt_31 : decode cX4_blockAt 31 = .ok (.if_icmp .ge 18, 3) := by decide +kernel
theorem dX4_blockAt_34 : decode cX4_blockAt 34 = .ok (.aload_n 0, 1) := by decide +kernel
theorem dX4_blockAt_35 : decode cX4_blockAt 35 = .ok (.iload_n 2, 1) := by decide +kernel
theorem dX4_blockAt_36 : decode cX4_blockAt 36 = .ok (.iconst 1, 1) := by decide +kernel
theorem dX4_blockAt_37 : decode cX4_blockAt 37 = .ok (.iadd, 1) := by decide +kernel
theorem dX4_blockAt_38 : decode cX4_blockAt 38 = .ok (.lload_n 3, 1) := by decide +kernel
theorem dX4_blockAt_39 : decode cX4_blockAt 39 = .ok (.invokevirtual 201, 3) := by decide +kernel
theorem dX4_blockAt_42 : decode cX4_blockAt 42 = .ok (.ifCond .eq 7, 3) := by decide +kernel
theorem dX4_blockAt_45 : decode cX4_blockAt 45 = .ok (.iload_n 2, 1) := by decide +kernel
theorem dX4_blockAt_46 : decode cX4_blockAt 46 = .ok (.iconst 1, 1) := by decide +kernel
theorem dX4_blockAt_47 : decode cX4_blockAt 47 = .ok (.iadd, 1) := by decide +kernel
theorem dX4_blockAt_48 : decode cX4_blockAt 48 = .ok (.ireturn, 1) := by decide +kernel
theorem dX4_blockAt_49 : decode cX4_blockAt 49 = .ok (.iconst 0, 1) := by decide +kernel
theorem dX4_blockAt_50 : decode cX4_blockAt 50 = .ok (.istore 5, 2) := by decide +kernel
theorem dX4_blockAt_52 : decode cX4_blockAt 52 = .ok (.iload 5, 2) := by decide +kernel
theorem dX4_blockAt_54 : decode cX4_blockAt 54 = .ok (.aload_n 0, 1) := by decide +kernel
theorem dX4_blockAt_55 : decode cX4_blockAt 55 = .ok (.getfield 27, 3) := by decide +kernel
theorem dX4_blockAt_58 : decode cX4_blockAt 58 = .ok (.getfield 200, 3) := by decide +kernel
theorem dX4_blockAt_61 : decode cX4_blockAt 61 = .ok (.if_icmp .ge 22, 3) := by decide +kernel
theorem dX4_blockAt_64 : decode cX4_blockAt 64 = .ok (.aload_n 0, 1) := by decide +kernel
theorem dX4_blockAt_65 : decode cX4_blockAt 65 = .ok (.iload 5, 2) := by decide +kernel
theorem dX4_blockAt_67 : decode cX4_blockAt 67 = .ok (.lload_n 3, 1) := by decide +kernel
theorem dX4_blockAt_68 : decode cX4_blockAt 68 = .ok (.invokevirtual 201, 3) := by decide +kernel
theorem dX4_blockAt_71 : decode cX4_blockAt 71 = .ok (.ifCond .eq 6, 3) := by decide +kernel
theorem dX4_blockAt_74 : decode cX4_blockAt 74 = .ok (.iload 5, 2) := by decide +kernel
theorem dX4_blockAt_76 : decode cX4_blockAt 76 = .ok (.ireturn, 1) := by decide +kernel
theorem dX4_blockAt_77 : decode cX4_blockAt 77 = .ok (.iinc 5 1, 3) := by decide +kernel
theorem dX4_blockAt_80 : decode cX4_blockAt 80 = .ok (.goto (-28), 3) := by decide +kernel
theorem dX4_blockAt_83 : decode cX4_blockAt 83 = .ok (.iconst (-1), 1) := by decide +kernel
theorem dX4_blockAt_84 : decode cX4_blockAt 84 = .ok (.ireturn, 1) := by decide +kernel
end
section
theorem dX4_fits_0 : decode cX4_fits 0 = .ok (.iload_n 1, 1) := by decide +kernel
theorem dX4_fits_1 : decode cX4_fits 1 = .ok (.aload_n 0, 1) := by decide +kernel
theorem dX4_fits_2 : decode cX4_fits 2 = .ok (.getfield 27, 3) := by decide +kernel
theorem dX4_fits_5 : decode cX4_fits 5 = .ok (.getfield 200, 3) := by decide +kernel
theorem dX4_fits_8 : decode cX4_fits 8 = .ok (.iconst 1, 1) := by decide +kernel
theorem dX4_fits_9 : decode cX4_fits 9 = .ok (.isub, 1) := by decide +kernel
theorem dX4_fits_10 : decode cX4_fits 10 = .ok (.if_icmp .ne 10, 3) := by decide +kernel
theorem dX4_fits_13 : decode cX4_fits 13 = .ok (.aload_n 0, 1) := by decide +kernel
theorem dX4_fits_14 : decode cX4_fits 14 = .ok (.getfield 38, 3) := by decide +kernel
theorem dX4_fits_17 : decode cX4_fits 17 = .ok (.goto 7, 3) := by decide +kernel
theorem dX4_fits_20 : decode cX4_fits 20 = .ok (.aload_n 0, 1) := by decide +kernel
theorem dX4_fits_21 : decode cX4_fits 21 = .ok (.getfield 34, 3) := by decide +kernel
theorem dX4_fits_24 : decode cX4_fits 24 = .ok (.astore 4, 2) := by decide +kernel
theorem dX4_fits_26 : decode cX4_fits 26 = .ok (.aload 4, 2) := by decide +kernel
theorem dX4_fits_28 : decode cX4_fits 28 = .ok (.aload_n 0, 1) := by decide +kernel
theorem dX4_fits_29 : decode cX4_fits 29 = .ok (.getfield 27, 3) := by decide +kernel
theorem dX4_fits_32 : decode cX4_fits 32 = .ok (.getfield 205, 3) := by decide +kernel
theorem dX4_fits_35 : decode cX4_fits 35 = .ok (.iload_n 1, 1) := by decide +kernel
theorem dX4_fits_36 : decode cX4_fits 36 = .ok (.iaload, 1) := by decide +kernel
theorem dX4_fits_37 : decode cX4_fits 37 = .ok (.aload_n 0, 1) := by decide +kernel
theorem dX4_fits_38 : decode cX4_fits 38 = .ok (.getfield 27, 3) := by decide +kernel
theorem dX4_fits_41 : decode cX4_fits 41 = .ok (.getfield 208, 3) := by decide +kernel
theorem dX4_fits_44 : decode cX4_fits 44 = .ok (.iload_n 1, 1) := by decide +kernel
theorem dX4_fits_45 : decode cX4_fits 45 = .ok (.laload, 1) := by decide +kernel
theorem dX4_fits_46 : decode cX4_fits 46 = .ok (.lload_n 2, 1) := by decide +kernel
theorem dX4_fits_47 : decode cX4_fits 47 = .ok (.invokevirtual 183, 3) := by decide +kernel
theorem dX4_fits_50 : decode cX4_fits 50 = .ok (.ireturn, 1) := by decide +kernel
theorem dX5_init_0 : decode cX5_init 0 = .ok (.aload_n 0, 1) := by decide +kernel
theorem dX5_init_1 : decode cX5_init 1 = .ok (.invokespecial 1, 3) := by decide +kernel
theorem dX5_init_4 : decode cX5_init 4 = .ok (.aload_n 0, 1) := by decide +kernel
theorem dX5_init_5 : decode cX5_init 5 = .ok (.sipush 2400, 3) := by decide +kernel
theorem dX5_init_8 : decode cX5_init 8 = .ok (.newarray .int, 2) := by decide +kernel
theorem dX5_init_10 : decode cX5_init 10 = .ok (.putfield 7, 3) := by decide +kernel
theorem dX5_init_13 : decode cX5_init 13 = .ok (.aload_n 0, 1) := by decide +kernel
theorem dX5_init_14 : decode cX5_init 14 = .ok (.sipush 2400, 3) := by decide +kernel
theorem dX5_init_17 : decode cX5_init 17 = .ok (.newarray .int, 2) := by decide +kernel
theorem dX5_init_19 : decode cX5_init 19 = .ok (.putfield 13, 3) := by decide +kernel
theorem dX5_init_22 : decode cX5_init 22 = .ok (.aload_n 0, 1) := by decide +kernel
theorem dX5_init_23 : decode cX5_init 23 = .ok (.sipush 1200, 3) := by decide +kernel
theorem dX5_init_26 : decode cX5_init 26 = .ok (.newarray .int, 2) := by decide +kernel
theorem dX5_init_28 : decode cX5_init 28 = .ok (.putfield 16, 3) := by decide +kernel
theorem dX5_init_31 : decode cX5_init 31 = .ok (.aload_n 0, 1) := by decide +kernel
theorem dX5_init_32 : decode cX5_init 32 = .ok (.iconst 2, 1) := by decide +kernel
theorem dX5_init_33 : decode cX5_init 33 = .ok (.newarray .int, 2) := by decide +kernel
theorem dX5_init_35 : decode cX5_init 35 = .ok (.putfield 19, 3) := by decide +kernel
theorem dX5_init_38 : decode cX5_init 38 = .ok (.aload_n 0, 1) := by decide +kernel
theorem dX5_init_39 : decode cX5_init 39 = .ok (.iconst 2, 1) := by decide +kernel
theorem dX5_init_40 : decode cX5_init 40 = .ok (.newarray .int, 2) := by decide +kernel
theorem dX5_init_42 : decode cX5_init 42 = .ok (.putfield 22, 3) := by decide +kernel
theorem dX5_init_45 : decode cX5_init 45 = .ok (.aload_n 0, 1) := by decide +kernel
theorem dX5_init_46 : decode cX5_init 46 = .ok (.sipush 1200, 3) := by decide +kernel
theorem dX5_init_49 : decode cX5_init 49 = .ok (.newarray .int, 2) := by decide +kernel
theorem dX5_init_51 : decode cX5_init 51 = .ok (.putfield 25, 3) := by decide +kernel
theorem dX5_init_54 : decode cX5_init 54 = .ok (.aload_n 0, 1) := by decide +kernel
theorem dX5_init_55 : decode cX5_init 55 = .ok (.sipush 1200, 3) := by decide +kernel
theorem dX5_init_58 : decode cX5_init 58 = .ok (.newarray .int, 2) := by decide +kernel
theorem dX5_init_60 : decode cX5_init 60 = .ok (.putfield 28, 3) := by decide +kernel
theorem dX5_init_63 : decode cX5_init 63 = .ok (.aload_n 0, 1) := by decide +kernel
theorem dX5_init_64 : decode cX5_init 64 = .ok (.sipush 1200, 3) := by decide +kernel
theorem dX5_init_67 : decode cX5_init 67 = .ok (.newarray .int, 2) := by decide +kernel
theorem dX5_init_69 : decode cX5_init 69 = .ok (.putfield 31, 3) := by decide +kernel
theorem dX5_init_72 : decode cX5_init 72 = .ok (.return_, 1) := by decide +kernel
theorem dX5_thrown_0 : decode cX5_thrown 0 = .ok (.aload_n 0, 1) := by decide +kernel
theorem dX5_thrown_1 : decode cX5_thrown 1 = .ok (.getfield 34, 3) := by decide +kernel
theorem dX5_thrown_4 : decode cX5_thrown 4 = .ok (.ireturn, 1) := by decide +kernel
theorem dX5_fails_0 : decode cX5_fails 0 = .ok (.aload_n 0, 1) := by decide +kernel
theorem dX5_fails_1 : decode cX5_fails 1 = .ok (.iload_n 1, 1) := by decide +kernel
theorem dX5_fails_2 : decode cX5_fails 2 = .ok (.ifCond .eq 7, 3) := by decide +kernel
theorem dX5_fails_5 : decode cX5_fails 5 = .ok (.iload_n 2, 1) := by decide +kernel
theorem dX5_fails_6 : decode cX5_fails 6 = .ok (.goto 4, 3) := by decide +kernel
theorem dX5_fails_9 : decode cX5_fails 9 = .ok (.iconst 0, 1) := by decide +kernel
theorem dX5_fails_10 : decode cX5_fails 10 = .ok (.putfield 34, 3) := by decide +kernel
theorem dX5_fails_13 : decode cX5_fails 13 = .ok (.iload_n 1, 1) := by decide +kernel
theorem dX5_fails_14 : decode cX5_fails 14 = .ok (.ireturn, 1) := by decide +kernel
theorem dX5_no_0 : decode cX5_no 0 = .ok (.iload_n 0, 1) := by decide +kernel
theorem dX5_no_1 : decode cX5_no 1 = .ok (.ifCond .eq 12, 3) := by decide +kernel
theorem dX5_no_4 : decode cX5_no 4 = .ok (.iload_n 0, 1) := by decide +kernel
theorem dX5_no_5 : decode cX5_no 5 = .ok (.iconst 1, 1) := by decide +kernel
theorem dX5_no_6 : decode cX5_no 6 = .ok (.if_icmp .eq 7, 3) := by decide +kernel
theorem dX5_no_9 : decode cX5_no 9 = .ok (.iconst 1, 1) := by decide +kernel
theorem dX5_no_10 : decode cX5_no 10 = .ok (.goto 4, 3) := by decide +kernel
theorem dX5_no_13 : decode cX5_no 13 = .ok (.iconst 0, 1) := by decide +kernel
theorem dX5_no_14 : decode cX5_no 14 = .ok (.ireturn, 1) := by decide +kernel
theorem dX5_size_0 : decode cX5_size 0 = .ok (.aload_n 0, 1) := by decide +kernel
theorem dX5_size_1 : decode cX5_size 1 = .ok (.iload_n 1, 1) := by decide +kernel
theorem dX5_size_2 : decode cX5_size 2 = .ok (.invokestatic 38, 3) := by decide +kernel
theorem dX5_size_5 : decode cX5_size 5 = .ok (.ifCond .ne 14, 3) := by decide +kernel
theorem dX5_size_8 : decode cX5_size 8 = .ok (.iload_n 2, 1) := by decide +kernel
theorem dX5_size_9 : decode cX5_size 9 = .ok (.ifCond .lt 10, 3) := by decide +kernel
theorem dX5_size_12 : decode cX5_size 12 = .ok (.iload_n 2, 1) := by decide +kernel
theorem dX5_size_13 : decode cX5_size 13 = .ok (.sipush 1200, 3) := by decide +kernel
theorem dX5_size_16 : decode cX5_size 16 = .ok (.if_icmp .le 7, 3) := by decide +kernel
theorem dX5_size_19 : decode cX5_size 19 = .ok (.iconst 1, 1) := by decide +kernel
theorem dX5_size_20 : decode cX5_size 20 = .ok (.goto 4, 3) := by decide +kernel
theorem dX5_size_23 : decode cX5_size 23 = .ok (.iconst 0, 1) := by decide +kernel
theorem dX5_size_24 : decode cX5_size 24 = .ok (.iconst 1, 1) := by decide +kernel
theorem dX5_size_25 : decode cX5_size 25 = .ok (.invokevirtual 42, 3) := by decide +kernel
theorem dX5_size_28 : decode cX5_size 28 = .ok (.ifCond .eq 4, 3) := by decide +kernel
theorem dX5_size_31 : decode cX5_size 31 = .ok (.return_, 1) := by decide +kernel
theorem dX5_size_32 : decode cX5_size 32 = .ok (.aload_n 0, 1) := by decide +kernel
theorem dX5_size_33 : decode cX5_size 33 = .ok (.getfield 19, 3) := by decide +kernel
theorem dX5_size_36 : decode cX5_size 36 = .ok (.iload_n 1, 1) := by decide +kernel
theorem dX5_size_37 : decode cX5_size 37 = .ok (.iaload, 1) := by decide +kernel
theorem dX5_size_38 : decode cX5_size 38 = .ok (.istore_n 3, 1) := by decide +kernel
theorem dX5_size_39 : decode cX5_size 39 = .ok (.iload_n 3, 1) := by decide +kernel
theorem dX5_size_40 : decode cX5_size 40 = .ok (.iload_n 2, 1) := by decide +kernel
theorem dX5_size_41 : decode cX5_size 41 = .ok (.if_icmp .ge 22, 3) := by decide +kernel
theorem dX5_size_44 : decode cX5_size 44 = .ok (.aload_n 0, 1) := by decide +kernel
theorem dX5_size_45 : decode cX5_size 45 = .ok (.getfield 7, 3) := by decide +kernel
theorem dX5_size_48 : decode cX5_size 48 = .ok (.sipush 1200, 3) := by decide +kernel
theorem dX5_size_51 : decode cX5_size 51 = .ok (.iload_n 1, 1) := by decide +kernel
theorem dX5_size_52 : decode cX5_size 52 = .ok (.imul, 1) := by decide +kernel
theorem dX5_size_53 : decode cX5_size 53 = .ok (.iload_n 3, 1) := by decide +kernel
theorem dX5_size_54 : decode cX5_size 54 = .ok (.iadd, 1) := by decide +kernel
theorem dX5_size_55 : decode cX5_size 55 = .ok (.iconst 0, 1) := by decide +kernel
theorem dX5_size_56 : decode cX5_size 56 = .ok (.iastore, 1) := by decide +kernel
theorem dX5_size_57 : decode cX5_size 57 = .ok (.iinc 3 1, 3) := by decide +kernel
theorem dX5_size_60 : decode cX5_size 60 = .ok (.goto (-21), 3) := by decide +kernel
theorem dX5_size_63 : decode cX5_size 63 = .ok (.aload_n 0, 1) := by decide +kernel
theorem dX5_size_64 : decode cX5_size 64 = .ok (.getfield 19, 3) := by decide +kernel
theorem dX5_size_67 : decode cX5_size 67 = .ok (.iload_n 1, 1) := by decide +kernel
theorem dX5_size_68 : decode cX5_size 68 = .ok (.iload_n 2, 1) := by decide +kernel
theorem dX5_size_69 : decode cX5_size 69 = .ok (.iastore, 1) := by decide +kernel
theorem dX5_size_70 : decode cX5_size 70 = .ok (.return_, 1) := by decide +kernel
theorem dX5_put_0 : decode cX5_put 0 = .ok (.aload_n 0, 1) := by decide +kernel
theorem dX5_put_1 : decode cX5_put 1 = .ok (.iload_n 1, 1) := by decide +kernel
theorem dX5_put_2 : decode cX5_put 2 = .ok (.invokestatic 38, 3) := by decide +kernel
theorem dX5_put_5 : decode cX5_put 5 = .ok (.iconst 1, 1) := by decide +kernel
theorem dX5_put_6 : decode cX5_put 6 = .ok (.invokevirtual 42, 3) := by decide +kernel
theorem dX5_put_9 : decode cX5_put 9 = .ok (.ifCond .eq 4, 3) := by decide +kernel
theorem dX5_put_12 : decode cX5_put 12 = .ok (.return_, 1) := by decide +kernel
theorem dX5_put_13 : decode cX5_put 13 = .ok (.aload_n 0, 1) := by decide +kernel
theorem dX5_put_14 : decode cX5_put 14 = .ok (.iload_n 2, 1) := by decide +kernel
theorem dX5_put_15 : decode cX5_put 15 = .ok (.ifCond .lt 13, 3) := by decide +kernel
theorem dX5_put_18 : decode cX5_put 18 = .ok (.iload_n 2, 1) := by decide +kernel
theorem dX5_put_19 : decode cX5_put 19 = .ok (.aload_n 0, 1) := by decide +kernel
theorem dX5_put_20 : decode cX5_put 20 = .ok (.getfield 19, 3) := by decide +kernel
theorem dX5_put_23 : decode cX5_put 23 = .ok (.iload_n 1, 1) := by decide +kernel
theorem dX5_put_24 : decode cX5_put 24 = .ok (.iaload, 1) := by decide +kernel
theorem dX5_put_25 : decode cX5_put 25 = .ok (.if_icmp .lt 7, 3) := by decide +kernel
theorem dX5_put_28 : decode cX5_put 28 = .ok (.iconst 1, 1) := by decide +kernel
theorem dX5_put_29 : decode cX5_put 29 = .ok (.goto 4, 3) := by decide +kernel
theorem dX5_put_32 : decode cX5_put 32 = .ok (.iconst 0, 1) := by decide +kernel
theorem dX5_put_33 : decode cX5_put 33 = .ok (.iconst 2, 1) := by decide +kernel
theorem dX5_put_34 : decode cX5_put 34 = .ok (.invokevirtual 42, 3) := by decide +kernel
theorem dX5_put_37 : decode cX5_put 37 = .ok (.ifCond .eq 4, 3) := by decide +kernel
theorem dX5_put_40 : decode cX5_put 40 = .ok (.return_, 1) := by decide +kernel
theorem dX5_put_41 : decode cX5_put 41 = .ok (.iconst 0, 1) := by decide +kernel
theorem dX5_put_42 : decode cX5_put 42 = .ok (.istore 5, 2) := by decide +kernel
theorem dX5_put_44 : decode cX5_put 44 = .ok (.iload 5, 2) := by decide +kernel
theorem dX5_put_46 : decode cX5_put 46 = .ok (.bipush 8, 2) := by decide +kernel
theorem dX5_put_48 : decode cX5_put 48 = .ok (.if_icmp .ge 52, 3) := by decide +kernel
theorem dX5_put_51 : decode cX5_put 51 = .ok (.iload_n 2, 1) := by decide +kernel
theorem dX5_put_52 : decode cX5_put 52 = .ok (.iload 5, 2) := by decide +kernel
theorem dX5_put_54 : decode cX5_put 54 = .ok (.iadd, 1) := by decide +kernel
theorem dX5_put_55 : decode cX5_put 55 = .ok (.aload_n 0, 1) := by decide +kernel
theorem dX5_put_56 : decode cX5_put 56 = .ok (.getfield 19, 3) := by decide +kernel
theorem dX5_put_59 : decode cX5_put 59 = .ok (.iload_n 1, 1) := by decide +kernel
theorem dX5_put_60 : decode cX5_put 60 = .ok (.iaload, 1) := by decide +kernel
theorem dX5_put_61 : decode cX5_put 61 = .ok (.if_icmp .ge 39, 3) := by decide +kernel
theorem dX5_put_64 : decode cX5_put 64 = .ok (.aload_n 0, 1) := by decide +kernel
theorem dX5_put_65 : decode cX5_put 65 = .ok (.getfield 7, 3) := by decide +kernel
theorem dX5_put_68 : decode cX5_put 68 = .ok (.sipush 1200, 3) := by decide +kernel
theorem dX5_put_71 : decode cX5_put 71 = .ok (.iload_n 1, 1) := by decide +kernel
theorem dX5_put_72 : decode cX5_put 72 = .ok (.imul, 1) := by decide +kernel
theorem dX5_put_73 : decode cX5_put 73 = .ok (.iload_n 2, 1) := by decide +kernel
theorem dX5_put_74 : decode cX5_put 74 = .ok (.iadd, 1) := by decide +kernel
theorem dX5_put_75 : decode cX5_put 75 = .ok (.iload 5, 2) := by decide +kernel
theorem dX5_put_77 : decode cX5_put 77 = .ok (.iadd, 1) := by decide +kernel
theorem dX5_put_78 : decode cX5_put 78 = .ok (.lload_n 3, 1) := by decide +kernel
theorem dX5_put_79 : decode cX5_put 79 = .ok (.bipush 56, 2) := by decide +kernel
theorem dX5_put_81 : decode cX5_put 81 = .ok (.bipush 8, 2) := by decide +kernel
theorem dX5_put_83 : decode cX5_put 83 = .ok (.iload 5, 2) := by decide +kernel
theorem dX5_put_85 : decode cX5_put 85 = .ok (.imul, 1) := by decide +kernel
theorem dX5_put_86 : decode cX5_put 86 = .ok (.isub, 1) := by decide +kernel
theorem dX5_put_87 : decode cX5_put 87 = .ok (.lshr, 1) := by decide +kernel
theorem dX5_put_88 : decode cX5_put 88 = .ok (.l2i, 1) := by decide +kernel
theorem dX5_put_89 : decode cX5_put 89 = .ok (.sipush 255, 3) := by decide +kernel
theorem dX5_put_92 : decode cX5_put 92 = .ok (.iand, 1) := by decide +kernel
theorem dX5_put_93 : decode cX5_put 93 = .ok (.iastore, 1) := by decide +kernel
theorem dX5_put_94 : decode cX5_put 94 = .ok (.iinc 5 1, 3) := by decide +kernel
theorem dX5_put_97 : decode cX5_put 97 = .ok (.goto (-53), 3) := by decide +kernel
theorem dX5_put_100 : decode cX5_put 100 = .ok (.return_, 1) := by decide +kernel
end
section
theorem dX5_lacks_0 : decode cX5_lacks 0 = .ok (.iload_n 3, 1) := by decide +kernel
theorem dX5_lacks_1 : decode cX5_lacks 1 = .ok (.ifCond .lt 29, 3) := by decide +kernel
theorem dX5_lacks_4 : decode cX5_lacks 4 = .ok (.iload_n 2, 1) := by decide +kernel
theorem dX5_lacks_5 : decode cX5_lacks 5 = .ok (.ifCond .lt 25, 3) := by decide +kernel
theorem dX5_lacks_8 : decode cX5_lacks 8 = .ok (.iload_n 2, 1) := by decide +kernel
theorem dX5_lacks_9 : decode cX5_lacks 9 = .ok (.aload_n 0, 1) := by decide +kernel
theorem dX5_lacks_10 : decode cX5_lacks 10 = .ok (.getfield 19, 3) := by decide +kernel
theorem dX5_lacks_13 : decode cX5_lacks 13 = .ok (.iload_n 1, 1) := by decide +kernel
theorem dX5_lacks_14 : decode cX5_lacks 14 = .ok (.iaload, 1) := by decide +kernel
theorem dX5_lacks_15 : decode cX5_lacks 15 = .ok (.if_icmp .gt 15, 3) := by decide +kernel
theorem dX5_lacks_18 : decode cX5_lacks 18 = .ok (.iload_n 3, 1) := by decide +kernel
theorem dX5_lacks_19 : decode cX5_lacks 19 = .ok (.aload_n 0, 1) := by decide +kernel
theorem dX5_lacks_20 : decode cX5_lacks 20 = .ok (.getfield 19, 3) := by decide +kernel
theorem dX5_lacks_23 : decode cX5_lacks 23 = .ok (.iload_n 1, 1) := by decide +kernel
theorem dX5_lacks_24 : decode cX5_lacks 24 = .ok (.iaload, 1) := by decide +kernel
theorem dX5_lacks_25 : decode cX5_lacks 25 = .ok (.iload_n 2, 1) := by decide +kernel
theorem dX5_lacks_26 : decode cX5_lacks 26 = .ok (.isub, 1) := by decide +kernel
theorem dX5_lacks_27 : decode cX5_lacks 27 = .ok (.if_icmp .le 7, 3) := by decide +kernel
theorem dX5_lacks_30 : decode cX5_lacks 30 = .ok (.iconst 1, 1) := by decide +kernel
theorem dX5_lacks_31 : decode cX5_lacks 31 = .ok (.goto 4, 3) := by decide +kernel
theorem dX5_lacks_34 : decode cX5_lacks 34 = .ok (.iconst 0, 1) := by decide +kernel
theorem dX5_lacks_35 : decode cX5_lacks 35 = .ok (.ireturn, 1) := by decide +kernel
theorem dX5_move_0 : decode cX5_move 0 = .ok (.aload_n 0, 1) := by decide +kernel
theorem dX5_move_1 : decode cX5_move 1 = .ok (.iload_n 1, 1) := by decide +kernel
theorem dX5_move_2 : decode cX5_move 2 = .ok (.invokestatic 38, 3) := by decide +kernel
theorem dX5_move_5 : decode cX5_move 5 = .ok (.ifCond .ne 10, 3) := by decide +kernel
theorem dX5_move_8 : decode cX5_move 8 = .ok (.iload_n 3, 1) := by decide +kernel
theorem dX5_move_9 : decode cX5_move 9 = .ok (.invokestatic 38, 3) := by decide +kernel
theorem dX5_move_12 : decode cX5_move 12 = .ok (.ifCond .eq 7, 3) := by decide +kernel
theorem dX5_move_15 : decode cX5_move 15 = .ok (.iconst 1, 1) := by decide +kernel
theorem dX5_move_16 : decode cX5_move 16 = .ok (.goto 4, 3) := by decide +kernel
theorem dX5_move_19 : decode cX5_move 19 = .ok (.iconst 0, 1) := by decide +kernel
theorem dX5_move_20 : decode cX5_move 20 = .ok (.iconst 1, 1) := by decide +kernel
theorem dX5_move_21 : decode cX5_move 21 = .ok (.invokevirtual 42, 3) := by decide +kernel
theorem dX5_move_24 : decode cX5_move 24 = .ok (.ifCond .eq 4, 3) := by decide +kernel
theorem dX5_move_27 : decode cX5_move 27 = .ok (.return_, 1) := by decide +kernel
theorem dX5_move_28 : decode cX5_move 28 = .ok (.aload_n 0, 1) := by decide +kernel
theorem dX5_move_29 : decode cX5_move 29 = .ok (.aload_n 0, 1) := by decide +kernel
theorem dX5_move_30 : decode cX5_move 30 = .ok (.iload_n 1, 1) := by decide +kernel
theorem dX5_move_31 : decode cX5_move 31 = .ok (.iload_n 2, 1) := by decide +kernel
theorem dX5_move_32 : decode cX5_move 32 = .ok (.iload 5, 2) := by decide +kernel
theorem dX5_move_34 : decode cX5_move 34 = .ok (.invokevirtual 46, 3) := by decide +kernel
theorem dX5_move_37 : decode cX5_move 37 = .ok (.ifCond .ne 15, 3) := by decide +kernel
theorem dX5_move_40 : decode cX5_move 40 = .ok (.aload_n 0, 1) := by decide +kernel
theorem dX5_move_41 : decode cX5_move 41 = .ok (.iload_n 3, 1) := by decide +kernel
theorem dX5_move_42 : decode cX5_move 42 = .ok (.iload 4, 2) := by decide +kernel
theorem dX5_move_44 : decode cX5_move 44 = .ok (.iload 5, 2) := by decide +kernel
theorem dX5_move_46 : decode cX5_move 46 = .ok (.invokevirtual 46, 3) := by decide +kernel
theorem dX5_move_49 : decode cX5_move 49 = .ok (.ifCond .eq 7, 3) := by decide +kernel
theorem dX5_move_52 : decode cX5_move 52 = .ok (.iconst 1, 1) := by decide +kernel
theorem dX5_move_53 : decode cX5_move 53 = .ok (.goto 4, 3) := by decide +kernel
theorem dX5_move_56 : decode cX5_move 56 = .ok (.iconst 0, 1) := by decide +kernel
theorem dX5_move_57 : decode cX5_move 57 = .ok (.iconst 2, 1) := by decide +kernel
theorem dX5_move_58 : decode cX5_move 58 = .ok (.invokevirtual 42, 3) := by decide +kernel
theorem dX5_move_61 : decode cX5_move 61 = .ok (.ifCond .eq 4, 3) := by decide +kernel
theorem dX5_move_64 : decode cX5_move 64 = .ok (.return_, 1) := by decide +kernel
theorem dX5_move_65 : decode cX5_move 65 = .ok (.iconst 0, 1) := by decide +kernel
theorem dX5_move_66 : decode cX5_move 66 = .ok (.istore 6, 2) := by decide +kernel
theorem dX5_move_68 : decode cX5_move 68 = .ok (.iload 6, 2) := by decide +kernel
theorem dX5_move_70 : decode cX5_move 70 = .ok (.iload 5, 2) := by decide +kernel
theorem dX5_move_72 : decode cX5_move 72 = .ok (.if_icmp .ge 31, 3) := by decide +kernel
theorem dX5_move_75 : decode cX5_move 75 = .ok (.aload_n 0, 1) := by decide +kernel
theorem dX5_move_76 : decode cX5_move 76 = .ok (.getfield 16, 3) := by decide +kernel
theorem dX5_move_79 : decode cX5_move 79 = .ok (.iload 6, 2) := by decide +kernel
theorem dX5_move_81 : decode cX5_move 81 = .ok (.aload_n 0, 1) := by decide +kernel
theorem dX5_move_82 : decode cX5_move 82 = .ok (.getfield 7, 3) := by decide +kernel
theorem dX5_move_85 : decode cX5_move 85 = .ok (.sipush 1200, 3) := by decide +kernel
theorem dX5_move_88 : decode cX5_move 88 = .ok (.iload_n 1, 1) := by decide +kernel
theorem dX5_move_89 : decode cX5_move 89 = .ok (.imul, 1) := by decide +kernel
theorem dX5_move_90 : decode cX5_move 90 = .ok (.iload_n 2, 1) := by decide +kernel
theorem dX5_move_91 : decode cX5_move 91 = .ok (.iadd, 1) := by decide +kernel
theorem dX5_move_92 : decode cX5_move 92 = .ok (.iload 6, 2) := by decide +kernel
theorem dX5_move_94 : decode cX5_move 94 = .ok (.iadd, 1) := by decide +kernel
theorem dX5_move_95 : decode cX5_move 95 = .ok (.iaload, 1) := by decide +kernel
theorem dX5_move_96 : decode cX5_move 96 = .ok (.iastore, 1) := by decide +kernel
theorem dX5_move_97 : decode cX5_move 97 = .ok (.iinc 6 1, 3) := by decide +kernel
theorem dX5_move_100 : decode cX5_move 100 = .ok (.goto (-32), 3) := by decide +kernel
theorem dX5_move_103 : decode cX5_move 103 = .ok (.iconst 0, 1) := by decide +kernel
theorem dX5_move_104 : decode cX5_move 104 = .ok (.istore 6, 2) := by decide +kernel
theorem dX5_move_106 : decode cX5_move 106 = .ok (.iload 6, 2) := by decide +kernel
theorem dX5_move_108 : decode cX5_move 108 = .ok (.iload 5, 2) := by decide +kernel
theorem dX5_move_110 : decode cX5_move 110 = .ok (.if_icmp .ge 32, 3) := by decide +kernel
theorem dX5_move_113 : decode cX5_move 113 = .ok (.aload_n 0, 1) := by decide +kernel
theorem dX5_move_114 : decode cX5_move 114 = .ok (.getfield 7, 3) := by decide +kernel
theorem dX5_move_117 : decode cX5_move 117 = .ok (.sipush 1200, 3) := by decide +kernel
theorem dX5_move_120 : decode cX5_move 120 = .ok (.iload_n 3, 1) := by decide +kernel
theorem dX5_move_121 : decode cX5_move 121 = .ok (.imul, 1) := by decide +kernel
theorem dX5_move_122 : decode cX5_move 122 = .ok (.iload 4, 2) := by decide +kernel
theorem dX5_move_124 : decode cX5_move 124 = .ok (.iadd, 1) := by decide +kernel
theorem dX5_move_125 : decode cX5_move 125 = .ok (.iload 6, 2) := by decide +kernel
theorem dX5_move_127 : decode cX5_move 127 = .ok (.iadd, 1) := by decide +kernel
theorem dX5_move_128 : decode cX5_move 128 = .ok (.aload_n 0, 1) := by decide +kernel
theorem dX5_move_129 : decode cX5_move 129 = .ok (.getfield 16, 3) := by decide +kernel
theorem dX5_move_132 : decode cX5_move 132 = .ok (.iload 6, 2) := by decide +kernel
theorem dX5_move_134 : decode cX5_move 134 = .ok (.iaload, 1) := by decide +kernel
theorem dX5_move_135 : decode cX5_move 135 = .ok (.iastore, 1) := by decide +kernel
theorem dX5_move_136 : decode cX5_move 136 = .ok (.iinc 6 1, 3) := by decide +kernel
theorem dX5_move_139 : decode cX5_move 139 = .ok (.goto (-33), 3) := by decide +kernel
theorem dX5_move_142 : decode cX5_move 142 = .ok (.return_, 1) := by decide +kernel
theorem dX5_octet_0 : decode cX5_octet 0 = .ok (.aload_n 0, 1) := by decide +kernel
theorem dX5_octet_1 : decode cX5_octet 1 = .ok (.iload_n 1, 1) := by decide +kernel
theorem dX5_octet_2 : decode cX5_octet 2 = .ok (.invokestatic 38, 3) := by decide +kernel
theorem dX5_octet_5 : decode cX5_octet 5 = .ok (.iconst 1, 1) := by decide +kernel
theorem dX5_octet_6 : decode cX5_octet 6 = .ok (.invokevirtual 42, 3) := by decide +kernel
theorem dX5_octet_9 : decode cX5_octet 9 = .ok (.ifCond .eq 5, 3) := by decide +kernel
theorem dX5_octet_12 : decode cX5_octet 12 = .ok (.iconst 0, 1) := by decide +kernel
theorem dX5_octet_13 : decode cX5_octet 13 = .ok (.ireturn, 1) := by decide +kernel
theorem dX5_octet_14 : decode cX5_octet 14 = .ok (.aload_n 0, 1) := by decide +kernel
theorem dX5_octet_15 : decode cX5_octet 15 = .ok (.iload_n 2, 1) := by decide +kernel
theorem dX5_octet_16 : decode cX5_octet 16 = .ok (.ifCond .lt 13, 3) := by decide +kernel
theorem dX5_octet_19 : decode cX5_octet 19 = .ok (.iload_n 2, 1) := by decide +kernel
theorem dX5_octet_20 : decode cX5_octet 20 = .ok (.aload_n 0, 1) := by decide +kernel
theorem dX5_octet_21 : decode cX5_octet 21 = .ok (.getfield 19, 3) := by decide +kernel
theorem dX5_octet_24 : decode cX5_octet 24 = .ok (.iload_n 1, 1) := by decide +kernel
theorem dX5_octet_25 : decode cX5_octet 25 = .ok (.iaload, 1) := by decide +kernel
theorem dX5_octet_26 : decode cX5_octet 26 = .ok (.if_icmp .lt 7, 3) := by decide +kernel
theorem dX5_octet_29 : decode cX5_octet 29 = .ok (.iconst 1, 1) := by decide +kernel
theorem dX5_octet_30 : decode cX5_octet 30 = .ok (.goto 4, 3) := by decide +kernel
theorem dX5_octet_33 : decode cX5_octet 33 = .ok (.iconst 0, 1) := by decide +kernel
theorem dX5_octet_34 : decode cX5_octet 34 = .ok (.iconst 2, 1) := by decide +kernel
theorem dX5_octet_35 : decode cX5_octet 35 = .ok (.invokevirtual 42, 3) := by decide +kernel
theorem dX5_octet_38 : decode cX5_octet 38 = .ok (.ifCond .eq 7, 3) := by decide +kernel
theorem dX5_octet_41 : decode cX5_octet 41 = .ok (.iconst 0, 1) := by decide +kernel
theorem dX5_octet_42 : decode cX5_octet 42 = .ok (.goto 15, 3) := by decide +kernel
theorem dX5_octet_45 : decode cX5_octet 45 = .ok (.aload_n 0, 1) := by decide +kernel
theorem dX5_octet_46 : decode cX5_octet 46 = .ok (.getfield 7, 3) := by decide +kernel
theorem dX5_octet_49 : decode cX5_octet 49 = .ok (.sipush 1200, 3) := by decide +kernel
theorem dX5_octet_52 : decode cX5_octet 52 = .ok (.iload_n 1, 1) := by decide +kernel
theorem dX5_octet_53 : decode cX5_octet 53 = .ok (.imul, 1) := by decide +kernel
theorem dX5_octet_54 : decode cX5_octet 54 = .ok (.iload_n 2, 1) := by decide +kernel
theorem dX5_octet_55 : decode cX5_octet 55 = .ok (.iadd, 1) := by decide +kernel
theorem dX5_octet_56 : decode cX5_octet 56 = .ok (.iaload, 1) := by decide +kernel
theorem dX5_octet_57 : decode cX5_octet 57 = .ok (.ireturn, 1) := by decide +kernel
theorem dX5_weakOf_0 : decode cX5_weakOf 0 = .ok (.iconst 0, 1) := by decide +kernel
theorem dX5_weakOf_1 : decode cX5_weakOf 1 = .ok (.istore 4, 2) := by decide +kernel
theorem dX5_weakOf_3 : decode cX5_weakOf 3 = .ok (.iconst 0, 1) := by decide +kernel
theorem dX5_weakOf_4 : decode cX5_weakOf 4 = .ok (.istore 5, 2) := by decide +kernel
theorem dX5_weakOf_6 : decode cX5_weakOf 6 = .ok (.iconst 0, 1) := by decide +kernel
theorem dX5_weakOf_7 : decode cX5_weakOf 7 = .ok (.istore 6, 2) := by decide +kernel
theorem dX5_weakOf_9 : decode cX5_weakOf 9 = .ok (.iload 6, 2) := by decide +kernel
theorem dX5_weakOf_11 : decode cX5_weakOf 11 = .ok (.iload_n 3, 1) := by decide +kernel
theorem dX5_weakOf_12 : decode cX5_weakOf 12 = .ok (.if_icmp .ge 54, 3) := by decide +kernel
theorem dX5_weakOf_15 : decode cX5_weakOf 15 = .ok (.iload 4, 2) := by decide +kernel
theorem dX5_weakOf_17 : decode cX5_weakOf 17 = .ok (.aload_n 0, 1) := by decide +kernel
theorem dX5_weakOf_18 : decode cX5_weakOf 18 = .ok (.getfield 7, 3) := by decide +kernel
theorem dX5_weakOf_21 : decode cX5_weakOf 21 = .ok (.sipush 1200, 3) := by decide +kernel
theorem dX5_weakOf_24 : decode cX5_weakOf 24 = .ok (.iload_n 1, 1) := by decide +kernel
theorem dX5_weakOf_25 : decode cX5_weakOf 25 = .ok (.imul, 1) := by decide +kernel
theorem dX5_weakOf_26 : decode cX5_weakOf 26 = .ok (.iload_n 2, 1) := by decide +kernel
theorem dX5_weakOf_27 : decode cX5_weakOf 27 = .ok (.iadd, 1) := by decide +kernel
theorem dX5_weakOf_28 : decode cX5_weakOf 28 = .ok (.iload 6, 2) := by decide +kernel
theorem dX5_weakOf_30 : decode cX5_weakOf 30 = .ok (.iadd, 1) := by decide +kernel
theorem dX5_weakOf_31 : decode cX5_weakOf 31 = .ok (.iaload, 1) := by decide +kernel
theorem dX5_weakOf_32 : decode cX5_weakOf 32 = .ok (.iadd, 1) := by decide +kernel
theorem dX5_weakOf_33 : decode cX5_weakOf 33 = .ok (.istore 4, 2) := by decide +kernel
theorem dX5_weakOf_35 : decode cX5_weakOf 35 = .ok (.iload 5, 2) := by decide +kernel
theorem dX5_weakOf_37 : decode cX5_weakOf 37 = .ok (.iload_n 3, 1) := by decide +kernel
theorem dX5_weakOf_38 : decode cX5_weakOf 38 = .ok (.iload 6, 2) := by decide +kernel
theorem dX5_weakOf_40 : decode cX5_weakOf 40 = .ok (.isub, 1) := by decide +kernel
theorem dX5_weakOf_41 : decode cX5_weakOf 41 = .ok (.aload_n 0, 1) := by decide +kernel
theorem dX5_weakOf_42 : decode cX5_weakOf 42 = .ok (.getfield 7, 3) := by decide +kernel
theorem dX5_weakOf_45 : decode cX5_weakOf 45 = .ok (.sipush 1200, 3) := by decide +kernel
theorem dX5_weakOf_48 : decode cX5_weakOf 48 = .ok (.iload_n 1, 1) := by decide +kernel
theorem dX5_weakOf_49 : decode cX5_weakOf 49 = .ok (.imul, 1) := by decide +kernel
theorem dX5_weakOf_50 : decode cX5_weakOf 50 = .ok (.iload_n 2, 1) := by decide +kernel
theorem dX5_weakOf_51 : decode cX5_weakOf 51 = .ok (.iadd, 1) := by decide +kernel
theorem dX5_weakOf_52 : decode cX5_weakOf 52 = .ok (.iload 6, 2) := by decide +kernel
theorem dX5_weakOf_54 : decode cX5_weakOf 54 = .ok (.iadd, 1) := by decide +kernel
theorem dX5_weakOf_55 : decode cX5_weakOf 55 = .ok (.iaload, 1) := by decide +kernel
theorem dX5_weakOf_56 : decode cX5_weakOf 56 = .ok (.imul, 1) := by decide +kernel
theorem dX5_weakOf_57 : decode cX5_weakOf 57 = .ok (.iadd, 1) := by decide +kernel
theorem dX5_weakOf_58 : decode cX5_weakOf 58 = .ok (.istore 5, 2) := by decide +kernel
theorem dX5_weakOf_60 : decode cX5_weakOf 60 = .ok (.iinc 6 1, 3) := by decide +kernel
theorem dX5_weakOf_63 : decode cX5_weakOf 63 = .ok (.goto (-54), 3) := by decide +kernel
theorem dX5_weakOf_66 : decode cX5_weakOf 66 = .ok (.iload 4, 2) := by decide +kernel
theorem dX5_weakOf_68 : decode cX5_weakOf 68 = .ok (.ldc 50, 2) := by decide +kernel
theorem dX5_weakOf_70 : decode cX5_weakOf 70 = .ok (.iand, 1) := by decide +kernel
theorem dX5_weakOf_71 : decode cX5_weakOf 71 = .ok (.ldc 51, 2) := by decide +kernel
theorem dX5_weakOf_73 : decode cX5_weakOf 73 = .ok (.iload 5, 2) := by decide +kernel
theorem dX5_weakOf_75 : decode cX5_weakOf 75 = .ok (.ldc 50, 2) := by decide +kernel
theorem dX5_weakOf_77 : decode cX5_weakOf 77 = .ok (.iand, 1) := by decide +kernel
theorem dX5_weakOf_78 : decode cX5_weakOf 78 = .ok (.imul, 1) := by decide +kernel
theorem dX5_weakOf_79 : decode cX5_weakOf 79 = .ok (.iadd, 1) := by decide +kernel
theorem dX5_weakOf_80 : decode cX5_weakOf 80 = .ok (.ireturn, 1) := by decide +kernel
end
section
theorem dX5_strongOf_0 : decode cX5_strongOf 0 = .ok (.ldc2_w 52, 3) := by decide +kernel
theorem dX5_strongOf_3 : decode cX5_strongOf 3 = .ok (.lstore 4, 2) := by decide +kernel
theorem dX5_strongOf_5 : decode cX5_strongOf 5 = .ok (.iconst 0, 1) := by decide +kernel
theorem dX5_strongOf_6 : decode cX5_strongOf 6 = .ok (.istore 6, 2) := by decide +kernel
theorem dX5_strongOf_8 : decode cX5_strongOf 8 = .ok (.iload 6, 2) := by decide +kernel
theorem dX5_strongOf_10 : decode cX5_strongOf 10 = .ok (.iload_n 3, 1) := by decide +kernel
theorem dX5_strongOf_11 : decode cX5_strongOf 11 = .ok (.if_icmp .ge 34, 3) := by decide +kernel
theorem dX5_strongOf_14 : decode cX5_strongOf 14 = .ok (.lload 4, 2) := by decide +kernel
theorem dX5_strongOf_16 : decode cX5_strongOf 16 = .ok (.aload_n 0, 1) := by decide +kernel
theorem dX5_strongOf_17 : decode cX5_strongOf 17 = .ok (.getfield 7, 3) := by decide +kernel
theorem dX5_strongOf_20 : decode cX5_strongOf 20 = .ok (.sipush 1200, 3) := by decide +kernel
theorem dX5_strongOf_23 : decode cX5_strongOf 23 = .ok (.iload_n 1, 1) := by decide +kernel
theorem dX5_strongOf_24 : decode cX5_strongOf 24 = .ok (.imul, 1) := by decide +kernel
theorem dX5_strongOf_25 : decode cX5_strongOf 25 = .ok (.iload_n 2, 1) := by decide +kernel
theorem dX5_strongOf_26 : decode cX5_strongOf 26 = .ok (.iadd, 1) := by decide +kernel
theorem dX5_strongOf_27 : decode cX5_strongOf 27 = .ok (.iload 6, 2) := by decide +kernel
theorem dX5_strongOf_29 : decode cX5_strongOf 29 = .ok (.iadd, 1) := by decide +kernel
theorem dX5_strongOf_30 : decode cX5_strongOf 30 = .ok (.iaload, 1) := by decide +kernel
theorem dX5_strongOf_31 : decode cX5_strongOf 31 = .ok (.i2l, 1) := by decide +kernel
theorem dX5_strongOf_32 : decode cX5_strongOf 32 = .ok (.lxor, 1) := by decide +kernel
theorem dX5_strongOf_33 : decode cX5_strongOf 33 = .ok (.ldc2_w 54, 3) := by decide +kernel
theorem dX5_strongOf_36 : decode cX5_strongOf 36 = .ok (.lmul, 1) := by decide +kernel
theorem dX5_strongOf_37 : decode cX5_strongOf 37 = .ok (.lstore 4, 2) := by decide +kernel
theorem dX5_strongOf_39 : decode cX5_strongOf 39 = .ok (.iinc 6 1, 3) := by decide +kernel
theorem dX5_strongOf_42 : decode cX5_strongOf 42 = .ok (.goto (-34), 3) := by decide +kernel
theorem dX5_strongOf_45 : decode cX5_strongOf 45 = .ok (.lload 4, 2) := by decide +kernel
theorem dX5_strongOf_47 : decode cX5_strongOf 47 = .ok (.lreturn, 1) := by decide +kernel
theorem dX5_weak_0 : decode cX5_weak 0 = .ok (.aload_n 0, 1) := by decide +kernel
theorem dX5_weak_1 : decode cX5_weak 1 = .ok (.iload_n 1, 1) := by decide +kernel
theorem dX5_weak_2 : decode cX5_weak 2 = .ok (.invokestatic 38, 3) := by decide +kernel
theorem dX5_weak_5 : decode cX5_weak 5 = .ok (.iconst 1, 1) := by decide +kernel
theorem dX5_weak_6 : decode cX5_weak 6 = .ok (.invokevirtual 42, 3) := by decide +kernel
theorem dX5_weak_9 : decode cX5_weak 9 = .ok (.ifCond .eq 5, 3) := by decide +kernel
theorem dX5_weak_12 : decode cX5_weak 12 = .ok (.iconst 0, 1) := by decide +kernel
theorem dX5_weak_13 : decode cX5_weak 13 = .ok (.ireturn, 1) := by decide +kernel
theorem dX5_weak_14 : decode cX5_weak 14 = .ok (.aload_n 0, 1) := by decide +kernel
theorem dX5_weak_15 : decode cX5_weak 15 = .ok (.aload_n 0, 1) := by decide +kernel
theorem dX5_weak_16 : decode cX5_weak 16 = .ok (.iload_n 1, 1) := by decide +kernel
theorem dX5_weak_17 : decode cX5_weak 17 = .ok (.iload_n 2, 1) := by decide +kernel
theorem dX5_weak_18 : decode cX5_weak 18 = .ok (.iload_n 3, 1) := by decide +kernel
theorem dX5_weak_19 : decode cX5_weak 19 = .ok (.invokevirtual 46, 3) := by decide +kernel
theorem dX5_weak_22 : decode cX5_weak 22 = .ok (.iconst 2, 1) := by decide +kernel
theorem dX5_weak_23 : decode cX5_weak 23 = .ok (.invokevirtual 42, 3) := by decide +kernel
theorem dX5_weak_26 : decode cX5_weak 26 = .ok (.ifCond .eq 7, 3) := by decide +kernel
theorem dX5_weak_29 : decode cX5_weak 29 = .ok (.iconst 0, 1) := by decide +kernel
theorem dX5_weak_30 : decode cX5_weak 30 = .ok (.goto 10, 3) := by decide +kernel
theorem dX5_weak_33 : decode cX5_weak 33 = .ok (.aload_n 0, 1) := by decide +kernel
theorem dX5_weak_34 : decode cX5_weak 34 = .ok (.iload_n 1, 1) := by decide +kernel
theorem dX5_weak_35 : decode cX5_weak 35 = .ok (.iload_n 2, 1) := by decide +kernel
theorem dX5_weak_36 : decode cX5_weak 36 = .ok (.iload_n 3, 1) := by decide +kernel
theorem dX5_weak_37 : decode cX5_weak 37 = .ok (.invokevirtual 56, 3) := by decide +kernel
theorem dX5_weak_40 : decode cX5_weak 40 = .ok (.ireturn, 1) := by decide +kernel
theorem dX5_strong_0 : decode cX5_strong 0 = .ok (.aload_n 0, 1) := by decide +kernel
theorem dX5_strong_1 : decode cX5_strong 1 = .ok (.iload_n 1, 1) := by decide +kernel
theorem dX5_strong_2 : decode cX5_strong 2 = .ok (.invokestatic 38, 3) := by decide +kernel
theorem dX5_strong_5 : decode cX5_strong 5 = .ok (.iconst 1, 1) := by decide +kernel
theorem dX5_strong_6 : decode cX5_strong 6 = .ok (.invokevirtual 42, 3) := by decide +kernel
theorem dX5_strong_9 : decode cX5_strong 9 = .ok (.ifCond .eq 5, 3) := by decide +kernel
theorem dX5_strong_12 : decode cX5_strong 12 = .ok (.lconst 0, 1) := by decide +kernel
theorem dX5_strong_13 : decode cX5_strong 13 = .ok (.lreturn, 1) := by decide +kernel
theorem dX5_strong_14 : decode cX5_strong 14 = .ok (.aload_n 0, 1) := by decide +kernel
theorem dX5_strong_15 : decode cX5_strong 15 = .ok (.aload_n 0, 1) := by decide +kernel
theorem dX5_strong_16 : decode cX5_strong 16 = .ok (.iload_n 1, 1) := by decide +kernel
theorem dX5_strong_17 : decode cX5_strong 17 = .ok (.iload_n 2, 1) := by decide +kernel
theorem dX5_strong_18 : decode cX5_strong 18 = .ok (.iload_n 3, 1) := by decide +kernel
theorem dX5_strong_19 : decode cX5_strong 19 = .ok (.invokevirtual 46, 3) := by decide +kernel
theorem dX5_strong_22 : decode cX5_strong 22 = .ok (.iconst 2, 1) := by decide +kernel
theorem dX5_strong_23 : decode cX5_strong 23 = .ok (.invokevirtual 42, 3) := by decide +kernel
theorem dX5_strong_26 : decode cX5_strong 26 = .ok (.ifCond .eq 7, 3) := by decide +kernel
theorem dX5_strong_29 : decode cX5_strong 29 = .ok (.lconst 0, 1) := by decide +kernel
theorem dX5_strong_30 : decode cX5_strong 30 = .ok (.goto 10, 3) := by decide +kernel
theorem dX5_strong_33 : decode cX5_strong 33 = .ok (.aload_n 0, 1) := by decide +kernel
theorem dX5_strong_34 : decode cX5_strong 34 = .ok (.iload_n 1, 1) := by decide +kernel
theorem dX5_strong_35 : decode cX5_strong 35 = .ok (.iload_n 2, 1) := by decide +kernel
theorem dX5_strong_36 : decode cX5_strong 36 = .ok (.iload_n 3, 1) := by decide +kernel
theorem dX5_strong_37 : decode cX5_strong 37 = .ok (.invokevirtual 60, 3) := by decide +kernel
theorem dX5_strong_40 : decode cX5_strong 40 = .ok (.lreturn, 1) := by decide +kernel
theorem dX5_bad_0 : decode cX5_bad 0 = .ok (.iload_n 0, 1) := by decide +kernel
theorem dX5_bad_1 : decode cX5_bad 1 = .ok (.iconst 4, 1) := by decide +kernel
theorem dX5_bad_2 : decode cX5_bad 2 = .ok (.if_icmp .lt 20, 3) := by decide +kernel
theorem dX5_bad_5 : decode cX5_bad 5 = .ok (.iload_n 0, 1) := by decide +kernel
theorem dX5_bad_6 : decode cX5_bad 6 = .ok (.sipush 256, 3) := by decide +kernel
theorem dX5_bad_9 : decode cX5_bad 9 = .ok (.if_icmp .gt 13, 3) := by decide +kernel
theorem dX5_bad_12 : decode cX5_bad 12 = .ok (.iload_n 1, 1) := by decide +kernel
theorem dX5_bad_13 : decode cX5_bad 13 = .ok (.ifCond .lt 9, 3) := by decide +kernel
theorem dX5_bad_16 : decode cX5_bad 16 = .ok (.iload_n 1, 1) := by decide +kernel
theorem dX5_bad_17 : decode cX5_bad 17 = .ok (.bipush 64, 2) := by decide +kernel
theorem dX5_bad_19 : decode cX5_bad 19 = .ok (.if_icmp .le 7, 3) := by decide +kernel
theorem dX5_bad_22 : decode cX5_bad 22 = .ok (.iconst 1, 1) := by decide +kernel
theorem dX5_bad_23 : decode cX5_bad 23 = .ok (.goto 4, 3) := by decide +kernel
theorem dX5_bad_26 : decode cX5_bad 26 = .ok (.iconst 0, 1) := by decide +kernel
theorem dX5_bad_27 : decode cX5_bad 27 = .ok (.ireturn, 1) := by decide +kernel
theorem dX5_blocks_0 : decode cX5_blocks 0 = .ok (.aload_n 0, 1) := by decide +kernel
theorem dX5_blocks_1 : decode cX5_blocks 1 = .ok (.getfield 19, 3) := by decide +kernel
theorem dX5_blocks_4 : decode cX5_blocks 4 = .ok (.iconst 0, 1) := by decide +kernel
theorem dX5_blocks_5 : decode cX5_blocks 5 = .ok (.iaload, 1) := by decide +kernel
theorem dX5_blocks_6 : decode cX5_blocks 6 = .ok (.iload_n 1, 1) := by decide +kernel
theorem dX5_blocks_7 : decode cX5_blocks 7 = .ok (.iadd, 1) := by decide +kernel
theorem dX5_blocks_8 : decode cX5_blocks 8 = .ok (.iconst 1, 1) := by decide +kernel
theorem dX5_blocks_9 : decode cX5_blocks 9 = .ok (.isub, 1) := by decide +kernel
theorem dX5_blocks_10 : decode cX5_blocks 10 = .ok (.iload_n 1, 1) := by decide +kernel
theorem dX5_blocks_11 : decode cX5_blocks 11 = .ok (.idiv, 1) := by decide +kernel
theorem dX5_blocks_12 : decode cX5_blocks 12 = .ok (.ireturn, 1) := by decide +kernel
theorem dX5_length_0 : decode cX5_length 0 = .ok (.aload_n 0, 1) := by decide +kernel
theorem dX5_length_1 : decode cX5_length 1 = .ok (.getfield 19, 3) := by decide +kernel
theorem dX5_length_4 : decode cX5_length 4 = .ok (.iconst 0, 1) := by decide +kernel
theorem dX5_length_5 : decode cX5_length 5 = .ok (.iaload, 1) := by decide +kernel
theorem dX5_length_6 : decode cX5_length 6 = .ok (.iload_n 1, 1) := by decide +kernel
theorem dX5_length_7 : decode cX5_length 7 = .ok (.iload_n 2, 1) := by decide +kernel
theorem dX5_length_8 : decode cX5_length 8 = .ok (.imul, 1) := by decide +kernel
theorem dX5_length_9 : decode cX5_length 9 = .ok (.isub, 1) := by decide +kernel
theorem dX5_length_10 : decode cX5_length 10 = .ok (.iload_n 1, 1) := by decide +kernel
theorem dX5_length_11 : decode cX5_length 11 = .ok (.if_icmp .ge 16, 3) := by decide +kernel
theorem dX5_length_14 : decode cX5_length 14 = .ok (.aload_n 0, 1) := by decide +kernel
theorem dX5_length_15 : decode cX5_length 15 = .ok (.getfield 19, 3) := by decide +kernel
theorem dX5_length_18 : decode cX5_length 18 = .ok (.iconst 0, 1) := by decide +kernel
theorem dX5_length_19 : decode cX5_length 19 = .ok (.iaload, 1) := by decide +kernel
theorem dX5_length_20 : decode cX5_length 20 = .ok (.iload_n 1, 1) := by decide +kernel
theorem dX5_length_21 : decode cX5_length 21 = .ok (.iload_n 2, 1) := by decide +kernel
theorem dX5_length_22 : decode cX5_length 22 = .ok (.imul, 1) := by decide +kernel
theorem dX5_length_23 : decode cX5_length 23 = .ok (.isub, 1) := by decide +kernel
theorem dX5_length_24 : decode cX5_length 24 = .ok (.goto 4, 3) := by decide +kernel
theorem dX5_length_27 : decode cX5_length 27 = .ok (.iload_n 1, 1) := by decide +kernel
theorem dX5_length_28 : decode cX5_length 28 = .ok (.ireturn, 1) := by decide +kernel
theorem dX5_fits_0 : decode cX5_fits 0 = .ok (.aload_n 0, 1) := by decide +kernel
theorem dX5_fits_1 : decode cX5_fits 1 = .ok (.iload_n 1, 1) := by decide +kernel
theorem dX5_fits_2 : decode cX5_fits 2 = .ok (.iload_n 3, 1) := by decide +kernel
theorem dX5_fits_3 : decode cX5_fits 3 = .ok (.invokevirtual 64, 3) := by decide +kernel
theorem dX5_fits_6 : decode cX5_fits 6 = .ok (.istore 5, 2) := by decide +kernel
theorem dX5_fits_8 : decode cX5_fits 8 = .ok (.iload 4, 2) := by decide +kernel
theorem dX5_fits_10 : decode cX5_fits 10 = .ok (.iload 5, 2) := by decide +kernel
theorem dX5_fits_12 : decode cX5_fits 12 = .ok (.iadd, 1) := by decide +kernel
theorem dX5_fits_13 : decode cX5_fits 13 = .ok (.aload_n 0, 1) := by decide +kernel
theorem dX5_fits_14 : decode cX5_fits 14 = .ok (.getfield 19, 3) := by decide +kernel
theorem dX5_fits_17 : decode cX5_fits 17 = .ok (.iconst 1, 1) := by decide +kernel
theorem dX5_fits_18 : decode cX5_fits 18 = .ok (.iaload, 1) := by decide +kernel
theorem dX5_fits_19 : decode cX5_fits 19 = .ok (.if_icmp .gt 25, 3) := by decide +kernel
theorem dX5_fits_22 : decode cX5_fits 22 = .ok (.aload_n 0, 1) := by decide +kernel
theorem dX5_fits_23 : decode cX5_fits 23 = .ok (.iconst 0, 1) := by decide +kernel
theorem dX5_fits_24 : decode cX5_fits 24 = .ok (.iload_n 1, 1) := by decide +kernel
theorem dX5_fits_25 : decode cX5_fits 25 = .ok (.iload_n 3, 1) := by decide +kernel
theorem dX5_fits_26 : decode cX5_fits 26 = .ok (.imul, 1) := by decide +kernel
theorem dX5_fits_27 : decode cX5_fits 27 = .ok (.iload 5, 2) := by decide +kernel
theorem dX5_fits_29 : decode cX5_fits 29 = .ok (.invokevirtual 56, 3) := by decide +kernel
theorem dX5_fits_32 : decode cX5_fits 32 = .ok (.aload_n 0, 1) := by decide +kernel
theorem dX5_fits_33 : decode cX5_fits 33 = .ok (.iconst 1, 1) := by decide +kernel
theorem dX5_fits_34 : decode cX5_fits 34 = .ok (.iload 4, 2) := by decide +kernel
theorem dX5_fits_36 : decode cX5_fits 36 = .ok (.iload 5, 2) := by decide +kernel
theorem dX5_fits_38 : decode cX5_fits 38 = .ok (.invokevirtual 56, 3) := by decide +kernel
theorem dX5_fits_41 : decode cX5_fits 41 = .ok (.if_icmp .eq 5, 3) := by decide +kernel
theorem dX5_fits_44 : decode cX5_fits 44 = .ok (.iconst 0, 1) := by decide +kernel
theorem dX5_fits_45 : decode cX5_fits 45 = .ok (.ireturn, 1) := by decide +kernel
theorem dX5_fits_46 : decode cX5_fits 46 = .ok (.aload_n 0, 1) := by decide +kernel
theorem dX5_fits_47 : decode cX5_fits 47 = .ok (.iconst 0, 1) := by decide +kernel
theorem dX5_fits_48 : decode cX5_fits 48 = .ok (.iload_n 1, 1) := by decide +kernel
theorem dX5_fits_49 : decode cX5_fits 49 = .ok (.iload_n 3, 1) := by decide +kernel
theorem dX5_fits_50 : decode cX5_fits 50 = .ok (.imul, 1) := by decide +kernel
theorem dX5_fits_51 : decode cX5_fits 51 = .ok (.iload 5, 2) := by decide +kernel
theorem dX5_fits_53 : decode cX5_fits 53 = .ok (.invokevirtual 60, 3) := by decide +kernel
theorem dX5_fits_56 : decode cX5_fits 56 = .ok (.aload_n 0, 1) := by decide +kernel
theorem dX5_fits_57 : decode cX5_fits 57 = .ok (.iconst 1, 1) := by decide +kernel
theorem dX5_fits_58 : decode cX5_fits 58 = .ok (.iload 4, 2) := by decide +kernel
theorem dX5_fits_60 : decode cX5_fits 60 = .ok (.iload 5, 2) := by decide +kernel
theorem dX5_fits_62 : decode cX5_fits 62 = .ok (.invokevirtual 60, 3) := by decide +kernel
theorem dX5_fits_65 : decode cX5_fits 65 = .ok (.lxor, 1) := by decide +kernel
theorem dX5_fits_66 : decode cX5_fits 66 = .ok (.lstore 6, 2) := by decide +kernel
theorem dX5_fits_68 : decode cX5_fits 68 = .ok (.iload_n 2, 1) := by decide +kernel
theorem dX5_fits_69 : decode cX5_fits 69 = .ok (.ifCond .eq 15, 3) := by decide +kernel
theorem dX5_fits_72 : decode cX5_fits 72 = .ok (.lload 6, 2) := by decide +kernel
theorem dX5_fits_74 : decode cX5_fits 74 = .ok (.bipush 64, 2) := by decide +kernel
theorem dX5_fits_76 : decode cX5_fits 76 = .ok (.iload_n 2, 1) := by decide +kernel
theorem dX5_fits_77 : decode cX5_fits 77 = .ok (.isub, 1) := by decide +kernel
theorem dX5_fits_78 : decode cX5_fits 78 = .ok (.lshl, 1) := by decide +kernel
theorem dX5_fits_79 : decode cX5_fits 79 = .ok (.lconst 0, 1) := by decide +kernel
theorem dX5_fits_80 : decode cX5_fits 80 = .ok (.lcmp, 1) := by decide +kernel
theorem dX5_fits_81 : decode cX5_fits 81 = .ok (.ifCond .ne 7, 3) := by decide +kernel
theorem dX5_fits_84 : decode cX5_fits 84 = .ok (.iconst 1, 1) := by decide +kernel
theorem dX5_fits_85 : decode cX5_fits 85 = .ok (.goto 4, 3) := by decide +kernel
theorem dX5_fits_88 : decode cX5_fits 88 = .ok (.iconst 0, 1) := by decide +kernel
theorem dX5_fits_89 : decode cX5_fits 89 = .ok (.ireturn, 1) := by decide +kernel
end
section
theorem dX5_find_0 : decode cX5_find 0 = .ok (.aload_n 0, 1) := by decide +kernel
theorem dX5_find_1 : decode cX5_find 1 = .ok (.iload_n 1, 1) := by decide +kernel
theorem dX5_find_2 : decode cX5_find 2 = .ok (.iload_n 2, 1) := by decide +kernel
theorem dX5_find_3 : decode cX5_find 3 = .ok (.invokestatic 68, 3) := by decide +kernel
theorem dX5_find_6 : decode cX5_find 6 = .ok (.iconst 1, 1) := by decide +kernel
theorem dX5_find_7 : decode cX5_find 7 = .ok (.invokevirtual 42, 3) := by decide +kernel
theorem dX5_find_10 : decode cX5_find 10 = .ok (.ifCond .eq 5, 3) := by decide +kernel
theorem dX5_find_13 : decode cX5_find 13 = .ok (.iconst 0, 1) := by decide +kernel
theorem dX5_find_14 : decode cX5_find 14 = .ok (.ireturn, 1) := by decide +kernel
theorem dX5_find_15 : decode cX5_find 15 = .ok (.aload_n 0, 1) := by decide +kernel
theorem dX5_find_16 : decode cX5_find 16 = .ok (.iload_n 3, 1) := by decide +kernel
theorem dX5_find_17 : decode cX5_find 17 = .ok (.ifCond .lt 17, 3) := by decide +kernel
theorem dX5_find_20 : decode cX5_find 20 = .ok (.iload_n 3, 1) := by decide +kernel
theorem dX5_find_21 : decode cX5_find 21 = .ok (.aload_n 0, 1) := by decide +kernel
theorem dX5_find_22 : decode cX5_find 22 = .ok (.iload_n 1, 1) := by decide +kernel
theorem dX5_find_23 : decode cX5_find 23 = .ok (.invokevirtual 72, 3) := by decide +kernel
theorem dX5_find_26 : decode cX5_find 26 = .ok (.if_icmp .ge 8, 3) := by decide +kernel
theorem dX5_find_29 : decode cX5_find 29 = .ok (.iload 4, 2) := by decide +kernel
theorem dX5_find_31 : decode cX5_find 31 = .ok (.ifCond .ge 7, 3) := by decide +kernel
theorem dX5_find_34 : decode cX5_find 34 = .ok (.iconst 1, 1) := by decide +kernel
theorem dX5_find_35 : decode cX5_find 35 = .ok (.goto 4, 3) := by decide +kernel
theorem dX5_find_38 : decode cX5_find 38 = .ok (.iconst 0, 1) := by decide +kernel
theorem dX5_find_39 : decode cX5_find 39 = .ok (.iconst 2, 1) := by decide +kernel
theorem dX5_find_40 : decode cX5_find 40 = .ok (.invokevirtual 42, 3) := by decide +kernel
theorem dX5_find_43 : decode cX5_find 43 = .ok (.ifCond .eq 5, 3) := by decide +kernel
theorem dX5_find_46 : decode cX5_find 46 = .ok (.iconst 0, 1) := by decide +kernel
theorem dX5_find_47 : decode cX5_find 47 = .ok (.ireturn, 1) := by decide +kernel
theorem dX5_find_48 : decode cX5_find 48 = .ok (.iload 4, 2) := by decide +kernel
theorem dX5_find_50 : decode cX5_find 50 = .ok (.istore 5, 2) := by decide +kernel
theorem dX5_find_52 : decode cX5_find 52 = .ok (.iload 5, 2) := by decide +kernel
theorem dX5_find_54 : decode cX5_find 54 = .ok (.aload_n 0, 1) := by decide +kernel
theorem dX5_find_55 : decode cX5_find 55 = .ok (.getfield 19, 3) := by decide +kernel
theorem dX5_find_58 : decode cX5_find 58 = .ok (.iconst 1, 1) := by decide +kernel
theorem dX5_find_59 : decode cX5_find 59 = .ok (.iaload, 1) := by decide +kernel
theorem dX5_find_60 : decode cX5_find 60 = .ok (.if_icmp .ge 24, 3) := by decide +kernel
theorem dX5_find_63 : decode cX5_find 63 = .ok (.aload_n 0, 1) := by decide +kernel
theorem dX5_find_64 : decode cX5_find 64 = .ok (.iload_n 1, 1) := by decide +kernel
theorem dX5_find_65 : decode cX5_find 65 = .ok (.iload_n 2, 1) := by decide +kernel
theorem dX5_find_66 : decode cX5_find 66 = .ok (.iload_n 3, 1) := by decide +kernel
theorem dX5_find_67 : decode cX5_find 67 = .ok (.iload 5, 2) := by decide +kernel
theorem dX5_find_69 : decode cX5_find 69 = .ok (.invokevirtual 76, 3) := by decide +kernel
theorem dX5_find_72 : decode cX5_find 72 = .ok (.ifCond .eq 6, 3) := by decide +kernel
theorem dX5_find_75 : decode cX5_find 75 = .ok (.iload 5, 2) := by decide +kernel
theorem dX5_find_77 : decode cX5_find 77 = .ok (.ireturn, 1) := by decide +kernel
theorem dX5_find_78 : decode cX5_find 78 = .ok (.iinc 5 1, 3) := by decide +kernel
theorem dX5_find_81 : decode cX5_find 81 = .ok (.goto (-29), 3) := by decide +kernel
theorem dX5_find_84 : decode cX5_find 84 = .ok (.iconst (-1), 1) := by decide +kernel
theorem dX5_find_85 : decode cX5_find 85 = .ok (.ireturn, 1) := by decide +kernel
theorem dX5_delta_0 : decode cX5_delta 0 = .ok (.aload_n 0, 1) := by decide +kernel
theorem dX5_delta_1 : decode cX5_delta 1 = .ok (.iload_n 1, 1) := by decide +kernel
theorem dX5_delta_2 : decode cX5_delta 2 = .ok (.iload_n 2, 1) := by decide +kernel
theorem dX5_delta_3 : decode cX5_delta 3 = .ok (.invokestatic 68, 3) := by decide +kernel
theorem dX5_delta_6 : decode cX5_delta 6 = .ok (.iconst 1, 1) := by decide +kernel
theorem dX5_delta_7 : decode cX5_delta 7 = .ok (.invokevirtual 42, 3) := by decide +kernel
theorem dX5_delta_10 : decode cX5_delta 10 = .ok (.ifCond .eq 5, 3) := by decide +kernel
theorem dX5_delta_13 : decode cX5_delta 13 = .ok (.iconst 0, 1) := by decide +kernel
theorem dX5_delta_14 : decode cX5_delta 14 = .ok (.ireturn, 1) := by decide +kernel
theorem dX5_delta_15 : decode cX5_delta 15 = .ok (.aload_n 0, 1) := by decide +kernel
theorem dX5_delta_16 : decode cX5_delta 16 = .ok (.iconst 1, 1) := by decide +kernel
theorem dX5_delta_17 : decode cX5_delta 17 = .ok (.putfield 80, 3) := by decide +kernel
theorem dX5_delta_20 : decode cX5_delta 20 = .ok (.aload_n 0, 1) := by decide +kernel
theorem dX5_delta_21 : decode cX5_delta 21 = .ok (.iconst 0, 1) := by decide +kernel
theorem dX5_delta_22 : decode cX5_delta 22 = .ok (.putfield 84, 3) := by decide +kernel
theorem dX5_delta_25 : decode cX5_delta 25 = .ok (.aload_n 0, 1) := by decide +kernel
theorem dX5_delta_26 : decode cX5_delta 26 = .ok (.iload_n 1, 1) := by decide +kernel
theorem dX5_delta_27 : decode cX5_delta 27 = .ok (.invokevirtual 72, 3) := by decide +kernel
theorem dX5_delta_30 : decode cX5_delta 30 = .ok (.istore_n 3, 1) := by decide +kernel
theorem dX5_delta_31 : decode cX5_delta 31 = .ok (.iconst 0, 1) := by decide +kernel
theorem dX5_delta_32 : decode cX5_delta 32 = .ok (.istore 4, 2) := by decide +kernel
theorem dX5_delta_34 : decode cX5_delta 34 = .ok (.iconst (-1), 1) := by decide +kernel
theorem dX5_delta_35 : decode cX5_delta 35 = .ok (.istore 5, 2) := by decide +kernel
theorem dX5_delta_37 : decode cX5_delta 37 = .ok (.iload 4, 2) := by decide +kernel
theorem dX5_delta_39 : decode cX5_delta 39 = .ok (.aload_n 0, 1) := by decide +kernel
theorem dX5_delta_40 : decode cX5_delta 40 = .ok (.getfield 19, 3) := by decide +kernel
theorem dX5_delta_43 : decode cX5_delta 43 = .ok (.iconst 1, 1) := by decide +kernel
theorem dX5_delta_44 : decode cX5_delta 44 = .ok (.iaload, 1) := by decide +kernel
theorem dX5_delta_45 : decode cX5_delta 45 = .ok (.if_icmp .ge 246, 3) := by decide +kernel
theorem dX5_delta_48 : decode cX5_delta 48 = .ok (.iload 5, 2) := by decide +kernel
theorem dX5_delta_50 : decode cX5_delta 50 = .ok (.ifCond .lt 33, 3) := by decide +kernel
theorem dX5_delta_53 : decode cX5_delta 53 = .ok (.iload 5, 2) := by decide +kernel
theorem dX5_delta_55 : decode cX5_delta 55 = .ok (.iconst 1, 1) := by decide +kernel
theorem dX5_delta_56 : decode cX5_delta 56 = .ok (.iadd, 1) := by decide +kernel
theorem dX5_delta_57 : decode cX5_delta 57 = .ok (.iload_n 3, 1) := by decide +kernel
theorem dX5_delta_58 : decode cX5_delta 58 = .ok (.if_icmp .ge 25, 3) := by decide +kernel
theorem dX5_delta_61 : decode cX5_delta 61 = .ok (.aload_n 0, 1) := by decide +kernel
theorem dX5_delta_62 : decode cX5_delta 62 = .ok (.iload_n 1, 1) := by decide +kernel
theorem dX5_delta_63 : decode cX5_delta 63 = .ok (.iload_n 2, 1) := by decide +kernel
theorem dX5_delta_64 : decode cX5_delta 64 = .ok (.iload 5, 2) := by decide +kernel
theorem dX5_delta_66 : decode cX5_delta 66 = .ok (.iconst 1, 1) := by decide +kernel
theorem dX5_delta_67 : decode cX5_delta 67 = .ok (.iadd, 1) := by decide +kernel
theorem dX5_delta_68 : decode cX5_delta 68 = .ok (.iload 4, 2) := by decide +kernel
theorem dX5_delta_70 : decode cX5_delta 70 = .ok (.invokevirtual 76, 3) := by decide +kernel
theorem dX5_delta_73 : decode cX5_delta 73 = .ok (.ifCond .eq 10, 3) := by decide +kernel
theorem dX5_delta_76 : decode cX5_delta 76 = .ok (.iload 5, 2) := by decide +kernel
theorem dX5_delta_78 : decode cX5_delta 78 = .ok (.iconst 1, 1) := by decide +kernel
theorem dX5_delta_79 : decode cX5_delta 79 = .ok (.iadd, 1) := by decide +kernel
theorem dX5_delta_80 : decode cX5_delta 80 = .ok (.goto 4, 3) := by decide +kernel
theorem dX5_delta_83 : decode cX5_delta 83 = .ok (.iconst (-1), 1) := by decide +kernel
theorem dX5_delta_84 : decode cX5_delta 84 = .ok (.istore 6, 2) := by decide +kernel
theorem dX5_delta_86 : decode cX5_delta 86 = .ok (.iconst 0, 1) := by decide +kernel
theorem dX5_delta_87 : decode cX5_delta 87 = .ok (.istore 7, 2) := by decide +kernel
theorem dX5_delta_89 : decode cX5_delta 89 = .ok (.iload 7, 2) := by decide +kernel
theorem dX5_delta_91 : decode cX5_delta 91 = .ok (.iload_n 3, 1) := by decide +kernel
theorem dX5_delta_92 : decode cX5_delta 92 = .ok (.if_icmp .ge 31, 3) := by decide +kernel
theorem dX5_delta_95 : decode cX5_delta 95 = .ok (.iload 6, 2) := by decide +kernel
theorem dX5_delta_97 : decode cX5_delta 97 = .ok (.ifCond .ge 26, 3) := by decide +kernel
theorem dX5_delta_100 : decode cX5_delta 100 = .ok (.aload_n 0, 1) := by decide +kernel
theorem dX5_delta_101 : decode cX5_delta 101 = .ok (.iload_n 1, 1) := by decide +kernel
theorem dX5_delta_102 : decode cX5_delta 102 = .ok (.iload_n 2, 1) := by decide +kernel
theorem dX5_delta_103 : decode cX5_delta 103 = .ok (.iload 7, 2) := by decide +kernel
theorem dX5_delta_105 : decode cX5_delta 105 = .ok (.iload 4, 2) := by decide +kernel
theorem dX5_delta_107 : decode cX5_delta 107 = .ok (.invokevirtual 76, 3) := by decide +kernel
theorem dX5_delta_110 : decode cX5_delta 110 = .ok (.ifCond .eq 7, 3) := by decide +kernel
theorem dX5_delta_113 : decode cX5_delta 113 = .ok (.iload 7, 2) := by decide +kernel
theorem dX5_delta_115 : decode cX5_delta 115 = .ok (.istore 6, 2) := by decide +kernel
theorem dX5_delta_117 : decode cX5_delta 117 = .ok (.iinc 7 1, 3) := by decide +kernel
theorem dX5_delta_120 : decode cX5_delta 120 = .ok (.goto (-31), 3) := by decide +kernel
theorem dX5_delta_123 : decode cX5_delta 123 = .ok (.iload 6, 2) := by decide +kernel
theorem dX5_delta_125 : decode cX5_delta 125 = .ok (.ifCond .lt 7, 3) := by decide +kernel
theorem dX5_delta_128 : decode cX5_delta 128 = .ok (.iconst 1, 1) := by decide +kernel
theorem dX5_delta_129 : decode cX5_delta 129 = .ok (.goto 4, 3) := by decide +kernel
theorem dX5_delta_132 : decode cX5_delta 132 = .ok (.iconst 0, 1) := by decide +kernel
theorem dX5_delta_133 : decode cX5_delta 133 = .ok (.istore 7, 2) := by decide +kernel
theorem dX5_delta_135 : decode cX5_delta 135 = .ok (.aload_n 0, 1) := by decide +kernel
theorem dX5_delta_136 : decode cX5_delta 136 = .ok (.getfield 84, 3) := by decide +kernel
theorem dX5_delta_139 : decode cX5_delta 139 = .ok (.ifCond .le 44, 3) := by decide +kernel
theorem dX5_delta_142 : decode cX5_delta 142 = .ok (.iload 7, 2) := by decide +kernel
theorem dX5_delta_144 : decode cX5_delta 144 = .ok (.ifCond .eq 20, 3) := by decide +kernel
theorem dX5_delta_147 : decode cX5_delta 147 = .ok (.iload 5, 2) := by decide +kernel
theorem dX5_delta_149 : decode cX5_delta 149 = .ok (.ifCond .lt 34, 3) := by decide +kernel
theorem dX5_delta_152 : decode cX5_delta 152 = .ok (.iload 6, 2) := by decide +kernel
theorem dX5_delta_154 : decode cX5_delta 154 = .ok (.iload 5, 2) := by decide +kernel
theorem dX5_delta_156 : decode cX5_delta 156 = .ok (.iconst 1, 1) := by decide +kernel
theorem dX5_delta_157 : decode cX5_delta 157 = .ok (.iadd, 1) := by decide +kernel
theorem dX5_delta_158 : decode cX5_delta 158 = .ok (.if_icmp .ne 25, 3) := by decide +kernel
theorem dX5_delta_161 : decode cX5_delta 161 = .ok (.goto 18, 3) := by decide +kernel
theorem dX5_delta_164 : decode cX5_delta 164 = .ok (.aload_n 0, 1) := by decide +kernel
theorem dX5_delta_165 : decode cX5_delta 165 = .ok (.getfield 25, 3) := by decide +kernel
theorem dX5_delta_168 : decode cX5_delta 168 = .ok (.aload_n 0, 1) := by decide +kernel
theorem dX5_delta_169 : decode cX5_delta 169 = .ok (.getfield 84, 3) := by decide +kernel
theorem dX5_delta_172 : decode cX5_delta 172 = .ok (.iconst 1, 1) := by decide +kernel
theorem dX5_delta_173 : decode cX5_delta 173 = .ok (.isub, 1) := by decide +kernel
theorem dX5_delta_174 : decode cX5_delta 174 = .ok (.iaload, 1) := by decide +kernel
theorem dX5_delta_175 : decode cX5_delta 175 = .ok (.iconst 1, 1) := by decide +kernel
theorem dX5_delta_176 : decode cX5_delta 176 = .ok (.if_icmp .ne 7, 3) := by decide +kernel
theorem dX5_delta_179 : decode cX5_delta 179 = .ok (.iconst 1, 1) := by decide +kernel
theorem dX5_delta_180 : decode cX5_delta 180 = .ok (.goto 4, 3) := by decide +kernel
theorem dX5_delta_183 : decode cX5_delta 183 = .ok (.iconst 0, 1) := by decide +kernel
theorem dX5_delta_184 : decode cX5_delta 184 = .ok (.istore 8, 2) := by decide +kernel
theorem dX5_delta_186 : decode cX5_delta 186 = .ok (.iload 8, 2) := by decide +kernel
theorem dX5_delta_188 : decode cX5_delta 188 = .ok (.ifCond .ne 60, 3) := by decide +kernel
theorem dX5_delta_191 : decode cX5_delta 191 = .ok (.aload_n 0, 1) := by decide +kernel
theorem dX5_delta_192 : decode cX5_delta 192 = .ok (.getfield 25, 3) := by decide +kernel
theorem dX5_delta_195 : decode cX5_delta 195 = .ok (.aload_n 0, 1) := by decide +kernel
theorem dX5_delta_196 : decode cX5_delta 196 = .ok (.getfield 84, 3) := by decide +kernel
theorem dX5_delta_199 : decode cX5_delta 199 = .ok (.iload 7, 2) := by decide +kernel
theorem dX5_delta_201 : decode cX5_delta 201 = .ok (.ifCond .eq 7, 3) := by decide +kernel
theorem dX5_delta_204 : decode cX5_delta 204 = .ok (.iconst 0, 1) := by decide +kernel
theorem dX5_delta_205 : decode cX5_delta 205 = .ok (.goto 4, 3) := by decide +kernel
theorem dX5_delta_208 : decode cX5_delta 208 = .ok (.iconst 1, 1) := by decide +kernel
theorem dX5_delta_209 : decode cX5_delta 209 = .ok (.iastore, 1) := by decide +kernel
theorem dX5_delta_210 : decode cX5_delta 210 = .ok (.aload_n 0, 1) := by decide +kernel
theorem dX5_delta_211 : decode cX5_delta 211 = .ok (.getfield 28, 3) := by decide +kernel
theorem dX5_delta_214 : decode cX5_delta 214 = .ok (.aload_n 0, 1) := by decide +kernel
theorem dX5_delta_215 : decode cX5_delta 215 = .ok (.getfield 84, 3) := by decide +kernel
theorem dX5_delta_218 : decode cX5_delta 218 = .ok (.iload 7, 2) := by decide +kernel
theorem dX5_delta_220 : decode cX5_delta 220 = .ok (.ifCond .eq 8, 3) := by decide +kernel
theorem dX5_delta_223 : decode cX5_delta 223 = .ok (.iload 6, 2) := by decide +kernel
theorem dX5_delta_225 : decode cX5_delta 225 = .ok (.goto 5, 3) := by decide +kernel
theorem dX5_delta_228 : decode cX5_delta 228 = .ok (.iload 4, 2) := by decide +kernel
theorem dX5_delta_230 : decode cX5_delta 230 = .ok (.iastore, 1) := by decide +kernel
theorem dX5_delta_231 : decode cX5_delta 231 = .ok (.aload_n 0, 1) := by decide +kernel
theorem dX5_delta_232 : decode cX5_delta 232 = .ok (.getfield 31, 3) := by decide +kernel
theorem dX5_delta_235 : decode cX5_delta 235 = .ok (.aload_n 0, 1) := by decide +kernel
theorem dX5_delta_236 : decode cX5_delta 236 = .ok (.dup, 1) := by decide +kernel
theorem dX5_delta_237 : decode cX5_delta 237 = .ok (.getfield 84, 3) := by decide +kernel
theorem dX5_delta_240 : decode cX5_delta 240 = .ok (.dup_x1, 1) := by decide +kernel
theorem dX5_delta_241 : decode cX5_delta 241 = .ok (.iconst 1, 1) := by decide +kernel
theorem dX5_delta_242 : decode cX5_delta 242 = .ok (.iadd, 1) := by decide +kernel
theorem dX5_delta_243 : decode cX5_delta 243 = .ok (.putfield 84, 3) := by decide +kernel
theorem dX5_delta_246 : decode cX5_delta 246 = .ok (.iconst 0, 1) := by decide +kernel
theorem dX5_delta_247 : decode cX5_delta 247 = .ok (.iastore, 1) := by decide +kernel
theorem dX5_delta_248 : decode cX5_delta 248 = .ok (.aload_n 0, 1) := by decide +kernel
theorem dX5_delta_249 : decode cX5_delta 249 = .ok (.getfield 31, 3) := by decide +kernel
theorem dX5_delta_252 : decode cX5_delta 252 = .ok (.aload_n 0, 1) := by decide +kernel
theorem dX5_delta_253 : decode cX5_delta 253 = .ok (.getfield 84, 3) := by decide +kernel
theorem dX5_delta_256 : decode cX5_delta 256 = .ok (.iconst 1, 1) := by decide +kernel
theorem dX5_delta_257 : decode cX5_delta 257 = .ok (.isub, 1) := by decide +kernel
theorem dX5_delta_258 : decode cX5_delta 258 = .ok (.dup2, 1) := by decide +kernel
theorem dX5_delta_259 : decode cX5_delta 259 = .ok (.iaload, 1) := by decide +kernel
theorem dX5_delta_260 : decode cX5_delta 260 = .ok (.iconst 1, 1) := by decide +kernel
theorem dX5_delta_261 : decode cX5_delta 261 = .ok (.iadd, 1) := by decide +kernel
theorem dX5_delta_262 : decode cX5_delta 262 = .ok (.iastore, 1) := by decide +kernel
theorem dX5_delta_263 : decode cX5_delta 263 = .ok (.iload 4, 2) := by decide +kernel
theorem dX5_delta_265 : decode cX5_delta 265 = .ok (.iload 7, 2) := by decide +kernel
theorem dX5_delta_267 : decode cX5_delta 267 = .ok (.ifCond .eq 13, 3) := by decide +kernel
theorem dX5_delta_270 : decode cX5_delta 270 = .ok (.aload_n 0, 1) := by decide +kernel
theorem dX5_delta_271 : decode cX5_delta 271 = .ok (.iload_n 1, 1) := by decide +kernel
theorem dX5_delta_272 : decode cX5_delta 272 = .ok (.iload 6, 2) := by decide +kernel
theorem dX5_delta_274 : decode cX5_delta 274 = .ok (.invokevirtual 64, 3) := by decide +kernel
theorem dX5_delta_277 : decode cX5_delta 277 = .ok (.goto 4, 3) := by decide +kernel
theorem dX5_delta_280 : decode cX5_delta 280 = .ok (.iconst 1, 1) := by decide +kernel
theorem dX5_delta_281 : decode cX5_delta 281 = .ok (.iadd, 1) := by decide +kernel
theorem dX5_delta_282 : decode cX5_delta 282 = .ok (.istore 4, 2) := by decide +kernel
theorem dX5_delta_284 : decode cX5_delta 284 = .ok (.iload 6, 2) := by decide +kernel
theorem dX5_delta_286 : decode cX5_delta 286 = .ok (.istore 5, 2) := by decide +kernel
theorem dX5_delta_288 : decode cX5_delta 288 = .ok (.goto (-251), 3) := by decide +kernel
theorem dX5_delta_291 : decode cX5_delta 291 = .ok (.iconst 0, 1) := by decide +kernel
theorem dX5_delta_292 : decode cX5_delta 292 = .ok (.istore 6, 2) := by decide +kernel
theorem dX5_delta_294 : decode cX5_delta 294 = .ok (.iload 6, 2) := by decide +kernel
theorem dX5_delta_296 : decode cX5_delta 296 = .ok (.sipush 2400, 3) := by decide +kernel
theorem dX5_delta_299 : decode cX5_delta 299 = .ok (.if_icmp .ge 23, 3) := by decide +kernel
theorem dX5_delta_302 : decode cX5_delta 302 = .ok (.aload_n 0, 1) := by decide +kernel
theorem dX5_delta_303 : decode cX5_delta 303 = .ok (.getfield 13, 3) := by decide +kernel
theorem dX5_delta_306 : decode cX5_delta 306 = .ok (.iload 6, 2) := by decide +kernel
theorem dX5_delta_308 : decode cX5_delta 308 = .ok (.aload_n 0, 1) := by decide +kernel
theorem dX5_delta_309 : decode cX5_delta 309 = .ok (.getfield 7, 3) := by decide +kernel
theorem dX5_delta_312 : decode cX5_delta 312 = .ok (.iload 6, 2) := by decide +kernel
theorem dX5_delta_314 : decode cX5_delta 314 = .ok (.iaload, 1) := by decide +kernel
theorem dX5_delta_315 : decode cX5_delta 315 = .ok (.iastore, 1) := by decide +kernel
theorem dX5_delta_316 : decode cX5_delta 316 = .ok (.iinc 6 1, 3) := by decide +kernel
theorem dX5_delta_319 : decode cX5_delta 319 = .ok (.goto (-25), 3) := by decide +kernel
theorem dX5_delta_322 : decode cX5_delta 322 = .ok (.aload_n 0, 1) := by decide +kernel
theorem dX5_delta_323 : decode cX5_delta 323 = .ok (.getfield 22, 3) := by decide +kernel
theorem dX5_delta_326 : decode cX5_delta 326 = .ok (.iconst 0, 1) := by decide +kernel
theorem dX5_delta_327 : decode cX5_delta 327 = .ok (.aload_n 0, 1) := by decide +kernel
theorem dX5_delta_328 : decode cX5_delta 328 = .ok (.getfield 19, 3) := by decide +kernel
theorem dX5_delta_331 : decode cX5_delta 331 = .ok (.iconst 0, 1) := by decide +kernel
theorem dX5_delta_332 : decode cX5_delta 332 = .ok (.iaload, 1) := by decide +kernel
theorem dX5_delta_333 : decode cX5_delta 333 = .ok (.iastore, 1) := by decide +kernel
theorem dX5_delta_334 : decode cX5_delta 334 = .ok (.aload_n 0, 1) := by decide +kernel
theorem dX5_delta_335 : decode cX5_delta 335 = .ok (.getfield 22, 3) := by decide +kernel
theorem dX5_delta_338 : decode cX5_delta 338 = .ok (.iconst 1, 1) := by decide +kernel
theorem dX5_delta_339 : decode cX5_delta 339 = .ok (.aload_n 0, 1) := by decide +kernel
theorem dX5_delta_340 : decode cX5_delta 340 = .ok (.getfield 19, 3) := by decide +kernel
theorem dX5_delta_343 : decode cX5_delta 343 = .ok (.iconst 1, 1) := by decide +kernel
theorem dX5_delta_344 : decode cX5_delta 344 = .ok (.iaload, 1) := by decide +kernel
theorem dX5_delta_345 : decode cX5_delta 345 = .ok (.iastore, 1) := by decide +kernel
theorem dX5_delta_346 : decode cX5_delta 346 = .ok (.aload_n 0, 1) := by decide +kernel
theorem dX5_delta_347 : decode cX5_delta 347 = .ok (.iload_n 1, 1) := by decide +kernel
theorem dX5_delta_348 : decode cX5_delta 348 = .ok (.putfield 87, 3) := by decide +kernel
theorem dX5_delta_351 : decode cX5_delta 351 = .ok (.aload_n 0, 1) := by decide +kernel
theorem dX5_delta_352 : decode cX5_delta 352 = .ok (.getfield 84, 3) := by decide +kernel
theorem dX5_delta_355 : decode cX5_delta 355 = .ok (.ireturn, 1) := by decide +kernel
end
section
theorem dX5_token_0 : decode cX5_token 0 = .ok (.aload_n 0, 1) := by decide +kernel
theorem dX5_token_1 : decode cX5_token 1 = .ok (.iload_n 2, 1) := by decide +kernel
theorem dX5_token_2 : decode cX5_token 2 = .ok (.ifCond .lt 8, 3) := by decide +kernel
theorem dX5_token_5 : decode cX5_token 5 = .ok (.iload_n 2, 1) := by decide +kernel
theorem dX5_token_6 : decode cX5_token 6 = .ok (.iconst 2, 1) := by decide +kernel
theorem dX5_token_7 : decode cX5_token 7 = .ok (.if_icmp .le 7, 3) := by decide +kernel
theorem dX5_token_10 : decode cX5_token 10 = .ok (.iconst 1, 1) := by decide +kernel
theorem dX5_token_11 : decode cX5_token 11 = .ok (.goto 4, 3) := by decide +kernel
theorem dX5_token_14 : decode cX5_token 14 = .ok (.iconst 0, 1) := by decide +kernel
theorem dX5_token_15 : decode cX5_token 15 = .ok (.iconst 1, 1) := by decide +kernel
theorem dX5_token_16 : decode cX5_token 16 = .ok (.invokevirtual 42, 3) := by decide +kernel
theorem dX5_token_19 : decode cX5_token 19 = .ok (.ifCond .eq 5, 3) := by decide +kernel
theorem dX5_token_22 : decode cX5_token 22 = .ok (.iconst 0, 1) := by decide +kernel
theorem dX5_token_23 : decode cX5_token 23 = .ok (.ireturn, 1) := by decide +kernel
theorem dX5_token_24 : decode cX5_token 24 = .ok (.aload_n 0, 1) := by decide +kernel
theorem dX5_token_25 : decode cX5_token 25 = .ok (.iload_n 1, 1) := by decide +kernel
theorem dX5_token_26 : decode cX5_token 26 = .ok (.ifCond .lt 11, 3) := by decide +kernel
theorem dX5_token_29 : decode cX5_token 29 = .ok (.iload_n 1, 1) := by decide +kernel
theorem dX5_token_30 : decode cX5_token 30 = .ok (.aload_n 0, 1) := by decide +kernel
theorem dX5_token_31 : decode cX5_token 31 = .ok (.getfield 84, 3) := by decide +kernel
theorem dX5_token_34 : decode cX5_token 34 = .ok (.if_icmp .lt 7, 3) := by decide +kernel
theorem dX5_token_37 : decode cX5_token 37 = .ok (.iconst 1, 1) := by decide +kernel
theorem dX5_token_38 : decode cX5_token 38 = .ok (.goto 4, 3) := by decide +kernel
theorem dX5_token_41 : decode cX5_token 41 = .ok (.iconst 0, 1) := by decide +kernel
theorem dX5_token_42 : decode cX5_token 42 = .ok (.iconst 2, 1) := by decide +kernel
theorem dX5_token_43 : decode cX5_token 43 = .ok (.invokevirtual 42, 3) := by decide +kernel
theorem dX5_token_46 : decode cX5_token 46 = .ok (.ifCond .eq 5, 3) := by decide +kernel
theorem dX5_token_49 : decode cX5_token 49 = .ok (.iconst 0, 1) := by decide +kernel
theorem dX5_token_50 : decode cX5_token 50 = .ok (.ireturn, 1) := by decide +kernel
theorem dX5_token_51 : decode cX5_token 51 = .ok (.iload_n 2, 1) := by decide +kernel
theorem dX5_token_52 : decode cX5_token 52 = .ok (.ifCond .ne 12, 3) := by decide +kernel
theorem dX5_token_55 : decode cX5_token 55 = .ok (.aload_n 0, 1) := by decide +kernel
theorem dX5_token_56 : decode cX5_token 56 = .ok (.getfield 25, 3) := by decide +kernel
theorem dX5_token_59 : decode cX5_token 59 = .ok (.iload_n 1, 1) := by decide +kernel
theorem dX5_token_60 : decode cX5_token 60 = .ok (.iaload, 1) := by decide +kernel
theorem dX5_token_61 : decode cX5_token 61 = .ok (.goto 23, 3) := by decide +kernel
theorem dX5_token_64 : decode cX5_token 64 = .ok (.iload_n 2, 1) := by decide +kernel
theorem dX5_token_65 : decode cX5_token 65 = .ok (.iconst 1, 1) := by decide +kernel
theorem dX5_token_66 : decode cX5_token 66 = .ok (.if_icmp .ne 12, 3) := by decide +kernel
theorem dX5_token_69 : decode cX5_token 69 = .ok (.aload_n 0, 1) := by decide +kernel
theorem dX5_token_70 : decode cX5_token 70 = .ok (.getfield 28, 3) := by decide +kernel
theorem dX5_token_73 : decode cX5_token 73 = .ok (.iload_n 1, 1) := by decide +kernel
theorem dX5_token_74 : decode cX5_token 74 = .ok (.iaload, 1) := by decide +kernel
theorem dX5_token_75 : decode cX5_token 75 = .ok (.goto 9, 3) := by decide +kernel
theorem dX5_token_78 : decode cX5_token 78 = .ok (.aload_n 0, 1) := by decide +kernel
theorem dX5_token_79 : decode cX5_token 79 = .ok (.getfield 31, 3) := by decide +kernel
theorem dX5_token_82 : decode cX5_token 82 = .ok (.iload_n 1, 1) := by decide +kernel
theorem dX5_token_83 : decode cX5_token 83 = .ok (.iaload, 1) := by decide +kernel
theorem dX5_token_84 : decode cX5_token 84 = .ok (.ireturn, 1) := by decide +kernel
theorem dX5_sent_0 : decode cX5_sent 0 = .ok (.aload_n 0, 1) := by decide +kernel
theorem dX5_sent_1 : decode cX5_sent 1 = .ok (.iconst 0, 1) := by decide +kernel
theorem dX5_sent_2 : decode cX5_sent 2 = .ok (.putfield 34, 3) := by decide +kernel
theorem dX5_sent_5 : decode cX5_sent 5 = .ok (.iconst 0, 1) := by decide +kernel
theorem dX5_sent_6 : decode cX5_sent 6 = .ok (.istore_n 1, 1) := by decide +kernel
theorem dX5_sent_7 : decode cX5_sent 7 = .ok (.iconst 0, 1) := by decide +kernel
theorem dX5_sent_8 : decode cX5_sent 8 = .ok (.istore_n 2, 1) := by decide +kernel
theorem dX5_sent_9 : decode cX5_sent 9 = .ok (.iload_n 2, 1) := by decide +kernel
theorem dX5_sent_10 : decode cX5_sent 10 = .ok (.aload_n 0, 1) := by decide +kernel
theorem dX5_sent_11 : decode cX5_sent 11 = .ok (.getfield 84, 3) := by decide +kernel
theorem dX5_sent_14 : decode cX5_sent 14 = .ok (.if_icmp .ge 33, 3) := by decide +kernel
theorem dX5_sent_17 : decode cX5_sent 17 = .ok (.iload_n 1, 1) := by decide +kernel
theorem dX5_sent_18 : decode cX5_sent 18 = .ok (.aload_n 0, 1) := by decide +kernel
theorem dX5_sent_19 : decode cX5_sent 19 = .ok (.getfield 25, 3) := by decide +kernel
theorem dX5_sent_22 : decode cX5_sent 22 = .ok (.iload_n 2, 1) := by decide +kernel
theorem dX5_sent_23 : decode cX5_sent 23 = .ok (.iaload, 1) := by decide +kernel
theorem dX5_sent_24 : decode cX5_sent 24 = .ok (.ifCond .ne 7, 3) := by decide +kernel
theorem dX5_sent_27 : decode cX5_sent 27 = .ok (.iconst 5, 1) := by decide +kernel
theorem dX5_sent_28 : decode cX5_sent 28 = .ok (.goto 11, 3) := by decide +kernel
theorem dX5_sent_31 : decode cX5_sent 31 = .ok (.iconst 3, 1) := by decide +kernel
theorem dX5_sent_32 : decode cX5_sent 32 = .ok (.aload_n 0, 1) := by decide +kernel
theorem dX5_sent_33 : decode cX5_sent 33 = .ok (.getfield 31, 3) := by decide +kernel
theorem dX5_sent_36 : decode cX5_sent 36 = .ok (.iload_n 2, 1) := by decide +kernel
theorem dX5_sent_37 : decode cX5_sent 37 = .ok (.iaload, 1) := by decide +kernel
theorem dX5_sent_38 : decode cX5_sent 38 = .ok (.iadd, 1) := by decide +kernel
theorem dX5_sent_39 : decode cX5_sent 39 = .ok (.iadd, 1) := by decide +kernel
theorem dX5_sent_40 : decode cX5_sent 40 = .ok (.istore_n 1, 1) := by decide +kernel
theorem dX5_sent_41 : decode cX5_sent 41 = .ok (.iinc 2 1, 3) := by decide +kernel
theorem dX5_sent_44 : decode cX5_sent 44 = .ok (.goto (-35), 3) := by decide +kernel
theorem dX5_sent_47 : decode cX5_sent 47 = .ok (.iload_n 1, 1) := by decide +kernel
theorem dX5_sent_48 : decode cX5_sent 48 = .ok (.ireturn, 1) := by decide +kernel
theorem dX5_patch_0 : decode cX5_patch 0 = .ok (.aload_n 0, 1) := by decide +kernel
theorem dX5_patch_1 : decode cX5_patch 1 = .ok (.iconst 0, 1) := by decide +kernel
theorem dX5_patch_2 : decode cX5_patch 2 = .ok (.putfield 34, 3) := by decide +kernel
theorem dX5_patch_5 : decode cX5_patch 5 = .ok (.aload_n 0, 1) := by decide +kernel
theorem dX5_patch_6 : decode cX5_patch 6 = .ok (.getfield 80, 3) := by decide +kernel
theorem dX5_patch_9 : decode cX5_patch 9 = .ok (.ifCond .ne 5, 3) := by decide +kernel
theorem dX5_patch_12 : decode cX5_patch 12 = .ok (.iconst 0, 1) := by decide +kernel
theorem dX5_patch_13 : decode cX5_patch 13 = .ok (.ireturn, 1) := by decide +kernel
theorem dX5_patch_14 : decode cX5_patch 14 = .ok (.iconst 0, 1) := by decide +kernel
theorem dX5_patch_15 : decode cX5_patch 15 = .ok (.istore_n 1, 1) := by decide +kernel
theorem dX5_patch_16 : decode cX5_patch 16 = .ok (.iconst 0, 1) := by decide +kernel
theorem dX5_patch_17 : decode cX5_patch 17 = .ok (.istore_n 2, 1) := by decide +kernel
theorem dX5_patch_18 : decode cX5_patch 18 = .ok (.iload_n 2, 1) := by decide +kernel
theorem dX5_patch_19 : decode cX5_patch 19 = .ok (.aload_n 0, 1) := by decide +kernel
theorem dX5_patch_20 : decode cX5_patch 20 = .ok (.getfield 84, 3) := by decide +kernel
theorem dX5_patch_23 : decode cX5_patch 23 = .ok (.if_icmp .ge 152, 3) := by decide +kernel
theorem dX5_patch_26 : decode cX5_patch 26 = .ok (.aload_n 0, 1) := by decide +kernel
theorem dX5_patch_27 : decode cX5_patch 27 = .ok (.getfield 25, 3) := by decide +kernel
theorem dX5_patch_30 : decode cX5_patch 30 = .ok (.iload_n 2, 1) := by decide +kernel
theorem dX5_patch_31 : decode cX5_patch 31 = .ok (.iaload, 1) := by decide +kernel
theorem dX5_patch_32 : decode cX5_patch 32 = .ok (.ifCond .ne 17, 3) := by decide +kernel
theorem dX5_patch_35 : decode cX5_patch 35 = .ok (.aload_n 0, 1) := by decide +kernel
theorem dX5_patch_36 : decode cX5_patch 36 = .ok (.getfield 87, 3) := by decide +kernel
theorem dX5_patch_39 : decode cX5_patch 39 = .ok (.aload_n 0, 1) := by decide +kernel
theorem dX5_patch_40 : decode cX5_patch 40 = .ok (.getfield 28, 3) := by decide +kernel
theorem dX5_patch_43 : decode cX5_patch 43 = .ok (.iload_n 2, 1) := by decide +kernel
theorem dX5_patch_44 : decode cX5_patch 44 = .ok (.iaload, 1) := by decide +kernel
theorem dX5_patch_45 : decode cX5_patch 45 = .ok (.imul, 1) := by decide +kernel
theorem dX5_patch_46 : decode cX5_patch 46 = .ok (.goto 13, 3) := by decide +kernel
theorem dX5_patch_49 : decode cX5_patch 49 = .ok (.sipush 1200, 3) := by decide +kernel
theorem dX5_patch_52 : decode cX5_patch 52 = .ok (.aload_n 0, 1) := by decide +kernel
theorem dX5_patch_53 : decode cX5_patch 53 = .ok (.getfield 28, 3) := by decide +kernel
theorem dX5_patch_56 : decode cX5_patch 56 = .ok (.iload_n 2, 1) := by decide +kernel
theorem dX5_patch_57 : decode cX5_patch 57 = .ok (.iaload, 1) := by decide +kernel
theorem dX5_patch_58 : decode cX5_patch 58 = .ok (.iadd, 1) := by decide +kernel
theorem dX5_patch_59 : decode cX5_patch 59 = .ok (.istore_n 3, 1) := by decide +kernel
theorem dX5_patch_60 : decode cX5_patch 60 = .ok (.aload_n 0, 1) := by decide +kernel
theorem dX5_patch_61 : decode cX5_patch 61 = .ok (.getfield 25, 3) := by decide +kernel
theorem dX5_patch_64 : decode cX5_patch 64 = .ok (.iload_n 2, 1) := by decide +kernel
theorem dX5_patch_65 : decode cX5_patch 65 = .ok (.iaload, 1) := by decide +kernel
theorem dX5_patch_66 : decode cX5_patch 66 = .ok (.ifCond .ne 24, 3) := by decide +kernel
theorem dX5_patch_69 : decode cX5_patch 69 = .ok (.aload_n 0, 1) := by decide +kernel
theorem dX5_patch_70 : decode cX5_patch 70 = .ok (.getfield 87, 3) := by decide +kernel
theorem dX5_patch_73 : decode cX5_patch 73 = .ok (.aload_n 0, 1) := by decide +kernel
theorem dX5_patch_74 : decode cX5_patch 74 = .ok (.getfield 28, 3) := by decide +kernel
theorem dX5_patch_77 : decode cX5_patch 77 = .ok (.iload_n 2, 1) := by decide +kernel
theorem dX5_patch_78 : decode cX5_patch 78 = .ok (.iaload, 1) := by decide +kernel
theorem dX5_patch_79 : decode cX5_patch 79 = .ok (.aload_n 0, 1) := by decide +kernel
theorem dX5_patch_80 : decode cX5_patch 80 = .ok (.getfield 31, 3) := by decide +kernel
theorem dX5_patch_83 : decode cX5_patch 83 = .ok (.iload_n 2, 1) := by decide +kernel
theorem dX5_patch_84 : decode cX5_patch 84 = .ok (.iaload, 1) := by decide +kernel
theorem dX5_patch_85 : decode cX5_patch 85 = .ok (.iadd, 1) := by decide +kernel
theorem dX5_patch_86 : decode cX5_patch 86 = .ok (.imul, 1) := by decide +kernel
theorem dX5_patch_87 : decode cX5_patch 87 = .ok (.goto 20, 3) := by decide +kernel
theorem dX5_patch_90 : decode cX5_patch 90 = .ok (.sipush 1200, 3) := by decide +kernel
theorem dX5_patch_93 : decode cX5_patch 93 = .ok (.aload_n 0, 1) := by decide +kernel
theorem dX5_patch_94 : decode cX5_patch 94 = .ok (.getfield 28, 3) := by decide +kernel
theorem dX5_patch_97 : decode cX5_patch 97 = .ok (.iload_n 2, 1) := by decide +kernel
theorem dX5_patch_98 : decode cX5_patch 98 = .ok (.iaload, 1) := by decide +kernel
theorem dX5_patch_99 : decode cX5_patch 99 = .ok (.iadd, 1) := by decide +kernel
theorem dX5_patch_100 : decode cX5_patch 100 = .ok (.aload_n 0, 1) := by decide +kernel
theorem dX5_patch_101 : decode cX5_patch 101 = .ok (.getfield 31, 3) := by decide +kernel
theorem dX5_patch_104 : decode cX5_patch 104 = .ok (.iload_n 2, 1) := by decide +kernel
theorem dX5_patch_105 : decode cX5_patch 105 = .ok (.iaload, 1) := by decide +kernel
theorem dX5_patch_106 : decode cX5_patch 106 = .ok (.iadd, 1) := by decide +kernel
theorem dX5_patch_107 : decode cX5_patch 107 = .ok (.istore 4, 2) := by decide +kernel
theorem dX5_patch_109 : decode cX5_patch 109 = .ok (.aload_n 0, 1) := by decide +kernel
theorem dX5_patch_110 : decode cX5_patch 110 = .ok (.getfield 25, 3) := by decide +kernel
theorem dX5_patch_113 : decode cX5_patch 113 = .ok (.iload_n 2, 1) := by decide +kernel
theorem dX5_patch_114 : decode cX5_patch 114 = .ok (.iaload, 1) := by decide +kernel
theorem dX5_patch_115 : decode cX5_patch 115 = .ok (.ifCond .ne 22, 3) := by decide +kernel
theorem dX5_patch_118 : decode cX5_patch 118 = .ok (.iload 4, 2) := by decide +kernel
theorem dX5_patch_120 : decode cX5_patch 120 = .ok (.aload_n 0, 1) := by decide +kernel
theorem dX5_patch_121 : decode cX5_patch 121 = .ok (.getfield 22, 3) := by decide +kernel
theorem dX5_patch_124 : decode cX5_patch 124 = .ok (.iconst 0, 1) := by decide +kernel
theorem dX5_patch_125 : decode cX5_patch 125 = .ok (.iaload, 1) := by decide +kernel
theorem dX5_patch_126 : decode cX5_patch 126 = .ok (.if_icmp .le 11, 3) := by decide +kernel
theorem dX5_patch_129 : decode cX5_patch 129 = .ok (.aload_n 0, 1) := by decide +kernel
theorem dX5_patch_130 : decode cX5_patch 130 = .ok (.getfield 22, 3) := by decide +kernel
theorem dX5_patch_133 : decode cX5_patch 133 = .ok (.iconst 0, 1) := by decide +kernel
theorem dX5_patch_134 : decode cX5_patch 134 = .ok (.iaload, 1) := by decide +kernel
theorem dX5_patch_135 : decode cX5_patch 135 = .ok (.istore 4, 2) := by decide +kernel
theorem dX5_patch_137 : decode cX5_patch 137 = .ok (.iload_n 3, 1) := by decide +kernel
theorem dX5_patch_138 : decode cX5_patch 138 = .ok (.istore 5, 2) := by decide +kernel
theorem dX5_patch_140 : decode cX5_patch 140 = .ok (.iload 5, 2) := by decide +kernel
theorem dX5_patch_142 : decode cX5_patch 142 = .ok (.iload 4, 2) := by decide +kernel
theorem dX5_patch_144 : decode cX5_patch 144 = .ok (.if_icmp .ge 25, 3) := by decide +kernel
theorem dX5_patch_147 : decode cX5_patch 147 = .ok (.aload_n 0, 1) := by decide +kernel
theorem dX5_patch_148 : decode cX5_patch 148 = .ok (.getfield 16, 3) := by decide +kernel
theorem dX5_patch_151 : decode cX5_patch 151 = .ok (.iload_n 1, 1) := by decide +kernel
theorem dX5_patch_152 : decode cX5_patch 152 = .ok (.iinc 1 1, 3) := by decide +kernel
theorem dX5_patch_155 : decode cX5_patch 155 = .ok (.aload_n 0, 1) := by decide +kernel
theorem dX5_patch_156 : decode cX5_patch 156 = .ok (.getfield 13, 3) := by decide +kernel
theorem dX5_patch_159 : decode cX5_patch 159 = .ok (.iload 5, 2) := by decide +kernel
theorem dX5_patch_161 : decode cX5_patch 161 = .ok (.iaload, 1) := by decide +kernel
theorem dX5_patch_162 : decode cX5_patch 162 = .ok (.iastore, 1) := by decide +kernel
theorem dX5_patch_163 : decode cX5_patch 163 = .ok (.iinc 5 1, 3) := by decide +kernel
theorem dX5_patch_166 : decode cX5_patch 166 = .ok (.goto (-26), 3) := by decide +kernel
theorem dX5_patch_169 : decode cX5_patch 169 = .ok (.iinc 2 1, 3) := by decide +kernel
theorem dX5_patch_172 : decode cX5_patch 172 = .ok (.goto (-154), 3) := by decide +kernel
theorem dX5_patch_175 : decode cX5_patch 175 = .ok (.iconst 0, 1) := by decide +kernel
theorem dX5_patch_176 : decode cX5_patch 176 = .ok (.istore_n 2, 1) := by decide +kernel
theorem dX5_patch_177 : decode cX5_patch 177 = .ok (.iload_n 2, 1) := by decide +kernel
theorem dX5_patch_178 : decode cX5_patch 178 = .ok (.iload_n 1, 1) := by decide +kernel
theorem dX5_patch_179 : decode cX5_patch 179 = .ok (.if_icmp .ge 21, 3) := by decide +kernel
theorem dX5_patch_182 : decode cX5_patch 182 = .ok (.aload_n 0, 1) := by decide +kernel
theorem dX5_patch_183 : decode cX5_patch 183 = .ok (.getfield 7, 3) := by decide +kernel
theorem dX5_patch_186 : decode cX5_patch 186 = .ok (.iload_n 2, 1) := by decide +kernel
theorem dX5_patch_187 : decode cX5_patch 187 = .ok (.aload_n 0, 1) := by decide +kernel
theorem dX5_patch_188 : decode cX5_patch 188 = .ok (.getfield 16, 3) := by decide +kernel
theorem dX5_patch_191 : decode cX5_patch 191 = .ok (.iload_n 2, 1) := by decide +kernel
theorem dX5_patch_192 : decode cX5_patch 192 = .ok (.iaload, 1) := by decide +kernel
theorem dX5_patch_193 : decode cX5_patch 193 = .ok (.iastore, 1) := by decide +kernel
theorem dX5_patch_194 : decode cX5_patch 194 = .ok (.iinc 2 1, 3) := by decide +kernel
theorem dX5_patch_197 : decode cX5_patch 197 = .ok (.goto (-20), 3) := by decide +kernel
theorem dX5_patch_200 : decode cX5_patch 200 = .ok (.aload_n 0, 1) := by decide +kernel
theorem dX5_patch_201 : decode cX5_patch 201 = .ok (.getfield 19, 3) := by decide +kernel
theorem dX5_patch_204 : decode cX5_patch 204 = .ok (.iconst 0, 1) := by decide +kernel
theorem dX5_patch_205 : decode cX5_patch 205 = .ok (.iload_n 1, 1) := by decide +kernel
theorem dX5_patch_206 : decode cX5_patch 206 = .ok (.iastore, 1) := by decide +kernel
theorem dX5_patch_207 : decode cX5_patch 207 = .ok (.iload_n 1, 1) := by decide +kernel
theorem dX5_patch_208 : decode cX5_patch 208 = .ok (.ireturn, 1) := by decide +kernel
end
section
theorem dX5_same_0 : decode cX5_same 0 = .ok (.aload_n 0, 1) := by decide +kernel
theorem dX5_same_1 : decode cX5_same 1 = .ok (.iconst 0, 1) := by decide +kernel
theorem dX5_same_2 : decode cX5_same 2 = .ok (.putfield 34, 3) := by decide +kernel
theorem dX5_same_5 : decode cX5_same 5 = .ok (.aload_n 0, 1) := by decide +kernel
theorem dX5_same_6 : decode cX5_same 6 = .ok (.getfield 19, 3) := by decide +kernel
theorem dX5_same_9 : decode cX5_same 9 = .ok (.iconst 0, 1) := by decide +kernel
theorem dX5_same_10 : decode cX5_same 10 = .ok (.iaload, 1) := by decide +kernel
theorem dX5_same_11 : decode cX5_same 11 = .ok (.aload_n 0, 1) := by decide +kernel
theorem dX5_same_12 : decode cX5_same 12 = .ok (.getfield 19, 3) := by decide +kernel
theorem dX5_same_15 : decode cX5_same 15 = .ok (.iconst 1, 1) := by decide +kernel
theorem dX5_same_16 : decode cX5_same 16 = .ok (.iaload, 1) := by decide +kernel
theorem dX5_same_17 : decode cX5_same 17 = .ok (.if_icmp .eq 5, 3) := by decide +kernel
theorem dX5_same_20 : decode cX5_same 20 = .ok (.iconst 0, 1) := by decide +kernel
theorem dX5_same_21 : decode cX5_same 21 = .ok (.ireturn, 1) := by decide +kernel
theorem dX5_same_22 : decode cX5_same 22 = .ok (.iconst 0, 1) := by decide +kernel
theorem dX5_same_23 : decode cX5_same 23 = .ok (.istore_n 1, 1) := by decide +kernel
theorem dX5_same_24 : decode cX5_same 24 = .ok (.iload_n 1, 1) := by decide +kernel
theorem dX5_same_25 : decode cX5_same 25 = .ok (.aload_n 0, 1) := by decide +kernel
theorem dX5_same_26 : decode cX5_same 26 = .ok (.getfield 19, 3) := by decide +kernel
theorem dX5_same_29 : decode cX5_same 29 = .ok (.iconst 0, 1) := by decide +kernel
theorem dX5_same_30 : decode cX5_same 30 = .ok (.iaload, 1) := by decide +kernel
theorem dX5_same_31 : decode cX5_same 31 = .ok (.if_icmp .ge 30, 3) := by decide +kernel
theorem dX5_same_34 : decode cX5_same 34 = .ok (.aload_n 0, 1) := by decide +kernel
theorem dX5_same_35 : decode cX5_same 35 = .ok (.getfield 7, 3) := by decide +kernel
theorem dX5_same_38 : decode cX5_same 38 = .ok (.iload_n 1, 1) := by decide +kernel
theorem dX5_same_39 : decode cX5_same 39 = .ok (.iaload, 1) := by decide +kernel
theorem dX5_same_40 : decode cX5_same 40 = .ok (.aload_n 0, 1) := by decide +kernel
theorem dX5_same_41 : decode cX5_same 41 = .ok (.getfield 7, 3) := by decide +kernel
theorem dX5_same_44 : decode cX5_same 44 = .ok (.sipush 1200, 3) := by decide +kernel
theorem dX5_same_47 : decode cX5_same 47 = .ok (.iload_n 1, 1) := by decide +kernel
theorem dX5_same_48 : decode cX5_same 48 = .ok (.iadd, 1) := by decide +kernel
theorem dX5_same_49 : decode cX5_same 49 = .ok (.iaload, 1) := by decide +kernel
theorem dX5_same_50 : decode cX5_same 50 = .ok (.if_icmp .eq 5, 3) := by decide +kernel
theorem dX5_same_53 : decode cX5_same 53 = .ok (.iconst 0, 1) := by decide +kernel
theorem dX5_same_54 : decode cX5_same 54 = .ok (.ireturn, 1) := by decide +kernel
theorem dX5_same_55 : decode cX5_same 55 = .ok (.iinc 1 1, 3) := by decide +kernel
theorem dX5_same_58 : decode cX5_same 58 = .ok (.goto (-34), 3) := by decide +kernel
theorem dX5_same_61 : decode cX5_same 61 = .ok (.iconst 1, 1) := by decide +kernel
theorem dX5_same_62 : decode cX5_same 62 = .ok (.ireturn, 1) := by decide +kernel
theorem dX5_count_0 : decode cX5_count 0 = .ok (.aload_n 0, 1) := by decide +kernel
theorem dX5_count_1 : decode cX5_count 1 = .ok (.iload_n 1, 1) := by decide +kernel
theorem dX5_count_2 : decode cX5_count 2 = .ok (.ifCond .lt 8, 3) := by decide +kernel
theorem dX5_count_5 : decode cX5_count 5 = .ok (.iload_n 1, 1) := by decide +kernel
theorem dX5_count_6 : decode cX5_count 6 = .ok (.iconst 2, 1) := by decide +kernel
theorem dX5_count_7 : decode cX5_count 7 = .ok (.if_icmp .le 7, 3) := by decide +kernel
theorem dX5_count_10 : decode cX5_count 10 = .ok (.iconst 1, 1) := by decide +kernel
theorem dX5_count_11 : decode cX5_count 11 = .ok (.goto 4, 3) := by decide +kernel
theorem dX5_count_14 : decode cX5_count 14 = .ok (.iconst 0, 1) := by decide +kernel
theorem dX5_count_15 : decode cX5_count 15 = .ok (.iconst 1, 1) := by decide +kernel
theorem dX5_count_16 : decode cX5_count 16 = .ok (.invokevirtual 42, 3) := by decide +kernel
theorem dX5_count_19 : decode cX5_count 19 = .ok (.ifCond .eq 5, 3) := by decide +kernel
theorem dX5_count_22 : decode cX5_count 22 = .ok (.iconst 0, 1) := by decide +kernel
theorem dX5_count_23 : decode cX5_count 23 = .ok (.ireturn, 1) := by decide +kernel
theorem dX5_count_24 : decode cX5_count 24 = .ok (.iload_n 1, 1) := by decide +kernel
theorem dX5_count_25 : decode cX5_count 25 = .ok (.iconst 2, 1) := by decide +kernel
theorem dX5_count_26 : decode cX5_count 26 = .ok (.if_icmp .ne 10, 3) := by decide +kernel
theorem dX5_count_29 : decode cX5_count 29 = .ok (.aload_n 0, 1) := by decide +kernel
theorem dX5_count_30 : decode cX5_count 30 = .ok (.getfield 84, 3) := by decide +kernel
theorem dX5_count_33 : decode cX5_count 33 = .ok (.goto 9, 3) := by decide +kernel
theorem dX5_count_36 : decode cX5_count 36 = .ok (.aload_n 0, 1) := by decide +kernel
theorem dX5_count_37 : decode cX5_count 37 = .ok (.getfield 19, 3) := by decide +kernel
theorem dX5_count_40 : decode cX5_count 40 = .ok (.iload_n 1, 1) := by decide +kernel
theorem dX5_count_41 : decode cX5_count 41 = .ok (.iaload, 1) := by decide +kernel
theorem dX5_count_42 : decode cX5_count 42 = .ok (.ireturn, 1) := by decide +kernel
theorem dX0_init_0 : decode cX0_init 0 = .ok (.aload_n 0, 1) := by decide +kernel
theorem dX0_init_1 : decode cX0_init 1 = .ok (.invokespecial 3, 3) := by decide +kernel
theorem dX0_init_4 : decode cX0_init 4 = .ok (.aload_n 0, 1) := by decide +kernel
theorem dX0_init_5 : decode cX0_init 5 = .ok (.aload_n 1, 1) := by decide +kernel
theorem dX0_init_6 : decode cX0_init 6 = .ok (.putfield 9, 3) := by decide +kernel
theorem dX0_init_9 : decode cX0_init 9 = .ok (.aload_n 0, 1) := by decide +kernel
theorem dX0_init_10 : decode cX0_init 10 = .ok (.sipush 300, 3) := by decide +kernel
theorem dX0_init_13 : decode cX0_init 13 = .ok (.newarray .int, 2) := by decide +kernel
theorem dX0_init_15 : decode cX0_init 15 = .ok (.putfield 15, 3) := by decide +kernel
theorem dX0_init_18 : decode cX0_init 18 = .ok (.aload_n 0, 1) := by decide +kernel
theorem dX0_init_19 : decode cX0_init 19 = .ok (.sipush 300, 3) := by decide +kernel
theorem dX0_init_22 : decode cX0_init 22 = .ok (.newarray .long, 2) := by decide +kernel
theorem dX0_init_24 : decode cX0_init 24 = .ok (.putfield 19, 3) := by decide +kernel
theorem dX0_init_27 : decode cX0_init 27 = .ok (.aload_n 0, 1) := by decide +kernel
theorem dX0_init_28 : decode cX0_init 28 = .ok (.iconst 4, 1) := by decide +kernel
theorem dX0_init_29 : decode cX0_init 29 = .ok (.putfield 23, 3) := by decide +kernel
theorem dX0_init_32 : decode cX0_init 32 = .ok (.aload_n 0, 1) := by decide +kernel
theorem dX0_init_33 : decode cX0_init 33 = .ok (.iconst 0, 1) := by decide +kernel
theorem dX0_init_34 : decode cX0_init 34 = .ok (.putfield 27, 3) := by decide +kernel
theorem dX0_init_37 : decode cX0_init 37 = .ok (.aload_n 0, 1) := by decide +kernel
theorem dX0_init_38 : decode cX0_init 38 = .ok (.iconst 0, 1) := by decide +kernel
theorem dX0_init_39 : decode cX0_init 39 = .ok (.putfield 30, 3) := by decide +kernel
theorem dX0_init_42 : decode cX0_init 42 = .ok (.return_, 1) := by decide +kernel
theorem dX0_cut_0 : decode cX0_cut 0 = .ok (.aload_n 0, 1) := by decide +kernel
theorem dX0_cut_1 : decode cX0_cut 1 = .ok (.iload_n 1, 1) := by decide +kernel
theorem dX0_cut_2 : decode cX0_cut 2 = .ok (.putfield 23, 3) := by decide +kernel
theorem dX0_cut_5 : decode cX0_cut 5 = .ok (.aload_n 0, 1) := by decide +kernel
theorem dX0_cut_6 : decode cX0_cut 6 = .ok (.aload_n 0, 1) := by decide +kernel
theorem dX0_cut_7 : decode cX0_cut 7 = .ok (.getfield 9, 3) := by decide +kernel
theorem dX0_cut_10 : decode cX0_cut 10 = .ok (.getfield 33, 3) := by decide +kernel
theorem dX0_cut_13 : decode cX0_cut 13 = .ok (.iload_n 1, 1) := by decide +kernel
theorem dX0_cut_14 : decode cX0_cut 14 = .ok (.invokestatic 38, 3) := by decide +kernel
theorem dX0_cut_17 : decode cX0_cut 17 = .ok (.putfield 30, 3) := by decide +kernel
theorem dX0_cut_20 : decode cX0_cut 20 = .ok (.aload_n 0, 1) := by decide +kernel
theorem dX0_cut_21 : decode cX0_cut 21 = .ok (.aload_n 0, 1) := by decide +kernel
theorem dX0_cut_22 : decode cX0_cut 22 = .ok (.getfield 30, 3) := by decide +kernel
theorem dX0_cut_25 : decode cX0_cut 25 = .ok (.ifCond .ne 7, 3) := by decide +kernel
theorem dX0_cut_28 : decode cX0_cut 28 = .ok (.iconst 0, 1) := by decide +kernel
theorem dX0_cut_29 : decode cX0_cut 29 = .ok (.goto 21, 3) := by decide +kernel
theorem dX0_cut_32 : decode cX0_cut 32 = .ok (.aload_n 0, 1) := by decide +kernel
theorem dX0_cut_33 : decode cX0_cut 33 = .ok (.getfield 9, 3) := by decide +kernel
theorem dX0_cut_36 : decode cX0_cut 36 = .ok (.getfield 33, 3) := by decide +kernel
theorem dX0_cut_39 : decode cX0_cut 39 = .ok (.aload_n 0, 1) := by decide +kernel
theorem dX0_cut_40 : decode cX0_cut 40 = .ok (.aload_n 0, 1) := by decide +kernel
theorem dX0_cut_41 : decode cX0_cut 41 = .ok (.getfield 30, 3) := by decide +kernel
theorem dX0_cut_44 : decode cX0_cut 44 = .ok (.iconst 1, 1) := by decide +kernel
theorem dX0_cut_45 : decode cX0_cut 45 = .ok (.isub, 1) := by decide +kernel
theorem dX0_cut_46 : decode cX0_cut 46 = .ok (.invokevirtual 42, 3) := by decide +kernel
theorem dX0_cut_49 : decode cX0_cut 49 = .ok (.isub, 1) := by decide +kernel
theorem dX0_cut_50 : decode cX0_cut 50 = .ok (.putfield 27, 3) := by decide +kernel
theorem dX0_cut_53 : decode cX0_cut 53 = .ok (.iconst 0, 1) := by decide +kernel
theorem dX0_cut_54 : decode cX0_cut 54 = .ok (.istore_n 2, 1) := by decide +kernel
theorem dX0_cut_55 : decode cX0_cut 55 = .ok (.iload_n 2, 1) := by decide +kernel
theorem dX0_cut_56 : decode cX0_cut 56 = .ok (.aload_n 0, 1) := by decide +kernel
theorem dX0_cut_57 : decode cX0_cut 57 = .ok (.getfield 30, 3) := by decide +kernel
theorem dX0_cut_60 : decode cX0_cut 60 = .ok (.if_icmp .ge 55, 3) := by decide +kernel
theorem dX0_cut_63 : decode cX0_cut 63 = .ok (.aload_n 0, 1) := by decide +kernel
theorem dX0_cut_64 : decode cX0_cut 64 = .ok (.getfield 15, 3) := by decide +kernel
theorem dX0_cut_67 : decode cX0_cut 67 = .ok (.iload_n 2, 1) := by decide +kernel
theorem dX0_cut_68 : decode cX0_cut 68 = .ok (.aload_n 0, 1) := by decide +kernel
theorem dX0_cut_69 : decode cX0_cut 69 = .ok (.getfield 9, 3) := by decide +kernel
theorem dX0_cut_72 : decode cX0_cut 72 = .ok (.aload_n 0, 1) := by decide +kernel
theorem dX0_cut_73 : decode cX0_cut 73 = .ok (.iload_n 2, 1) := by decide +kernel
theorem dX0_cut_74 : decode cX0_cut 74 = .ok (.invokevirtual 42, 3) := by decide +kernel
theorem dX0_cut_77 : decode cX0_cut 77 = .ok (.aload_n 0, 1) := by decide +kernel
theorem dX0_cut_78 : decode cX0_cut 78 = .ok (.iload_n 2, 1) := by decide +kernel
theorem dX0_cut_79 : decode cX0_cut 79 = .ok (.invokevirtual 46, 3) := by decide +kernel
theorem dX0_cut_82 : decode cX0_cut 82 = .ok (.invokevirtual 48, 3) := by decide +kernel
theorem dX0_cut_85 : decode cX0_cut 85 = .ok (.iastore, 1) := by decide +kernel
theorem dX0_cut_86 : decode cX0_cut 86 = .ok (.aload_n 0, 1) := by decide +kernel
theorem dX0_cut_87 : decode cX0_cut 87 = .ok (.getfield 19, 3) := by decide +kernel
theorem dX0_cut_90 : decode cX0_cut 90 = .ok (.iload_n 2, 1) := by decide +kernel
theorem dX0_cut_91 : decode cX0_cut 91 = .ok (.aload_n 0, 1) := by decide +kernel
theorem dX0_cut_92 : decode cX0_cut 92 = .ok (.getfield 9, 3) := by decide +kernel
theorem dX0_cut_95 : decode cX0_cut 95 = .ok (.aload_n 0, 1) := by decide +kernel
theorem dX0_cut_96 : decode cX0_cut 96 = .ok (.iload_n 2, 1) := by decide +kernel
theorem dX0_cut_97 : decode cX0_cut 97 = .ok (.invokevirtual 42, 3) := by decide +kernel
theorem dX0_cut_100 : decode cX0_cut 100 = .ok (.aload_n 0, 1) := by decide +kernel
theorem dX0_cut_101 : decode cX0_cut 101 = .ok (.iload_n 2, 1) := by decide +kernel
theorem dX0_cut_102 : decode cX0_cut 102 = .ok (.invokevirtual 46, 3) := by decide +kernel
theorem dX0_cut_105 : decode cX0_cut 105 = .ok (.invokevirtual 51, 3) := by decide +kernel
theorem dX0_cut_108 : decode cX0_cut 108 = .ok (.lastore, 1) := by decide +kernel
theorem dX0_cut_109 : decode cX0_cut 109 = .ok (.iinc 2 1, 3) := by decide +kernel
theorem dX0_cut_112 : decode cX0_cut 112 = .ok (.goto (-57), 3) := by decide +kernel
theorem dX0_cut_115 : decode cX0_cut 115 = .ok (.return_, 1) := by decide +kernel
theorem dX0_start_0 : decode cX0_start 0 = .ok (.iload_n 1, 1) := by decide +kernel
theorem dX0_start_1 : decode cX0_start 1 = .ok (.aload_n 0, 1) := by decide +kernel
theorem dX0_start_2 : decode cX0_start 2 = .ok (.getfield 23, 3) := by decide +kernel
theorem dX0_start_5 : decode cX0_start 5 = .ok (.imul, 1) := by decide +kernel
theorem dX0_start_6 : decode cX0_start 6 = .ok (.ireturn, 1) := by decide +kernel
end
section
theorem dX0_length_0 : decode cX0_length 0 = .ok (.iload_n 1, 1) := by decide +kernel
theorem dX0_length_1 : decode cX0_length 1 = .ok (.aload_n 0, 1) := by decide +kernel
theorem dX0_length_2 : decode cX0_length 2 = .ok (.getfield 30, 3) := by decide +kernel
theorem dX0_length_5 : decode cX0_length 5 = .ok (.iconst 1, 1) := by decide +kernel
theorem dX0_length_6 : decode cX0_length 6 = .ok (.isub, 1) := by decide +kernel
theorem dX0_length_7 : decode cX0_length 7 = .ok (.if_icmp .ne 10, 3) := by decide +kernel
theorem dX0_length_10 : decode cX0_length 10 = .ok (.aload_n 0, 1) := by decide +kernel
theorem dX0_length_11 : decode cX0_length 11 = .ok (.getfield 27, 3) := by decide +kernel
theorem dX0_length_14 : decode cX0_length 14 = .ok (.goto 7, 3) := by decide +kernel
theorem dX0_length_17 : decode cX0_length 17 = .ok (.aload_n 0, 1) := by decide +kernel
theorem dX0_length_18 : decode cX0_length 18 = .ok (.getfield 23, 3) := by decide +kernel
theorem dX0_length_21 : decode cX0_length 21 = .ok (.ireturn, 1) := by decide +kernel
theorem dX1_init_0 : decode cX1_init 0 = .ok (.aload_n 0, 1) := by decide +kernel
theorem dX1_init_1 : decode cX1_init 1 = .ok (.invokespecial 3, 3) := by decide +kernel
theorem dX1_init_4 : decode cX1_init 4 = .ok (.aload_n 0, 1) := by decide +kernel
theorem dX1_init_5 : decode cX1_init 5 = .ok (.sipush 1200, 3) := by decide +kernel
theorem dX1_init_8 : decode cX1_init 8 = .ok (.newarray .int, 2) := by decide +kernel
theorem dX1_init_10 : decode cX1_init 10 = .ok (.putfield 9, 3) := by decide +kernel
theorem dX1_init_13 : decode cX1_init 13 = .ok (.aload_n 0, 1) := by decide +kernel
theorem dX1_init_14 : decode cX1_init 14 = .ok (.iconst 0, 1) := by decide +kernel
theorem dX1_init_15 : decode cX1_init 15 = .ok (.putfield 15, 3) := by decide +kernel
theorem dX1_init_18 : decode cX1_init 18 = .ok (.return_, 1) := by decide +kernel
theorem dX1_resize_0 : decode cX1_resize 0 = .ok (.aload_n 0, 1) := by decide +kernel
theorem dX1_resize_1 : decode cX1_resize 1 = .ok (.getfield 15, 3) := by decide +kernel
theorem dX1_resize_4 : decode cX1_resize 4 = .ok (.istore_n 2, 1) := by decide +kernel
theorem dX1_resize_5 : decode cX1_resize 5 = .ok (.iload_n 2, 1) := by decide +kernel
theorem dX1_resize_6 : decode cX1_resize 6 = .ok (.iload_n 1, 1) := by decide +kernel
theorem dX1_resize_7 : decode cX1_resize 7 = .ok (.if_icmp .ge 16, 3) := by decide +kernel
theorem dX1_resize_10 : decode cX1_resize 10 = .ok (.aload_n 0, 1) := by decide +kernel
theorem dX1_resize_11 : decode cX1_resize 11 = .ok (.getfield 9, 3) := by decide +kernel
theorem dX1_resize_14 : decode cX1_resize 14 = .ok (.iload_n 2, 1) := by decide +kernel
theorem dX1_resize_15 : decode cX1_resize 15 = .ok (.iconst 0, 1) := by decide +kernel
theorem dX1_resize_16 : decode cX1_resize 16 = .ok (.iastore, 1) := by decide +kernel
theorem dX1_resize_17 : decode cX1_resize 17 = .ok (.iinc 2 1, 3) := by decide +kernel
theorem dX1_resize_20 : decode cX1_resize 20 = .ok (.goto (-15), 3) := by decide +kernel
theorem dX1_resize_23 : decode cX1_resize 23 = .ok (.aload_n 0, 1) := by decide +kernel
theorem dX1_resize_24 : decode cX1_resize 24 = .ok (.iload_n 1, 1) := by decide +kernel
theorem dX1_resize_25 : decode cX1_resize 25 = .ok (.putfield 15, 3) := by decide +kernel
theorem dX1_resize_28 : decode cX1_resize 28 = .ok (.return_, 1) := by decide +kernel
theorem dX1_write_0 : decode cX1_write 0 = .ok (.iconst 0, 1) := by decide +kernel
theorem dX1_write_1 : decode cX1_write 1 = .ok (.istore 4, 2) := by decide +kernel
theorem dX1_write_3 : decode cX1_write 3 = .ok (.iload 4, 2) := by decide +kernel
theorem dX1_write_5 : decode cX1_write 5 = .ok (.bipush 8, 2) := by decide +kernel
theorem dX1_write_7 : decode cX1_write 7 = .ok (.if_icmp .ge 44, 3) := by decide +kernel
theorem dX1_write_10 : decode cX1_write 10 = .ok (.iload_n 1, 1) := by decide +kernel
theorem dX1_write_11 : decode cX1_write 11 = .ok (.iload 4, 2) := by decide +kernel
theorem dX1_write_13 : decode cX1_write 13 = .ok (.iadd, 1) := by decide +kernel
theorem dX1_write_14 : decode cX1_write 14 = .ok (.aload_n 0, 1) := by decide +kernel
theorem dX1_write_15 : decode cX1_write 15 = .ok (.getfield 15, 3) := by decide +kernel
theorem dX1_write_18 : decode cX1_write 18 = .ok (.if_icmp .ge 33, 3) := by decide +kernel
theorem dX1_write_21 : decode cX1_write 21 = .ok (.aload_n 0, 1) := by decide +kernel
theorem dX1_write_22 : decode cX1_write 22 = .ok (.getfield 9, 3) := by decide +kernel
theorem dX1_write_25 : decode cX1_write 25 = .ok (.iload_n 1, 1) := by decide +kernel
theorem dX1_write_26 : decode cX1_write 26 = .ok (.iload 4, 2) := by decide +kernel
theorem dX1_write_28 : decode cX1_write 28 = .ok (.iadd, 1) := by decide +kernel
theorem dX1_write_29 : decode cX1_write 29 = .ok (.lload_n 2, 1) := by decide +kernel
theorem dX1_write_30 : decode cX1_write 30 = .ok (.bipush 56, 2) := by decide +kernel
theorem dX1_write_32 : decode cX1_write 32 = .ok (.bipush 8, 2) := by decide +kernel
theorem dX1_write_34 : decode cX1_write 34 = .ok (.iload 4, 2) := by decide +kernel
theorem dX1_write_36 : decode cX1_write 36 = .ok (.imul, 1) := by decide +kernel
theorem dX1_write_37 : decode cX1_write 37 = .ok (.isub, 1) := by decide +kernel
theorem dX1_write_38 : decode cX1_write 38 = .ok (.lushr, 1) := by decide +kernel
theorem dX1_write_39 : decode cX1_write 39 = .ok (.l2i, 1) := by decide +kernel
theorem dX1_write_40 : decode cX1_write 40 = .ok (.sipush 255, 3) := by decide +kernel
theorem dX1_write_43 : decode cX1_write 43 = .ok (.iand, 1) := by decide +kernel
theorem dX1_write_44 : decode cX1_write 44 = .ok (.iastore, 1) := by decide +kernel
theorem dX1_write_45 : decode cX1_write 45 = .ok (.iinc 4 1, 3) := by decide +kernel
theorem dX1_write_48 : decode cX1_write 48 = .ok (.goto (-45), 3) := by decide +kernel
theorem dX1_write_51 : decode cX1_write 51 = .ok (.return_, 1) := by decide +kernel
theorem dX1_append_0 : decode cX1_append 0 = .ok (.aload_n 1, 1) := by decide +kernel
theorem dX1_append_1 : decode cX1_append 1 = .ok (.getfield 9, 3) := by decide +kernel
theorem dX1_append_4 : decode cX1_append 4 = .ok (.iload_n 2, 1) := by decide +kernel
theorem dX1_append_5 : decode cX1_append 5 = .ok (.aload_n 0, 1) := by decide +kernel
theorem dX1_append_6 : decode cX1_append 6 = .ok (.getfield 9, 3) := by decide +kernel
theorem dX1_append_9 : decode cX1_append 9 = .ok (.aload_n 0, 1) := by decide +kernel
theorem dX1_append_10 : decode cX1_append 10 = .ok (.getfield 15, 3) := by decide +kernel
theorem dX1_append_13 : decode cX1_append 13 = .ok (.iload_n 3, 1) := by decide +kernel
theorem dX1_append_14 : decode cX1_append 14 = .ok (.invokestatic 19, 3) := by decide +kernel
theorem dX1_append_17 : decode cX1_append 17 = .ok (.aload_n 0, 1) := by decide +kernel
theorem dX1_append_18 : decode cX1_append 18 = .ok (.dup, 1) := by decide +kernel
theorem dX1_append_19 : decode cX1_append 19 = .ok (.getfield 15, 3) := by decide +kernel
theorem dX1_append_22 : decode cX1_append 22 = .ok (.iload_n 3, 1) := by decide +kernel
theorem dX1_append_23 : decode cX1_append 23 = .ok (.iadd, 1) := by decide +kernel
theorem dX1_append_24 : decode cX1_append 24 = .ok (.putfield 15, 3) := by decide +kernel
theorem dX1_append_27 : decode cX1_append 27 = .ok (.return_, 1) := by decide +kernel
theorem dX1_weakSum_0 : decode cX1_weakSum 0 = .ok (.iconst 0, 1) := by decide +kernel
theorem dX1_weakSum_1 : decode cX1_weakSum 1 = .ok (.istore_n 3, 1) := by decide +kernel
theorem dX1_weakSum_2 : decode cX1_weakSum 2 = .ok (.iconst 0, 1) := by decide +kernel
theorem dX1_weakSum_3 : decode cX1_weakSum 3 = .ok (.istore 4, 2) := by decide +kernel
theorem dX1_weakSum_5 : decode cX1_weakSum 5 = .ok (.iconst 0, 1) := by decide +kernel
theorem dX1_weakSum_6 : decode cX1_weakSum 6 = .ok (.istore 5, 2) := by decide +kernel
theorem dX1_weakSum_8 : decode cX1_weakSum 8 = .ok (.iload 5, 2) := by decide +kernel
theorem dX1_weakSum_10 : decode cX1_weakSum 10 = .ok (.iload_n 2, 1) := by decide +kernel
theorem dX1_weakSum_11 : decode cX1_weakSum 11 = .ok (.if_icmp .ge 40, 3) := by decide +kernel
theorem dX1_weakSum_14 : decode cX1_weakSum 14 = .ok (.iload_n 3, 1) := by decide +kernel
theorem dX1_weakSum_15 : decode cX1_weakSum 15 = .ok (.aload_n 0, 1) := by decide +kernel
theorem dX1_weakSum_16 : decode cX1_weakSum 16 = .ok (.getfield 9, 3) := by decide +kernel
theorem dX1_weakSum_19 : decode cX1_weakSum 19 = .ok (.iload_n 1, 1) := by decide +kernel
theorem dX1_weakSum_20 : decode cX1_weakSum 20 = .ok (.iload 5, 2) := by decide +kernel
theorem dX1_weakSum_22 : decode cX1_weakSum 22 = .ok (.iadd, 1) := by decide +kernel
theorem dX1_weakSum_23 : decode cX1_weakSum 23 = .ok (.iaload, 1) := by decide +kernel
theorem dX1_weakSum_24 : decode cX1_weakSum 24 = .ok (.iadd, 1) := by decide +kernel
theorem dX1_weakSum_25 : decode cX1_weakSum 25 = .ok (.istore_n 3, 1) := by decide +kernel
theorem dX1_weakSum_26 : decode cX1_weakSum 26 = .ok (.iload 4, 2) := by decide +kernel
theorem dX1_weakSum_28 : decode cX1_weakSum 28 = .ok (.iload_n 2, 1) := by decide +kernel
theorem dX1_weakSum_29 : decode cX1_weakSum 29 = .ok (.iload 5, 2) := by decide +kernel
theorem dX1_weakSum_31 : decode cX1_weakSum 31 = .ok (.isub, 1) := by decide +kernel
theorem dX1_weakSum_32 : decode cX1_weakSum 32 = .ok (.aload_n 0, 1) := by decide +kernel
theorem dX1_weakSum_33 : decode cX1_weakSum 33 = .ok (.getfield 9, 3) := by decide +kernel
theorem dX1_weakSum_36 : decode cX1_weakSum 36 = .ok (.iload_n 1, 1) := by decide +kernel
theorem dX1_weakSum_37 : decode cX1_weakSum 37 = .ok (.iload 5, 2) := by decide +kernel
theorem dX1_weakSum_39 : decode cX1_weakSum 39 = .ok (.iadd, 1) := by decide +kernel
theorem dX1_weakSum_40 : decode cX1_weakSum 40 = .ok (.iaload, 1) := by decide +kernel
theorem dX1_weakSum_41 : decode cX1_weakSum 41 = .ok (.imul, 1) := by decide +kernel
theorem dX1_weakSum_42 : decode cX1_weakSum 42 = .ok (.iadd, 1) := by decide +kernel
theorem dX1_weakSum_43 : decode cX1_weakSum 43 = .ok (.istore 4, 2) := by decide +kernel
theorem dX1_weakSum_45 : decode cX1_weakSum 45 = .ok (.iinc 5 1, 3) := by decide +kernel
theorem dX1_weakSum_48 : decode cX1_weakSum 48 = .ok (.goto (-40), 3) := by decide +kernel
theorem dX1_weakSum_51 : decode cX1_weakSum 51 = .ok (.iload_n 3, 1) := by decide +kernel
theorem dX1_weakSum_52 : decode cX1_weakSum 52 = .ok (.iload 4, 2) := by decide +kernel
theorem dX1_weakSum_54 : decode cX1_weakSum 54 = .ok (.invokestatic 25, 3) := by decide +kernel
theorem dX1_weakSum_57 : decode cX1_weakSum 57 = .ok (.ireturn, 1) := by decide +kernel
theorem dX1_joinWeak_0 : decode cX1_joinWeak 0 = .ok (.iload_n 0, 1) := by decide +kernel
theorem dX1_joinWeak_1 : decode cX1_joinWeak 1 = .ok (.ldc 29, 2) := by decide +kernel
theorem dX1_joinWeak_3 : decode cX1_joinWeak 3 = .ok (.iand, 1) := by decide +kernel
theorem dX1_joinWeak_4 : decode cX1_joinWeak 4 = .ok (.ldc 30, 2) := by decide +kernel
theorem dX1_joinWeak_6 : decode cX1_joinWeak 6 = .ok (.iload_n 1, 1) := by decide +kernel
theorem dX1_joinWeak_7 : decode cX1_joinWeak 7 = .ok (.ldc 29, 2) := by decide +kernel
theorem dX1_joinWeak_9 : decode cX1_joinWeak 9 = .ok (.iand, 1) := by decide +kernel
theorem dX1_joinWeak_10 : decode cX1_joinWeak 10 = .ok (.imul, 1) := by decide +kernel
theorem dX1_joinWeak_11 : decode cX1_joinWeak 11 = .ok (.iadd, 1) := by decide +kernel
theorem dX1_joinWeak_12 : decode cX1_joinWeak 12 = .ok (.ireturn, 1) := by decide +kernel
theorem dX1_strongSum_0 : decode cX1_strongSum 0 = .ok (.ldc2_w 31, 3) := by decide +kernel
theorem dX1_strongSum_3 : decode cX1_strongSum 3 = .ok (.lstore_n 3, 1) := by decide +kernel
theorem dX1_strongSum_4 : decode cX1_strongSum 4 = .ok (.iconst 0, 1) := by decide +kernel
theorem dX1_strongSum_5 : decode cX1_strongSum 5 = .ok (.istore 5, 2) := by decide +kernel
theorem dX1_strongSum_7 : decode cX1_strongSum 7 = .ok (.iload 5, 2) := by decide +kernel
theorem dX1_strongSum_9 : decode cX1_strongSum 9 = .ok (.iload_n 2, 1) := by decide +kernel
theorem dX1_strongSum_10 : decode cX1_strongSum 10 = .ok (.if_icmp .ge 26, 3) := by decide +kernel
theorem dX1_strongSum_13 : decode cX1_strongSum 13 = .ok (.lload_n 3, 1) := by decide +kernel
theorem dX1_strongSum_14 : decode cX1_strongSum 14 = .ok (.aload_n 0, 1) := by decide +kernel
theorem dX1_strongSum_15 : decode cX1_strongSum 15 = .ok (.getfield 9, 3) := by decide +kernel
theorem dX1_strongSum_18 : decode cX1_strongSum 18 = .ok (.iload_n 1, 1) := by decide +kernel
theorem dX1_strongSum_19 : decode cX1_strongSum 19 = .ok (.iload 5, 2) := by decide +kernel
theorem dX1_strongSum_21 : decode cX1_strongSum 21 = .ok (.iadd, 1) := by decide +kernel
theorem dX1_strongSum_22 : decode cX1_strongSum 22 = .ok (.iaload, 1) := by decide +kernel
theorem dX1_strongSum_23 : decode cX1_strongSum 23 = .ok (.i2l, 1) := by decide +kernel
theorem dX1_strongSum_24 : decode cX1_strongSum 24 = .ok (.lxor, 1) := by decide +kernel
theorem dX1_strongSum_25 : decode cX1_strongSum 25 = .ok (.ldc2_w 33, 3) := by decide +kernel
theorem dX1_strongSum_28 : decode cX1_strongSum 28 = .ok (.lmul, 1) := by decide +kernel
theorem dX1_strongSum_29 : decode cX1_strongSum 29 = .ok (.lstore_n 3, 1) := by decide +kernel
theorem dX1_strongSum_30 : decode cX1_strongSum 30 = .ok (.iinc 5 1, 3) := by decide +kernel
theorem dX1_strongSum_33 : decode cX1_strongSum 33 = .ok (.goto (-26), 3) := by decide +kernel
theorem dX1_strongSum_36 : decode cX1_strongSum 36 = .ok (.lload_n 3, 1) := by decide +kernel
theorem dX1_strongSum_37 : decode cX1_strongSum 37 = .ok (.lreturn, 1) := by decide +kernel
end
section
theorem dX2_init_0 : decode cX2_init 0 = .ok (.aload_n 0, 1) := by decide +kernel
theorem dX2_init_1 : decode cX2_init 1 = .ok (.invokespecial 3, 3) := by decide +kernel
theorem dX2_init_4 : decode cX2_init 4 = .ok (.aload_n 0, 1) := by decide +kernel
theorem dX2_init_5 : decode cX2_init 5 = .ok (.sipush 1200, 3) := by decide +kernel
theorem dX2_init_8 : decode cX2_init 8 = .ok (.newarray .int, 2) := by decide +kernel
theorem dX2_init_10 : decode cX2_init 10 = .ok (.putfield 9, 3) := by decide +kernel
theorem dX2_init_13 : decode cX2_init 13 = .ok (.aload_n 0, 1) := by decide +kernel
theorem dX2_init_14 : decode cX2_init 14 = .ok (.sipush 1200, 3) := by decide +kernel
theorem dX2_init_17 : decode cX2_init 17 = .ok (.newarray .int, 2) := by decide +kernel
theorem dX2_init_19 : decode cX2_init 19 = .ok (.putfield 15, 3) := by decide +kernel
theorem dX2_init_22 : decode cX2_init 22 = .ok (.aload_n 0, 1) := by decide +kernel
theorem dX2_init_23 : decode cX2_init 23 = .ok (.sipush 1200, 3) := by decide +kernel
theorem dX2_init_26 : decode cX2_init 26 = .ok (.newarray .int, 2) := by decide +kernel
theorem dX2_init_28 : decode cX2_init 28 = .ok (.putfield 18, 3) := by decide +kernel
theorem dX2_init_31 : decode cX2_init 31 = .ok (.aload_n 0, 1) := by decide +kernel
theorem dX2_init_32 : decode cX2_init 32 = .ok (.iconst 0, 1) := by decide +kernel
theorem dX2_init_33 : decode cX2_init 33 = .ok (.putfield 21, 3) := by decide +kernel
theorem dX2_init_36 : decode cX2_init 36 = .ok (.return_, 1) := by decide +kernel
theorem dX2_clear_0 : decode cX2_clear 0 = .ok (.aload_n 0, 1) := by decide +kernel
theorem dX2_clear_1 : decode cX2_clear 1 = .ok (.iconst 0, 1) := by decide +kernel
theorem dX2_clear_2 : decode cX2_clear 2 = .ok (.putfield 21, 3) := by decide +kernel
theorem dX2_clear_5 : decode cX2_clear 5 = .ok (.return_, 1) := by decide +kernel
theorem dX2_add_0 : decode cX2_add 0 = .ok (.aload_n 0, 1) := by decide +kernel
theorem dX2_add_1 : decode cX2_add 1 = .ok (.iload_n 1, 1) := by decide +kernel
theorem dX2_add_2 : decode cX2_add 2 = .ok (.iload_n 2, 1) := by decide +kernel
theorem dX2_add_3 : decode cX2_add 3 = .ok (.invokevirtual 25, 3) := by decide +kernel
theorem dX2_add_6 : decode cX2_add 6 = .ok (.ifCond .eq 21, 3) := by decide +kernel
theorem dX2_add_9 : decode cX2_add 9 = .ok (.aload_n 0, 1) := by decide +kernel
theorem dX2_add_10 : decode cX2_add 10 = .ok (.getfield 18, 3) := by decide +kernel
theorem dX2_add_13 : decode cX2_add 13 = .ok (.aload_n 0, 1) := by decide +kernel
theorem dX2_add_14 : decode cX2_add 14 = .ok (.getfield 21, 3) := by decide +kernel
theorem dX2_add_17 : decode cX2_add 17 = .ok (.iconst 1, 1) := by decide +kernel
theorem dX2_add_18 : decode cX2_add 18 = .ok (.isub, 1) := by decide +kernel
theorem dX2_add_19 : decode cX2_add 19 = .ok (.dup2, 1) := by decide +kernel
theorem dX2_add_20 : decode cX2_add 20 = .ok (.iaload, 1) := by decide +kernel
theorem dX2_add_21 : decode cX2_add 21 = .ok (.iconst 1, 1) := by decide +kernel
theorem dX2_add_22 : decode cX2_add 22 = .ok (.iadd, 1) := by decide +kernel
theorem dX2_add_23 : decode cX2_add 23 = .ok (.iastore, 1) := by decide +kernel
theorem dX2_add_24 : decode cX2_add 24 = .ok (.goto 43, 3) := by decide +kernel
theorem dX2_add_27 : decode cX2_add 27 = .ok (.aload_n 0, 1) := by decide +kernel
theorem dX2_add_28 : decode cX2_add 28 = .ok (.getfield 9, 3) := by decide +kernel
theorem dX2_add_31 : decode cX2_add 31 = .ok (.aload_n 0, 1) := by decide +kernel
theorem dX2_add_32 : decode cX2_add 32 = .ok (.getfield 21, 3) := by decide +kernel
theorem dX2_add_35 : decode cX2_add 35 = .ok (.iload_n 1, 1) := by decide +kernel
theorem dX2_add_36 : decode cX2_add 36 = .ok (.iastore, 1) := by decide +kernel
theorem dX2_add_37 : decode cX2_add 37 = .ok (.aload_n 0, 1) := by decide +kernel
theorem dX2_add_38 : decode cX2_add 38 = .ok (.getfield 15, 3) := by decide +kernel
theorem dX2_add_41 : decode cX2_add 41 = .ok (.aload_n 0, 1) := by decide +kernel
theorem dX2_add_42 : decode cX2_add 42 = .ok (.getfield 21, 3) := by decide +kernel
theorem dX2_add_45 : decode cX2_add 45 = .ok (.iload_n 2, 1) := by decide +kernel
theorem dX2_add_46 : decode cX2_add 46 = .ok (.iastore, 1) := by decide +kernel
theorem dX2_add_47 : decode cX2_add 47 = .ok (.aload_n 0, 1) := by decide +kernel
theorem dX2_add_48 : decode cX2_add 48 = .ok (.getfield 18, 3) := by decide +kernel
theorem dX2_add_51 : decode cX2_add 51 = .ok (.aload_n 0, 1) := by decide +kernel
theorem dX2_add_52 : decode cX2_add 52 = .ok (.getfield 21, 3) := by decide +kernel
theorem dX2_add_55 : decode cX2_add 55 = .ok (.iconst 1, 1) := by decide +kernel
theorem dX2_add_56 : decode cX2_add 56 = .ok (.iastore, 1) := by decide +kernel
theorem dX2_add_57 : decode cX2_add 57 = .ok (.aload_n 0, 1) := by decide +kernel
theorem dX2_add_58 : decode cX2_add 58 = .ok (.dup, 1) := by decide +kernel
theorem dX2_add_59 : decode cX2_add 59 = .ok (.getfield 21, 3) := by decide +kernel
theorem dX2_add_62 : decode cX2_add 62 = .ok (.iconst 1, 1) := by decide +kernel
theorem dX2_add_63 : decode cX2_add 63 = .ok (.iadd, 1) := by decide +kernel
theorem dX2_add_64 : decode cX2_add 64 = .ok (.putfield 21, 3) := by decide +kernel
theorem dX2_add_67 : decode cX2_add 67 = .ok (.return_, 1) := by decide +kernel
theorem dX2_goesOn_0 : decode cX2_goesOn 0 = .ok (.aload_n 0, 1) := by decide +kernel
theorem dX2_goesOn_1 : decode cX2_goesOn 1 = .ok (.getfield 21, 3) := by decide +kernel
theorem dX2_goesOn_4 : decode cX2_goesOn 4 = .ok (.ifCond .le 49, 3) := by decide +kernel
theorem dX2_goesOn_7 : decode cX2_goesOn 7 = .ok (.aload_n 0, 1) := by decide +kernel
theorem dX2_goesOn_8 : decode cX2_goesOn 8 = .ok (.getfield 9, 3) := by decide +kernel
theorem dX2_goesOn_11 : decode cX2_goesOn 11 = .ok (.aload_n 0, 1) := by decide +kernel
theorem dX2_goesOn_12 : decode cX2_goesOn 12 = .ok (.getfield 21, 3) := by decide +kernel
theorem dX2_goesOn_15 : decode cX2_goesOn 15 = .ok (.iconst 1, 1) := by decide +kernel
theorem dX2_goesOn_16 : decode cX2_goesOn 16 = .ok (.isub, 1) := by decide +kernel
theorem dX2_goesOn_17 : decode cX2_goesOn 17 = .ok (.iaload, 1) := by decide +kernel
theorem dX2_goesOn_18 : decode cX2_goesOn 18 = .ok (.iload_n 1, 1) := by decide +kernel
theorem dX2_goesOn_19 : decode cX2_goesOn 19 = .ok (.if_icmp .ne 34, 3) := by decide +kernel
theorem dX2_goesOn_22 : decode cX2_goesOn 22 = .ok (.aload_n 0, 1) := by decide +kernel
theorem dX2_goesOn_23 : decode cX2_goesOn 23 = .ok (.getfield 15, 3) := by decide +kernel
theorem dX2_goesOn_26 : decode cX2_goesOn 26 = .ok (.aload_n 0, 1) := by decide +kernel
theorem dX2_goesOn_27 : decode cX2_goesOn 27 = .ok (.getfield 21, 3) := by decide +kernel
theorem dX2_goesOn_30 : decode cX2_goesOn 30 = .ok (.iconst 1, 1) := by decide +kernel
theorem dX2_goesOn_31 : decode cX2_goesOn 31 = .ok (.isub, 1) := by decide +kernel
theorem dX2_goesOn_32 : decode cX2_goesOn 32 = .ok (.iaload, 1) := by decide +kernel
theorem dX2_goesOn_33 : decode cX2_goesOn 33 = .ok (.aload_n 0, 1) := by decide +kernel
theorem dX2_goesOn_34 : decode cX2_goesOn 34 = .ok (.getfield 18, 3) := by decide +kernel
theorem dX2_goesOn_37 : decode cX2_goesOn 37 = .ok (.aload_n 0, 1) := by decide +kernel
theorem dX2_goesOn_38 : decode cX2_goesOn 38 = .ok (.getfield 21, 3) := by decide +kernel
theorem dX2_goesOn_41 : decode cX2_goesOn 41 = .ok (.iconst 1, 1) := by decide +kernel
theorem dX2_goesOn_42 : decode cX2_goesOn 42 = .ok (.isub, 1) := by decide +kernel
theorem dX2_goesOn_43 : decode cX2_goesOn 43 = .ok (.iaload, 1) := by decide +kernel
theorem dX2_goesOn_44 : decode cX2_goesOn 44 = .ok (.iadd, 1) := by decide +kernel
theorem dX2_goesOn_45 : decode cX2_goesOn 45 = .ok (.iload_n 2, 1) := by decide +kernel
theorem dX2_goesOn_46 : decode cX2_goesOn 46 = .ok (.if_icmp .ne 7, 3) := by decide +kernel
theorem dX2_goesOn_49 : decode cX2_goesOn 49 = .ok (.iconst 1, 1) := by decide +kernel
theorem dX2_goesOn_50 : decode cX2_goesOn 50 = .ok (.goto 4, 3) := by decide +kernel
theorem dX2_goesOn_53 : decode cX2_goesOn 53 = .ok (.iconst 0, 1) := by decide +kernel
theorem dX2_goesOn_54 : decode cX2_goesOn 54 = .ok (.ireturn, 1) := by decide +kernel
theorem dX3_init_0 : decode cX3_init 0 = .ok (.aload_n 0, 1) := by decide +kernel
theorem dX3_init_1 : decode cX3_init 1 = .ok (.invokespecial 3, 3) := by decide +kernel
theorem dX3_init_4 : decode cX3_init 4 = .ok (.aload_n 0, 1) := by decide +kernel
theorem dX3_init_5 : decode cX3_init 5 = .ok (.aload_n 1, 1) := by decide +kernel
theorem dX3_init_6 : decode cX3_init 6 = .ok (.putfield 9, 3) := by decide +kernel
theorem dX3_init_9 : decode cX3_init 9 = .ok (.aload_n 0, 1) := by decide +kernel
theorem dX3_init_10 : decode cX3_init 10 = .ok (.iconst 0, 1) := by decide +kernel
theorem dX3_init_11 : decode cX3_init 11 = .ok (.putfield 15, 3) := by decide +kernel
theorem dX3_init_14 : decode cX3_init 14 = .ok (.aload_n 0, 1) := by decide +kernel
theorem dX3_init_15 : decode cX3_init 15 = .ok (.iconst (-1), 1) := by decide +kernel
theorem dX3_init_16 : decode cX3_init 16 = .ok (.putfield 19, 3) := by decide +kernel
theorem dX3_init_19 : decode cX3_init 19 = .ok (.aload_n 0, 1) := by decide +kernel
theorem dX3_init_20 : decode cX3_init 20 = .ok (.iconst 0, 1) := by decide +kernel
theorem dX3_init_21 : decode cX3_init 21 = .ok (.putfield 22, 3) := by decide +kernel
theorem dX3_init_24 : decode cX3_init 24 = .ok (.aload_n 0, 1) := by decide +kernel
theorem dX3_init_25 : decode cX3_init 25 = .ok (.iconst 0, 1) := by decide +kernel
theorem dX3_init_26 : decode cX3_init 26 = .ok (.putfield 26, 3) := by decide +kernel
theorem dX3_init_29 : decode cX3_init 29 = .ok (.return_, 1) := by decide +kernel
theorem dX3_open_0 : decode cX3_open 0 = .ok (.aload_n 0, 1) := by decide +kernel
theorem dX3_open_1 : decode cX3_open 1 = .ok (.iload_n 1, 1) := by decide +kernel
theorem dX3_open_2 : decode cX3_open 2 = .ok (.putfield 15, 3) := by decide +kernel
theorem dX3_open_5 : decode cX3_open 5 = .ok (.aload_n 0, 1) := by decide +kernel
theorem dX3_open_6 : decode cX3_open 6 = .ok (.iconst (-1), 1) := by decide +kernel
theorem dX3_open_7 : decode cX3_open 7 = .ok (.putfield 19, 3) := by decide +kernel
theorem dX3_open_10 : decode cX3_open 10 = .ok (.aload_n 0, 1) := by decide +kernel
theorem dX3_open_11 : decode cX3_open 11 = .ok (.iconst 0, 1) := by decide +kernel
theorem dX3_open_12 : decode cX3_open 12 = .ok (.putfield 22, 3) := by decide +kernel
theorem dX3_open_15 : decode cX3_open 15 = .ok (.aload_n 0, 1) := by decide +kernel
theorem dX3_open_16 : decode cX3_open 16 = .ok (.iconst 0, 1) := by decide +kernel
theorem dX3_open_17 : decode cX3_open 17 = .ok (.putfield 26, 3) := by decide +kernel
theorem dX3_open_20 : decode cX3_open 20 = .ok (.return_, 1) := by decide +kernel
theorem dX3_moveTo_0 : decode cX3_moveTo 0 = .ok (.aload_n 0, 1) := by decide +kernel
theorem dX3_moveTo_1 : decode cX3_moveTo 1 = .ok (.getfield 22, 3) := by decide +kernel
theorem dX3_moveTo_4 : decode cX3_moveTo 4 = .ok (.ifCond .eq 17, 3) := by decide +kernel
theorem dX3_moveTo_7 : decode cX3_moveTo 7 = .ok (.iload_n 1, 1) := by decide +kernel
theorem dX3_moveTo_8 : decode cX3_moveTo 8 = .ok (.aload_n 0, 1) := by decide +kernel
theorem dX3_moveTo_9 : decode cX3_moveTo 9 = .ok (.getfield 19, 3) := by decide +kernel
theorem dX3_moveTo_12 : decode cX3_moveTo 12 = .ok (.iconst 1, 1) := by decide +kernel
theorem dX3_moveTo_13 : decode cX3_moveTo 13 = .ok (.iadd, 1) := by decide +kernel
theorem dX3_moveTo_14 : decode cX3_moveTo 14 = .ok (.if_icmp .ne 7, 3) := by decide +kernel
theorem dX3_moveTo_17 : decode cX3_moveTo 17 = .ok (.iconst 1, 1) := by decide +kernel
theorem dX3_moveTo_18 : decode cX3_moveTo 18 = .ok (.goto 4, 3) := by decide +kernel
theorem dX3_moveTo_21 : decode cX3_moveTo 21 = .ok (.iconst 0, 1) := by decide +kernel
theorem dX3_moveTo_22 : decode cX3_moveTo 22 = .ok (.istore_n 2, 1) := by decide +kernel
theorem dX3_moveTo_23 : decode cX3_moveTo 23 = .ok (.aload_n 0, 1) := by decide +kernel
theorem dX3_moveTo_24 : decode cX3_moveTo 24 = .ok (.iload_n 1, 1) := by decide +kernel
theorem dX3_moveTo_25 : decode cX3_moveTo 25 = .ok (.aload_n 0, 1) := by decide +kernel
theorem dX3_moveTo_26 : decode cX3_moveTo 26 = .ok (.getfield 9, 3) := by decide +kernel
theorem dX3_moveTo_29 : decode cX3_moveTo 29 = .ok (.getfield 29, 3) := by decide +kernel
theorem dX3_moveTo_32 : decode cX3_moveTo 32 = .ok (.aload_n 0, 1) := by decide +kernel
theorem dX3_moveTo_33 : decode cX3_moveTo 33 = .ok (.getfield 15, 3) := by decide +kernel
theorem dX3_moveTo_36 : decode cX3_moveTo 36 = .ok (.isub, 1) := by decide +kernel
theorem dX3_moveTo_37 : decode cX3_moveTo 37 = .ok (.if_icmp .gt 7, 3) := by decide +kernel
theorem dX3_moveTo_40 : decode cX3_moveTo 40 = .ok (.iconst 1, 1) := by decide +kernel
theorem dX3_moveTo_41 : decode cX3_moveTo 41 = .ok (.goto 4, 3) := by decide +kernel
theorem dX3_moveTo_44 : decode cX3_moveTo 44 = .ok (.iconst 0, 1) := by decide +kernel
theorem dX3_moveTo_45 : decode cX3_moveTo 45 = .ok (.putfield 22, 3) := by decide +kernel
theorem dX3_moveTo_48 : decode cX3_moveTo 48 = .ok (.aload_n 0, 1) := by decide +kernel
theorem dX3_moveTo_49 : decode cX3_moveTo 49 = .ok (.getfield 22, 3) := by decide +kernel
theorem dX3_moveTo_52 : decode cX3_moveTo 52 = .ok (.ifCond .eq 14, 3) := by decide +kernel
theorem dX3_moveTo_55 : decode cX3_moveTo 55 = .ok (.iload_n 2, 1) := by decide +kernel
theorem dX3_moveTo_56 : decode cX3_moveTo 56 = .ok (.ifCond .eq 10, 3) := by decide +kernel
theorem dX3_moveTo_59 : decode cX3_moveTo 59 = .ok (.aload_n 0, 1) := by decide +kernel
theorem dX3_moveTo_60 : decode cX3_moveTo 60 = .ok (.invokevirtual 34, 3) := by decide +kernel
theorem dX3_moveTo_63 : decode cX3_moveTo 63 = .ok (.goto 15, 3) := by decide +kernel
theorem dX3_moveTo_66 : decode cX3_moveTo 66 = .ok (.aload_n 0, 1) := by decide +kernel
theorem dX3_moveTo_67 : decode cX3_moveTo 67 = .ok (.getfield 22, 3) := by decide +kernel
theorem dX3_moveTo_70 : decode cX3_moveTo 70 = .ok (.ifCond .eq 8, 3) := by decide +kernel
theorem dX3_moveTo_73 : decode cX3_moveTo 73 = .ok (.aload_n 0, 1) := by decide +kernel
theorem dX3_moveTo_74 : decode cX3_moveTo 74 = .ok (.iload_n 1, 1) := by decide +kernel
theorem dX3_moveTo_75 : decode cX3_moveTo 75 = .ok (.invokevirtual 37, 3) := by decide +kernel
theorem dX3_moveTo_78 : decode cX3_moveTo 78 = .ok (.aload_n 0, 1) := by decide +kernel
theorem dX3_moveTo_79 : decode cX3_moveTo 79 = .ok (.aload_n 0, 1) := by decide +kernel
theorem dX3_moveTo_80 : decode cX3_moveTo 80 = .ok (.getfield 41, 3) := by decide +kernel
theorem dX3_moveTo_83 : decode cX3_moveTo 83 = .ok (.aload_n 0, 1) := by decide +kernel
theorem dX3_moveTo_84 : decode cX3_moveTo 84 = .ok (.getfield 44, 3) := by decide +kernel
theorem dX3_moveTo_87 : decode cX3_moveTo 87 = .ok (.invokestatic 47, 3) := by decide +kernel
theorem dX3_moveTo_90 : decode cX3_moveTo 90 = .ok (.putfield 51, 3) := by decide +kernel
theorem dX3_moveTo_93 : decode cX3_moveTo 93 = .ok (.aload_n 0, 1) := by decide +kernel
theorem dX3_moveTo_94 : decode cX3_moveTo 94 = .ok (.iload_n 1, 1) := by decide +kernel
theorem dX3_moveTo_95 : decode cX3_moveTo 95 = .ok (.putfield 19, 3) := by decide +kernel
theorem dX3_moveTo_98 : decode cX3_moveTo 98 = .ok (.aload_n 0, 1) := by decide +kernel
theorem dX3_moveTo_99 : decode cX3_moveTo 99 = .ok (.iconst 0, 1) := by decide +kernel
theorem dX3_moveTo_100 : decode cX3_moveTo 100 = .ok (.putfield 26, 3) := by decide +kernel
theorem dX3_moveTo_103 : decode cX3_moveTo 103 = .ok (.return_, 1) := by decide +kernel
end
section
theorem dX3_roll_0 : decode cX3_roll 0 = .ok (.aload_n 0, 1) := by decide +kernel
theorem dX3_roll_1 : decode cX3_roll 1 = .ok (.getfield 9, 3) := by decide +kernel
theorem dX3_roll_4 : decode cX3_roll 4 = .ok (.getfield 54, 3) := by decide +kernel
theorem dX3_roll_7 : decode cX3_roll 7 = .ok (.aload_n 0, 1) := by decide +kernel
theorem dX3_roll_8 : decode cX3_roll 8 = .ok (.getfield 19, 3) := by decide +kernel
theorem dX3_roll_11 : decode cX3_roll 11 = .ok (.iaload, 1) := by decide +kernel
theorem dX3_roll_12 : decode cX3_roll 12 = .ok (.istore_n 1, 1) := by decide +kernel
theorem dX3_roll_13 : decode cX3_roll 13 = .ok (.aload_n 0, 1) := by decide +kernel
theorem dX3_roll_14 : decode cX3_roll 14 = .ok (.getfield 9, 3) := by decide +kernel
theorem dX3_roll_17 : decode cX3_roll 17 = .ok (.getfield 54, 3) := by decide +kernel
theorem dX3_roll_20 : decode cX3_roll 20 = .ok (.aload_n 0, 1) := by decide +kernel
theorem dX3_roll_21 : decode cX3_roll 21 = .ok (.getfield 19, 3) := by decide +kernel
theorem dX3_roll_24 : decode cX3_roll 24 = .ok (.aload_n 0, 1) := by decide +kernel
theorem dX3_roll_25 : decode cX3_roll 25 = .ok (.getfield 15, 3) := by decide +kernel
theorem dX3_roll_28 : decode cX3_roll 28 = .ok (.iadd, 1) := by decide +kernel
theorem dX3_roll_29 : decode cX3_roll 29 = .ok (.iaload, 1) := by decide +kernel
theorem dX3_roll_30 : decode cX3_roll 30 = .ok (.istore_n 2, 1) := by decide +kernel
theorem dX3_roll_31 : decode cX3_roll 31 = .ok (.aload_n 0, 1) := by decide +kernel
theorem dX3_roll_32 : decode cX3_roll 32 = .ok (.dup, 1) := by decide +kernel
theorem dX3_roll_33 : decode cX3_roll 33 = .ok (.getfield 41, 3) := by decide +kernel
theorem dX3_roll_36 : decode cX3_roll 36 = .ok (.iload_n 2, 1) := by decide +kernel
theorem dX3_roll_37 : decode cX3_roll 37 = .ok (.iload_n 1, 1) := by decide +kernel
theorem dX3_roll_38 : decode cX3_roll 38 = .ok (.isub, 1) := by decide +kernel
theorem dX3_roll_39 : decode cX3_roll 39 = .ok (.iadd, 1) := by decide +kernel
theorem dX3_roll_40 : decode cX3_roll 40 = .ok (.putfield 41, 3) := by decide +kernel
theorem dX3_roll_43 : decode cX3_roll 43 = .ok (.aload_n 0, 1) := by decide +kernel
theorem dX3_roll_44 : decode cX3_roll 44 = .ok (.dup, 1) := by decide +kernel
theorem dX3_roll_45 : decode cX3_roll 45 = .ok (.getfield 44, 3) := by decide +kernel
theorem dX3_roll_48 : decode cX3_roll 48 = .ok (.aload_n 0, 1) := by decide +kernel
theorem dX3_roll_49 : decode cX3_roll 49 = .ok (.getfield 41, 3) := by decide +kernel
theorem dX3_roll_52 : decode cX3_roll 52 = .ok (.aload_n 0, 1) := by decide +kernel
theorem dX3_roll_53 : decode cX3_roll 53 = .ok (.getfield 15, 3) := by decide +kernel
theorem dX3_roll_56 : decode cX3_roll 56 = .ok (.iload_n 1, 1) := by decide +kernel
theorem dX3_roll_57 : decode cX3_roll 57 = .ok (.imul, 1) := by decide +kernel
theorem dX3_roll_58 : decode cX3_roll 58 = .ok (.isub, 1) := by decide +kernel
theorem dX3_roll_59 : decode cX3_roll 59 = .ok (.iadd, 1) := by decide +kernel
theorem dX3_roll_60 : decode cX3_roll 60 = .ok (.putfield 44, 3) := by decide +kernel
theorem dX3_roll_63 : decode cX3_roll 63 = .ok (.return_, 1) := by decide +kernel
theorem dX3_sumAfresh_0 : decode cX3_sumAfresh 0 = .ok (.aload_n 0, 1) := by decide +kernel
theorem dX3_sumAfresh_1 : decode cX3_sumAfresh 1 = .ok (.iconst 0, 1) := by decide +kernel
theorem dX3_sumAfresh_2 : decode cX3_sumAfresh 2 = .ok (.putfield 41, 3) := by decide +kernel
theorem dX3_sumAfresh_5 : decode cX3_sumAfresh 5 = .ok (.aload_n 0, 1) := by decide +kernel
theorem dX3_sumAfresh_6 : decode cX3_sumAfresh 6 = .ok (.iconst 0, 1) := by decide +kernel
theorem dX3_sumAfresh_7 : decode cX3_sumAfresh 7 = .ok (.putfield 44, 3) := by decide +kernel
theorem dX3_sumAfresh_10 : decode cX3_sumAfresh 10 = .ok (.iconst 0, 1) := by decide +kernel
theorem dX3_sumAfresh_11 : decode cX3_sumAfresh 11 = .ok (.istore_n 2, 1) := by decide +kernel
theorem dX3_sumAfresh_12 : decode cX3_sumAfresh 12 = .ok (.iload_n 2, 1) := by decide +kernel
theorem dX3_sumAfresh_13 : decode cX3_sumAfresh 13 = .ok (.aload_n 0, 1) := by decide +kernel
theorem dX3_sumAfresh_14 : decode cX3_sumAfresh 14 = .ok (.getfield 15, 3) := by decide +kernel
theorem dX3_sumAfresh_17 : decode cX3_sumAfresh 17 = .ok (.if_icmp .ge 42, 3) := by decide +kernel
theorem dX3_sumAfresh_20 : decode cX3_sumAfresh 20 = .ok (.aload_n 0, 1) := by decide +kernel
theorem dX3_sumAfresh_21 : decode cX3_sumAfresh 21 = .ok (.dup, 1) := by decide +kernel
theorem dX3_sumAfresh_22 : decode cX3_sumAfresh 22 = .ok (.getfield 41, 3) := by decide +kernel
theorem dX3_sumAfresh_25 : decode cX3_sumAfresh 25 = .ok (.aload_n 0, 1) := by decide +kernel
theorem dX3_sumAfresh_26 : decode cX3_sumAfresh 26 = .ok (.getfield 9, 3) := by decide +kernel
theorem dX3_sumAfresh_29 : decode cX3_sumAfresh 29 = .ok (.getfield 54, 3) := by decide +kernel
theorem dX3_sumAfresh_32 : decode cX3_sumAfresh 32 = .ok (.iload_n 1, 1) := by decide +kernel
theorem dX3_sumAfresh_33 : decode cX3_sumAfresh 33 = .ok (.iload_n 2, 1) := by decide +kernel
theorem dX3_sumAfresh_34 : decode cX3_sumAfresh 34 = .ok (.iadd, 1) := by decide +kernel
theorem dX3_sumAfresh_35 : decode cX3_sumAfresh 35 = .ok (.iaload, 1) := by decide +kernel
theorem dX3_sumAfresh_36 : decode cX3_sumAfresh 36 = .ok (.iadd, 1) := by decide +kernel
theorem dX3_sumAfresh_37 : decode cX3_sumAfresh 37 = .ok (.putfield 41, 3) := by decide +kernel
theorem dX3_sumAfresh_40 : decode cX3_sumAfresh 40 = .ok (.aload_n 0, 1) := by decide +kernel
theorem dX3_sumAfresh_41 : decode cX3_sumAfresh 41 = .ok (.dup, 1) := by decide +kernel
theorem dX3_sumAfresh_42 : decode cX3_sumAfresh 42 = .ok (.getfield 44, 3) := by decide +kernel
theorem dX3_sumAfresh_45 : decode cX3_sumAfresh 45 = .ok (.aload_n 0, 1) := by decide +kernel
theorem dX3_sumAfresh_46 : decode cX3_sumAfresh 46 = .ok (.getfield 41, 3) := by decide +kernel
theorem dX3_sumAfresh_49 : decode cX3_sumAfresh 49 = .ok (.iadd, 1) := by decide +kernel
theorem dX3_sumAfresh_50 : decode cX3_sumAfresh 50 = .ok (.putfield 44, 3) := by decide +kernel
theorem dX3_sumAfresh_53 : decode cX3_sumAfresh 53 = .ok (.iinc 2 1, 3) := by decide +kernel
theorem dX3_sumAfresh_56 : decode cX3_sumAfresh 56 = .ok (.goto (-44), 3) := by decide +kernel
theorem dX3_sumAfresh_59 : decode cX3_sumAfresh 59 = .ok (.return_, 1) := by decide +kernel
theorem dX3_shows_0 : decode cX3_shows 0 = .ok (.aload_n 0, 1) := by decide +kernel
theorem dX3_shows_1 : decode cX3_shows 1 = .ok (.getfield 22, 3) := by decide +kernel
theorem dX3_shows_4 : decode cX3_shows 4 = .ok (.ifCond .eq 29, 3) := by decide +kernel
theorem dX3_shows_7 : decode cX3_shows 7 = .ok (.aload_n 0, 1) := by decide +kernel
theorem dX3_shows_8 : decode cX3_shows 8 = .ok (.getfield 51, 3) := by decide +kernel
theorem dX3_shows_11 : decode cX3_shows 11 = .ok (.iload_n 1, 1) := by decide +kernel
theorem dX3_shows_12 : decode cX3_shows 12 = .ok (.if_icmp .ne 21, 3) := by decide +kernel
theorem dX3_shows_15 : decode cX3_shows 15 = .ok (.aload_n 0, 1) := by decide +kernel
theorem dX3_shows_16 : decode cX3_shows 16 = .ok (.invokevirtual 58, 3) := by decide +kernel
theorem dX3_shows_19 : decode cX3_shows 19 = .ok (.lload_n 2, 1) := by decide +kernel
theorem dX3_shows_20 : decode cX3_shows 20 = .ok (.lxor, 1) := by decide +kernel
theorem dX3_shows_21 : decode cX3_shows 21 = .ok (.lload 4, 2) := by decide +kernel
theorem dX3_shows_23 : decode cX3_shows 23 = .ok (.land, 1) := by decide +kernel
theorem dX3_shows_24 : decode cX3_shows 24 = .ok (.lconst 0, 1) := by decide +kernel
theorem dX3_shows_25 : decode cX3_shows 25 = .ok (.lcmp, 1) := by decide +kernel
theorem dX3_shows_26 : decode cX3_shows 26 = .ok (.ifCond .ne 7, 3) := by decide +kernel
theorem dX3_shows_29 : decode cX3_shows 29 = .ok (.iconst 1, 1) := by decide +kernel
theorem dX3_shows_30 : decode cX3_shows 30 = .ok (.goto 4, 3) := by decide +kernel
theorem dX3_shows_33 : decode cX3_shows 33 = .ok (.iconst 0, 1) := by decide +kernel
theorem dX3_shows_34 : decode cX3_shows 34 = .ok (.ireturn, 1) := by decide +kernel
theorem dX3_strongSumHere_0 : decode cX3_strongSumHere 0 = .ok (.aload_n 0, 1) := by decide +kernel
theorem dX3_strongSumHere_1 : decode cX3_strongSumHere 1 = .ok (.getfield 26, 3) := by decide +kernel
theorem dX3_strongSumHere_4 : decode cX3_strongSumHere 4 = .ok (.ifCond .ne 27, 3) := by decide +kernel
theorem dX3_strongSumHere_7 : decode cX3_strongSumHere 7 = .ok (.aload_n 0, 1) := by decide +kernel
theorem dX3_strongSumHere_8 : decode cX3_strongSumHere 8 = .ok (.aload_n 0, 1) := by decide +kernel
theorem dX3_strongSumHere_9 : decode cX3_strongSumHere 9 = .ok (.getfield 9, 3) := by decide +kernel
theorem dX3_strongSumHere_12 : decode cX3_strongSumHere 12 = .ok (.aload_n 0, 1) := by decide +kernel
theorem dX3_strongSumHere_13 : decode cX3_strongSumHere 13 = .ok (.getfield 19, 3) := by decide +kernel
theorem dX3_strongSumHere_16 : decode cX3_strongSumHere 16 = .ok (.aload_n 0, 1) := by decide +kernel
theorem dX3_strongSumHere_17 : decode cX3_strongSumHere 17 = .ok (.getfield 15, 3) := by decide +kernel
theorem dX3_strongSumHere_20 : decode cX3_strongSumHere 20 = .ok (.invokevirtual 62, 3) := by decide +kernel
theorem dX3_strongSumHere_23 : decode cX3_strongSumHere 23 = .ok (.putfield 66, 3) := by decide +kernel
theorem dX3_strongSumHere_26 : decode cX3_strongSumHere 26 = .ok (.aload_n 0, 1) := by decide +kernel
theorem dX3_strongSumHere_27 : decode cX3_strongSumHere 27 = .ok (.iconst 1, 1) := by decide +kernel
theorem dX3_strongSumHere_28 : decode cX3_strongSumHere 28 = .ok (.putfield 26, 3) := by decide +kernel
theorem dX3_strongSumHere_31 : decode cX3_strongSumHere 31 = .ok (.aload_n 0, 1) := by decide +kernel
theorem dX3_strongSumHere_32 : decode cX3_strongSumHere 32 = .ok (.getfield 66, 3) := by decide +kernel
theorem dX3_strongSumHere_35 : decode cX3_strongSumHere 35 = .ok (.lreturn, 1) := by decide +kernel
theorem dL_size_0 : decode cL_size 0 = .ok (.aload_n 0, 1) := by decide +kernel
theorem dL_size_1 : decode cL_size 1 = .ok (.iload_n 1, 1) := by decide +kernel
theorem dL_size_2 : decode cL_size 2 = .ok (.iload_n 2, 1) := by decide +kernel
theorem dL_size_3 : decode cL_size 3 = .ok (.invokevirtual 7, 3) := by decide +kernel
theorem dL_size_6 : decode cL_size 6 = .ok (.goto 6, 3) := by decide +kernel
theorem dL_size_9 : decode cL_size 9 = .ok (.astore_n 3, 1) := by decide +kernel
theorem dL_size_10 : decode cL_size 10 = .ok (.iconst 1, 1) := by decide +kernel
theorem dL_size_11 : decode cL_size 11 = .ok (.ireturn, 1) := by decide +kernel
theorem dL_size_12 : decode cL_size 12 = .ok (.iconst 0, 1) := by decide +kernel
theorem dL_size_13 : decode cL_size 13 = .ok (.ireturn, 1) := by decide +kernel
theorem dL_put_0 : decode cL_put 0 = .ok (.aload_n 0, 1) := by decide +kernel
theorem dL_put_1 : decode cL_put 1 = .ok (.iload_n 1, 1) := by decide +kernel
theorem dL_put_2 : decode cL_put 2 = .ok (.iload_n 2, 1) := by decide +kernel
theorem dL_put_3 : decode cL_put 3 = .ok (.lload_n 3, 1) := by decide +kernel
theorem dL_put_4 : decode cL_put 4 = .ok (.invokevirtual 15, 3) := by decide +kernel
theorem dL_put_7 : decode cL_put 7 = .ok (.goto 11, 3) := by decide +kernel
theorem dL_put_10 : decode cL_put 10 = .ok (.astore 5, 2) := by decide +kernel
theorem dL_put_12 : decode cL_put 12 = .ok (.iconst 1, 1) := by decide +kernel
theorem dL_put_13 : decode cL_put 13 = .ok (.ireturn, 1) := by decide +kernel
theorem dL_put_14 : decode cL_put 14 = .ok (.astore 5, 2) := by decide +kernel
theorem dL_put_16 : decode cL_put 16 = .ok (.iconst 2, 1) := by decide +kernel
theorem dL_put_17 : decode cL_put 17 = .ok (.ireturn, 1) := by decide +kernel
theorem dL_put_18 : decode cL_put 18 = .ok (.iconst 0, 1) := by decide +kernel
theorem dL_put_19 : decode cL_put 19 = .ok (.ireturn, 1) := by decide +kernel
theorem dL_move_0 : decode cL_move 0 = .ok (.aload_n 0, 1) := by decide +kernel
theorem dL_move_1 : decode cL_move 1 = .ok (.iload_n 1, 1) := by decide +kernel
theorem dL_move_2 : decode cL_move 2 = .ok (.iload_n 2, 1) := by decide +kernel
theorem dL_move_3 : decode cL_move 3 = .ok (.iload_n 3, 1) := by decide +kernel
theorem dL_move_4 : decode cL_move 4 = .ok (.iload 4, 2) := by decide +kernel
theorem dL_move_6 : decode cL_move 6 = .ok (.iload 5, 2) := by decide +kernel
theorem dL_move_8 : decode cL_move 8 = .ok (.invokevirtual 21, 3) := by decide +kernel
theorem dL_move_11 : decode cL_move 11 = .ok (.goto 11, 3) := by decide +kernel
theorem dL_move_14 : decode cL_move 14 = .ok (.astore 6, 2) := by decide +kernel
theorem dL_move_16 : decode cL_move 16 = .ok (.iconst 1, 1) := by decide +kernel
theorem dL_move_17 : decode cL_move 17 = .ok (.ireturn, 1) := by decide +kernel
theorem dL_move_18 : decode cL_move 18 = .ok (.astore 6, 2) := by decide +kernel
theorem dL_move_20 : decode cL_move 20 = .ok (.iconst 2, 1) := by decide +kernel
theorem dL_move_21 : decode cL_move 21 = .ok (.ireturn, 1) := by decide +kernel
theorem dL_move_22 : decode cL_move 22 = .ok (.iconst 0, 1) := by decide +kernel
theorem dL_move_23 : decode cL_move 23 = .ok (.ireturn, 1) := by decide +kernel
theorem dL_octet_0 : decode cL_octet 0 = .ok (.aload_n 3, 1) := by decide +kernel
theorem dL_octet_1 : decode cL_octet 1 = .ok (.iconst 0, 1) := by decide +kernel
theorem dL_octet_2 : decode cL_octet 2 = .ok (.aload_n 0, 1) := by decide +kernel
theorem dL_octet_3 : decode cL_octet 3 = .ok (.iload_n 1, 1) := by decide +kernel
theorem dL_octet_4 : decode cL_octet 4 = .ok (.iload_n 2, 1) := by decide +kernel
theorem dL_octet_5 : decode cL_octet 5 = .ok (.invokevirtual 25, 3) := by decide +kernel
theorem dL_octet_8 : decode cL_octet 8 = .ok (.i2l, 1) := by decide +kernel
theorem dL_octet_9 : decode cL_octet 9 = .ok (.lastore, 1) := by decide +kernel
theorem dL_octet_10 : decode cL_octet 10 = .ok (.goto 11, 3) := by decide +kernel
theorem dL_octet_13 : decode cL_octet 13 = .ok (.astore 4, 2) := by decide +kernel
theorem dL_octet_15 : decode cL_octet 15 = .ok (.iconst 1, 1) := by decide +kernel
theorem dL_octet_16 : decode cL_octet 16 = .ok (.ireturn, 1) := by decide +kernel
theorem dL_octet_17 : decode cL_octet 17 = .ok (.astore 4, 2) := by decide +kernel
theorem dL_octet_19 : decode cL_octet 19 = .ok (.iconst 2, 1) := by decide +kernel
theorem dL_octet_20 : decode cL_octet 20 = .ok (.ireturn, 1) := by decide +kernel
theorem dL_octet_21 : decode cL_octet 21 = .ok (.iconst 0, 1) := by decide +kernel
theorem dL_octet_22 : decode cL_octet 22 = .ok (.ireturn, 1) := by decide +kernel
end
section
theorem dL_weak_0 : decode cL_weak 0 = .ok (.aload 4, 2) := by decide +kernel
theorem dL_weak_2 : decode cL_weak 2 = .ok (.iconst 0, 1) := by decide +kernel
theorem dL_weak_3 : decode cL_weak 3 = .ok (.aload_n 0, 1) := by decide +kernel
theorem dL_weak_4 : decode cL_weak 4 = .ok (.iload_n 1, 1) := by decide +kernel
theorem dL_weak_5 : decode cL_weak 5 = .ok (.iload_n 2, 1) := by decide +kernel
theorem dL_weak_6 : decode cL_weak 6 = .ok (.iload_n 3, 1) := by decide +kernel
theorem dL_weak_7 : decode cL_weak 7 = .ok (.invokevirtual 29, 3) := by decide +kernel
theorem dL_weak_10 : decode cL_weak 10 = .ok (.i2l, 1) := by decide +kernel
theorem dL_weak_11 : decode cL_weak 11 = .ok (.lastore, 1) := by decide +kernel
theorem dL_weak_12 : decode cL_weak 12 = .ok (.goto 11, 3) := by decide +kernel
theorem dL_weak_15 : decode cL_weak 15 = .ok (.astore 5, 2) := by decide +kernel
theorem dL_weak_17 : decode cL_weak 17 = .ok (.iconst 1, 1) := by decide +kernel
theorem dL_weak_18 : decode cL_weak 18 = .ok (.ireturn, 1) := by decide +kernel
theorem dL_weak_19 : decode cL_weak 19 = .ok (.astore 5, 2) := by decide +kernel
theorem dL_weak_21 : decode cL_weak 21 = .ok (.iconst 2, 1) := by decide +kernel
theorem dL_weak_22 : decode cL_weak 22 = .ok (.ireturn, 1) := by decide +kernel
theorem dL_weak_23 : decode cL_weak 23 = .ok (.iconst 0, 1) := by decide +kernel
theorem dL_weak_24 : decode cL_weak 24 = .ok (.ireturn, 1) := by decide +kernel
theorem dL_strong_0 : decode cL_strong 0 = .ok (.aload 4, 2) := by decide +kernel
theorem dL_strong_2 : decode cL_strong 2 = .ok (.iconst 0, 1) := by decide +kernel
theorem dL_strong_3 : decode cL_strong 3 = .ok (.aload_n 0, 1) := by decide +kernel
theorem dL_strong_4 : decode cL_strong 4 = .ok (.iload_n 1, 1) := by decide +kernel
theorem dL_strong_5 : decode cL_strong 5 = .ok (.iload_n 2, 1) := by decide +kernel
theorem dL_strong_6 : decode cL_strong 6 = .ok (.iload_n 3, 1) := by decide +kernel
theorem dL_strong_7 : decode cL_strong 7 = .ok (.invokevirtual 33, 3) := by decide +kernel
theorem dL_strong_10 : decode cL_strong 10 = .ok (.lastore, 1) := by decide +kernel
theorem dL_strong_11 : decode cL_strong 11 = .ok (.goto 11, 3) := by decide +kernel
theorem dL_strong_14 : decode cL_strong 14 = .ok (.astore 5, 2) := by decide +kernel
theorem dL_strong_16 : decode cL_strong 16 = .ok (.iconst 1, 1) := by decide +kernel
theorem dL_strong_17 : decode cL_strong 17 = .ok (.ireturn, 1) := by decide +kernel
theorem dL_strong_18 : decode cL_strong 18 = .ok (.astore 5, 2) := by decide +kernel
theorem dL_strong_20 : decode cL_strong 20 = .ok (.iconst 2, 1) := by decide +kernel
theorem dL_strong_21 : decode cL_strong 21 = .ok (.ireturn, 1) := by decide +kernel
theorem dL_strong_22 : decode cL_strong 22 = .ok (.iconst 0, 1) := by decide +kernel
theorem dL_strong_23 : decode cL_strong 23 = .ok (.ireturn, 1) := by decide +kernel
theorem dL_find_0 : decode cL_find 0 = .ok (.aload 5, 2) := by decide +kernel
theorem dL_find_2 : decode cL_find 2 = .ok (.iconst 0, 1) := by decide +kernel
theorem dL_find_3 : decode cL_find 3 = .ok (.aload_n 0, 1) := by decide +kernel
theorem dL_find_4 : decode cL_find 4 = .ok (.iload_n 1, 1) := by decide +kernel
theorem dL_find_5 : decode cL_find 5 = .ok (.iload_n 2, 1) := by decide +kernel
theorem dL_find_6 : decode cL_find 6 = .ok (.iload_n 3, 1) := by decide +kernel
theorem dL_find_7 : decode cL_find 7 = .ok (.iload 4, 2) := by decide +kernel
theorem dL_find_9 : decode cL_find 9 = .ok (.invokevirtual 37, 3) := by decide +kernel
theorem dL_find_12 : decode cL_find 12 = .ok (.i2l, 1) := by decide +kernel
theorem dL_find_13 : decode cL_find 13 = .ok (.lastore, 1) := by decide +kernel
theorem dL_find_14 : decode cL_find 14 = .ok (.goto 11, 3) := by decide +kernel
theorem dL_find_17 : decode cL_find 17 = .ok (.astore 6, 2) := by decide +kernel
theorem dL_find_19 : decode cL_find 19 = .ok (.iconst 1, 1) := by decide +kernel
theorem dL_find_20 : decode cL_find 20 = .ok (.ireturn, 1) := by decide +kernel
theorem dL_find_21 : decode cL_find 21 = .ok (.astore 6, 2) := by decide +kernel
theorem dL_find_23 : decode cL_find 23 = .ok (.iconst 2, 1) := by decide +kernel
theorem dL_find_24 : decode cL_find 24 = .ok (.ireturn, 1) := by decide +kernel
theorem dL_find_25 : decode cL_find 25 = .ok (.iconst 0, 1) := by decide +kernel
theorem dL_find_26 : decode cL_find 26 = .ok (.ireturn, 1) := by decide +kernel
theorem dL_delta_0 : decode cL_delta 0 = .ok (.aload_n 3, 1) := by decide +kernel
theorem dL_delta_1 : decode cL_delta 1 = .ok (.iconst 0, 1) := by decide +kernel
theorem dL_delta_2 : decode cL_delta 2 = .ok (.aload_n 0, 1) := by decide +kernel
theorem dL_delta_3 : decode cL_delta 3 = .ok (.iload_n 1, 1) := by decide +kernel
theorem dL_delta_4 : decode cL_delta 4 = .ok (.iload_n 2, 1) := by decide +kernel
theorem dL_delta_5 : decode cL_delta 5 = .ok (.invokevirtual 41, 3) := by decide +kernel
theorem dL_delta_8 : decode cL_delta 8 = .ok (.i2l, 1) := by decide +kernel
theorem dL_delta_9 : decode cL_delta 9 = .ok (.lastore, 1) := by decide +kernel
theorem dL_delta_10 : decode cL_delta 10 = .ok (.goto 7, 3) := by decide +kernel
theorem dL_delta_13 : decode cL_delta 13 = .ok (.astore 4, 2) := by decide +kernel
theorem dL_delta_15 : decode cL_delta 15 = .ok (.iconst 1, 1) := by decide +kernel
theorem dL_delta_16 : decode cL_delta 16 = .ok (.ireturn, 1) := by decide +kernel
theorem dL_delta_17 : decode cL_delta 17 = .ok (.iconst 0, 1) := by decide +kernel
theorem dL_delta_18 : decode cL_delta 18 = .ok (.ireturn, 1) := by decide +kernel
theorem dL_token_0 : decode cL_token 0 = .ok (.aload_n 3, 1) := by decide +kernel
theorem dL_token_1 : decode cL_token 1 = .ok (.iconst 0, 1) := by decide +kernel
theorem dL_token_2 : decode cL_token 2 = .ok (.aload_n 0, 1) := by decide +kernel
theorem dL_token_3 : decode cL_token 3 = .ok (.iload_n 1, 1) := by decide +kernel
theorem dL_token_4 : decode cL_token 4 = .ok (.iload_n 2, 1) := by decide +kernel
theorem dL_token_5 : decode cL_token 5 = .ok (.invokevirtual 44, 3) := by decide +kernel
theorem dL_token_8 : decode cL_token 8 = .ok (.i2l, 1) := by decide +kernel
theorem dL_token_9 : decode cL_token 9 = .ok (.lastore, 1) := by decide +kernel
theorem dL_token_10 : decode cL_token 10 = .ok (.goto 11, 3) := by decide +kernel
theorem dL_token_13 : decode cL_token 13 = .ok (.astore 4, 2) := by decide +kernel
theorem dL_token_15 : decode cL_token 15 = .ok (.iconst 1, 1) := by decide +kernel
theorem dL_token_16 : decode cL_token 16 = .ok (.ireturn, 1) := by decide +kernel
theorem dL_token_17 : decode cL_token 17 = .ok (.astore 4, 2) := by decide +kernel
theorem dL_token_19 : decode cL_token 19 = .ok (.iconst 2, 1) := by decide +kernel
theorem dL_token_20 : decode cL_token 20 = .ok (.ireturn, 1) := by decide +kernel
theorem dL_token_21 : decode cL_token 21 = .ok (.iconst 0, 1) := by decide +kernel
theorem dL_token_22 : decode cL_token 22 = .ok (.ireturn, 1) := by decide +kernel
theorem dL_count_0 : decode cL_count 0 = .ok (.aload_n 2, 1) := by decide +kernel
theorem dL_count_1 : decode cL_count 1 = .ok (.iconst 0, 1) := by decide +kernel
theorem dL_count_2 : decode cL_count 2 = .ok (.aload_n 0, 1) := by decide +kernel
theorem dL_count_3 : decode cL_count 3 = .ok (.iload_n 1, 1) := by decide +kernel
theorem dL_count_4 : decode cL_count 4 = .ok (.invokevirtual 47, 3) := by decide +kernel
theorem dL_count_7 : decode cL_count 7 = .ok (.i2l, 1) := by decide +kernel
theorem dL_count_8 : decode cL_count 8 = .ok (.lastore, 1) := by decide +kernel
theorem dL_count_9 : decode cL_count 9 = .ok (.goto 6, 3) := by decide +kernel
theorem dL_count_12 : decode cL_count 12 = .ok (.astore_n 3, 1) := by decide +kernel
theorem dL_count_13 : decode cL_count 13 = .ok (.iconst 1, 1) := by decide +kernel
theorem dL_count_14 : decode cL_count 14 = .ok (.ireturn, 1) := by decide +kernel
theorem dL_count_15 : decode cL_count 15 = .ok (.iconst 0, 1) := by decide +kernel
theorem dL_count_16 : decode cL_count 16 = .ok (.ireturn, 1) := by decide +kernel
end
section
theorem nfu_0 {D : va_G} {cI cL : ClassId} {s : State} {A : Array Value} (hK : ds_K D cI cL s) : (Cond.fieldLinkNest RX4 82 "DeltaDesk$Row" "octets" "[I" "DeltaDesk").before A s = true := va_Nw.use rfl (hK.2.1 _ nf_0)
theorem nfu_1 {D : va_G} {cI cL : ClassId} {s : State} {A : Array Value} (hK : ds_K D cI cL s) : (Cond.fieldLinkNest RX4 104 "DeltaDesk$Row" "length" "I" "DeltaDesk").before A s = true := va_Nw.use rfl (hK.2.1 _ nf_1)
theorem nfu_2 {D : va_G} {cI cL : ClassId} {s : State} {A : Array Value} (hK : ds_K D cI cL s) : (Cond.fieldLinkNest RX4 137 "DeltaDesk$Blocks" "lastSize" "I" "DeltaDesk").before A s = true := va_Nw.use rfl (hK.2.1 _ nf_2)
theorem nfu_3 {D : va_G} {cI cL : ClassId} {s : State} {A : Array Value} (hK : ds_K D cI cL s) : (Cond.fieldLinkNest RX4 147 "DeltaDesk$Tokens" "count" "I" "DeltaDesk").before A s = true := va_Nw.use rfl (hK.2.1 _ nf_3)
theorem nfu_4 {D : va_G} {cI cL : ClassId} {s : State} {A : Array Value} (hK : ds_K D cI cL s) : (Cond.fieldLinkNest RX4 154 "DeltaDesk$Tokens" "kinds" "[I" "DeltaDesk").before A s = true := va_Nw.use rfl (hK.2.1 _ nf_4)
theorem nfu_5 {D : va_G} {cI cL : ClassId} {s : State} {A : Array Value} (hK : ds_K D cI cL s) : (Cond.fieldLinkNest RX4 157 "DeltaDesk$Tokens" "firsts" "[I" "DeltaDesk").before A s = true := va_Nw.use rfl (hK.2.1 _ nf_5)
theorem nfu_6 {D : va_G} {cI cL : ClassId} {s : State} {A : Array Value} (hK : ds_K D cI cL s) : (Cond.fieldLinkNest RX4 160 "DeltaDesk$Tokens" "lengths" "[I" "DeltaDesk").before A s = true := va_Nw.use rfl (hK.2.1 _ nf_6)
theorem nfu_7 {D : va_G} {cI cL : ClassId} {s : State} {A : Array Value} (hK : ds_K D cI cL s) : (Cond.fieldLinkNest RX4 200 "DeltaDesk$Blocks" "count" "I" "DeltaDesk").before A s = true := va_Nw.use rfl (hK.2.1 _ nf_7)
theorem nfu_8 {D : va_G} {cI cL : ClassId} {s : State} {A : Array Value} (hK : ds_K D cI cL s) : (Cond.fieldLinkNest RX4 205 "DeltaDesk$Blocks" "weaks" "[I" "DeltaDesk").before A s = true := va_Nw.use rfl (hK.2.1 _ nf_8)
theorem nfu_9 {D : va_G} {cI cL : ClassId} {s : State} {A : Array Value} (hK : ds_K D cI cL s) : (Cond.fieldLinkNest RX4 208 "DeltaDesk$Blocks" "strongs" "[J" "DeltaDesk").before A s = true := va_Nw.use rfl (hK.2.1 _ nf_9)
theorem nfu_10 {D : va_G} {cI cL : ClassId} {s : State} {A : Array Value} (hK : ds_K D cI cL s) : (Cond.fieldLinkNest RX0 33 "DeltaDesk$Row" "length" "I" "DeltaDesk").before A s = true := va_Nw.use rfl (hK.2.1 _ nf_10)
theorem nfu_11 {D : va_G} {cI cL : ClassId} {s : State} {A : Array Value} (hK : ds_K D cI cL s) : (Cond.fieldLinkNest RX3 29 "DeltaDesk$Row" "length" "I" "DeltaDesk").before A s = true := va_Nw.use rfl (hK.2.1 _ nf_11)
theorem nfu_12 {D : va_G} {cI cL : ClassId} {s : State} {A : Array Value} (hK : ds_K D cI cL s) : (Cond.fieldLinkNest RX3 54 "DeltaDesk$Row" "octets" "[I" "DeltaDesk").before A s = true := va_Nw.use rfl (hK.2.1 _ nf_12)
theorem nmu_0 {D : va_G} {cI cL : ClassId} {s : State} (hK : ds_K D cI cL s) : va_Nw (Cond.methodLinkNest RX4 11 yX1_init "DeltaDesk") s := hK.2.2.1 _ nm_0
theorem nmu_1 {D : va_G} {cI cL : ClassId} {s : State} (hK : ds_K D cI cL s) : va_Nw (Cond.methodLinkNest RX4 24 yX0_init "DeltaDesk") s := hK.2.2.1 _ nm_1
theorem nmu_2 {D : va_G} {cI cL : ClassId} {s : State} (hK : ds_K D cI cL s) : va_Nw (Cond.methodLinkNest RX4 33 yX3_init "DeltaDesk") s := hK.2.2.1 _ nm_2
theorem nmu_3 {D : va_G} {cI cL : ClassId} {s : State} (hK : ds_K D cI cL s) : va_Nw (Cond.methodLinkNest RX4 43 yX2_init "DeltaDesk") s := hK.2.2.1 _ nm_3
theorem nmu_4 {D : va_G} {cI cL : ClassId} {s : State} (hK : ds_K D cI cL s) : va_Nw (Cond.methodLinkNest RX4 67 yX1_resize "DeltaDesk") s := hK.2.2.1 _ nm_4
theorem nmu_5 {D : va_G} {cI cL : ClassId} {s : State} (hK : ds_K D cI cL s) : va_Nw (Cond.methodLinkNest RX4 74 yX1_write "DeltaDesk") s := hK.2.2.1 _ nm_5
theorem nmu_6 {D : va_G} {cI cL : ClassId} {s : State} (hK : ds_K D cI cL s) : va_Nw (Cond.methodLinkNest RX4 92 yX1_weakSum "DeltaDesk") s := hK.2.2.1 _ nm_6
theorem nmu_7 {D : va_G} {cI cL : ClassId} {s : State} (hK : ds_K D cI cL s) : va_Nw (Cond.methodLinkNest RX4 96 yX1_strongSum "DeltaDesk") s := hK.2.2.1 _ nm_7
theorem nmu_8 {D : va_G} {cI cL : ClassId} {s : State} (hK : ds_K D cI cL s) : va_Nw (Cond.methodLinkNest RX4 131 yX0_cut "DeltaDesk") s := hK.2.2.1 _ nm_8
theorem nmu_9 {D : va_G} {cI cL : ClassId} {s : State} (hK : ds_K D cI cL s) : va_Nw (Cond.methodLinkNest RX4 134 yX3_open "DeltaDesk") s := hK.2.2.1 _ nm_9
theorem nmu_10 {D : va_G} {cI cL : ClassId} {s : State} (hK : ds_K D cI cL s) : va_Nw (Cond.methodLinkNest RX4 140 yX2_clear "DeltaDesk") s := hK.2.2.1 _ nm_10
theorem nmu_11 {D : va_G} {cI cL : ClassId} {s : State} (hK : ds_K D cI cL s) : va_Nw (Cond.methodLinkNest RX4 163 yX1_append "DeltaDesk") s := hK.2.2.1 _ nm_11
theorem nmu_12 {D : va_G} {cI cL : ClassId} {s : State} (hK : ds_K D cI cL s) : va_Nw (Cond.methodLinkNest RX4 180 yX3_moveTo "DeltaDesk") s := hK.2.2.1 _ nm_12
theorem nmu_13 {D : va_G} {cI cL : ClassId} {s : State} (hK : ds_K D cI cL s) : va_Nw (Cond.methodLinkNest RX4 183 yX3_shows "DeltaDesk") s := hK.2.2.1 _ nm_13
theorem nmu_14 {D : va_G} {cI cL : ClassId} {s : State} (hK : ds_K D cI cL s) : va_Nw (Cond.methodLinkNest RX4 191 yX2_add "DeltaDesk") s := hK.2.2.1 _ nm_14
theorem nmu_15 {D : va_G} {cI cL : ClassId} {s : State} (hK : ds_K D cI cL s) : va_Nw (Cond.methodLinkNest RX4 194 yX0_start "DeltaDesk") s := hK.2.2.1 _ nm_15
theorem nmu_16 {D : va_G} {cI cL : ClassId} {s : State} (hK : ds_K D cI cL s) : va_Nw (Cond.methodLinkNest RX4 198 yX0_length "DeltaDesk") s := hK.2.2.1 _ nm_16
theorem nmu_17 {D : va_G} {cI cL : ClassId} {s : State} (hK : ds_K D cI cL s) : va_Nw (Cond.methodLinkNest RX0 38 yX4_blockCount "DeltaDesk") s := hK.2.2.1 _ nm_17
theorem nmu_18 {D : va_G} {cI cL : ClassId} {s : State} (hK : ds_K D cI cL s) : va_Nw (Cond.methodLinkNest RX0 48 yX1_weakSum "DeltaDesk") s := hK.2.2.1 _ nm_18
theorem nmu_19 {D : va_G} {cI cL : ClassId} {s : State} (hK : ds_K D cI cL s) : va_Nw (Cond.methodLinkNest RX0 51 yX1_strongSum "DeltaDesk") s := hK.2.2.1 _ nm_19
theorem nmu_20 {D : va_G} {cI cL : ClassId} {s : State} (hK : ds_K D cI cL s) : va_Nw (Cond.methodLinkNest RX3 47 yX1_joinWeak "DeltaDesk") s := hK.2.2.1 _ nm_20
theorem nmu_21 {D : va_G} {cI cL : ClassId} {s : State} (hK : ds_K D cI cL s) : va_Nw (Cond.methodLinkNest RX3 62 yX1_strongSum "DeltaDesk") s := hK.2.2.1 _ nm_21
end
section
set_option maxHeartbeats 4000000 in
set_option maxRecDepth 100000 in
theorem c_X1_joinWeak (Ll : Launch) (D : va_G) (cI cL : ClassId) (a : Int32) (b : Int32) (sz : Nat) : Met Ll yX1_joinWeak wsX1_joinWeak { frames := 0, cells := 0, slots := 0, locals := 0 } (ds_P D cI cL [.int a, .int b] [] sz) (ds_Qi D (fun (r : Int32) (u : Unit) => r = su_J a b) (fun u : Unit => []) (va_A [] sz)) 0 0 (va_A [] sz) := by
  refine ds_enter (Qf := (fun A9 => ds_Qi D (fun (r : Int32) (u : Unit) => r = su_J a b) (fun u : Unit => []) A9)) (cc := cX1_joinWeak) (maxL := 2) (ret := (some .int)) (by decide) rfl (Nat.le_of_ble_eq_true rfl) ?_
  intro Pp Ee Ss Mm Aa Bb Me Cc hx hb hml hr ht hown hlk hnm A H locs hA hP hD hS hK ls hl
  have hl : lv_has ls 2 [(0, .int a), (1, .int b)] := hl
  change Ss.vm.findClass RX1 = some Mm.cls at hown
  refine lv_iload_n hx hb dX1_joinWeak_0 rfl (lv_at hl 0 rfl) ?_
  refine lv_ldc (v := nI 65535) hx hb hown (ht _ iw_213) dX1_joinWeak_1 ?_
  refine lv_iand hx hb dX1_joinWeak_3 ?_
  refine lv_ldc (v := nI 65536) hx hb hown (ht _ iw_214) dX1_joinWeak_4 ?_
  refine lv_iload_n hx hb dX1_joinWeak_6 rfl (lv_at hl 1 rfl) ?_
  refine lv_ldc (v := nI 65535) hx hb hown (ht _ iw_213) dX1_joinWeak_7 ?_
  refine lv_iand hx hb dX1_joinWeak_9 ?_
  refine lv_imul hx hb dX1_joinWeak_10 ?_
  refine lv_iadd hx hb dX1_joinWeak_11 ?_
  exact ds_iret hx hb hr hlk rfl () rfl hP hD hS (Nat.le_of_ble_eq_true rfl) (Nat.le_of_ble_eq_true rfl) dX1_joinWeak_12
set_option maxHeartbeats 4000000 in
set_option maxRecDepth 100000 in
theorem c_X1_weakSum (Ll : Launch) (D : va_G) (cI cL : ClassId) (r : Nat) (o : Nat) (n : Nat) (f : Nat → Int32) (p : Nat) (k : Nat) (h1 : p + k ≤ 1200) (sz : Nat) : Met Ll yX1_weakSum wsX1_weakSum { frames := 1, cells := 0, slots := 0, locals := 21 } (ds_P D cI cL [.ref r, .int (nI p), .int (nI k)] [(r, .inr (1, [.ref o, .int (nI n)])), (o, .inl (cI, 1200, .inl f))] sz) (ds_Qi D (fun (r : Int32) (u : Unit) => r = su_W f p k) (fun u : Unit => [(r, .inr (1, [.ref o, .int (nI n)])), (o, .inl (cI, 1200, .inl f))]) (va_A [(r, .inr (1, [.ref o, .int (nI n)])), (o, .inl (cI, 1200, .inl f))] sz)) 0 0 (va_A [(r, .inr (1, [.ref o, .int (nI n)])), (o, .inl (cI, 1200, .inl f))] sz) := by
  refine ds_enter (Qf := (fun A9 => ds_Qi D (fun (r : Int32) (u : Unit) => r = su_W f p k) (fun u : Unit => [(r, .inr (1, [.ref o, .int (nI n)])), (o, .inl (cI, 1200, .inl f))]) A9)) (cc := cX1_weakSum) (maxL := 6) (ret := (some .int)) (by decide) rfl (Nat.le_of_ble_eq_true rfl) ?_
  intro Pp Ee Ss Mm Aa Bb Me Cc hx hb hml hr ht hown hlk hnm A H locs hA hP hD hS hK ls hl
  have hl : lv_has ls 6 [(0, .ref r), (1, .int (nI p)), (2, .int (nI k))] := hl
  change Ss.vm.findClass RX1 = some Mm.cls at hown
  refine lv_iconst (v := nI 0) hx hb dX1_weakSum_0 (by decide +kernel) ?_
  refine lv_istore_n (lv' := [(3, .int (nI 0)), (0, .ref r), (1, .int (nI p)), (2, .int (nI k))]) hx hb dX1_weakSum_1 rfl hl (Nat.le_of_ble_eq_true rfl) rfl (fun ls hl => ?_)
  refine lv_iconst (v := nI 0) hx hb dX1_weakSum_2 (by decide +kernel) ?_
  refine lv_istore (lv' := [(4, .int (nI 0)), (3, .int (nI 0)), (0, .ref r), (1, .int (nI p)), (2, .int (nI k))]) hx hb dX1_weakSum_3 hl (Nat.le_of_ble_eq_true rfl) rfl (fun ls hl => ?_)
  refine lv_iconst (v := nI 0) hx hb dX1_weakSum_5 (by decide +kernel) ?_
  refine lv_istore (lv' := [(5, .int (nI 0)), (4, .int (nI 0)), (3, .int (nI 0)), (0, .ref r), (1, .int (nI p)), (2, .int (nI k))]) hx hb dX1_weakSum_6 hl (Nat.le_of_ble_eq_true rfl) rfl (fun ls hl => ?_)
  have loop1 : ∀ (k2 : Nat) (i : Nat) (H : Heap) (locs : List Loc) (ls : Array Slot), (i ≤ k) → k - i < k2 → va_P D vwCl [(r, .inr (1, [.ref o, .int (nI n)])), (o, .inl (cI, 1200, .inl f))] H → va_D A [(r, .inr (1, [.ref o, .int (nI n)])), (o, .inl (cI, 1200, .inl f))] → va_S A Ss.heap H locs → lv_has ls 6 [(0, .ref r), (1, .int (nI p)), (2, .int (nI k)), (3, .int (su_A f p i)), (4, .int (su_C f p k i)), (5, .int (nI i))] → W Pp Ll Ee { frames := 1, cells := 0, slots := 0, locals := 21 } Ss Mm Aa Bb Me Cc H locs 0 0 (MQ Bb (ds_Qi D (fun (r : Int32) (u : Unit) => r = su_W f p k) (fun u : Unit => [(r, .inr (1, [.ref o, .int (nI n)])), (o, .inl (cI, 1200, .inl f))]) A) Aa Ss 0 0 A) (F0 Mm 8 ls []) := by
    intro k2
    induction k2 with
    | zero => intro i H locs ls hi hm4; exact absurd hm4 (Nat.not_lt_zero _)
    | succ k2 ih3 =>
      intro i H locs ls hi hm4 hP hD hS hl
      refine lv_iload hx hb dX1_weakSum_8 (lv_at hl 5 rfl) ?_
      refine lv_iload_n hx hb dX1_weakSum_10 rfl (lv_at hl 2 rfl) ?_
      refine lv_icmp_ge (tgt := 51) hx hb dX1_weakSum_11 (by decide) (fun h => ?_) (fun h => ?_)
      ·
        have h : k ≤ i := (nI_leI (a := k) (b := i) (by omega) (by omega)).mp h
        have e9 : k = i := (by omega)
        subst e9
        refine lv_iload_n hx hb dX1_weakSum_51 rfl (lv_at hl 3 rfl) ?_
        refine lv_iload hx hb dX1_weakSum_52 (lv_at hl 4 rfl) ?_
        refine ds_calli (wc := []) (wr := [(r, .inr (1, [.ref o, .int (nI n)])), (o, .inl (cI, 1200, .inl f))]) (wo := (fun u6 : Unit => [])) (wn := (fun u6 : Unit => [(r, .inr (1, [.ref o, .int (nI n)])), (o, .inl (cI, 1200, .inl f))])) (isC := []) (isR := [0, 1]) hP hD hS hA ⟨rfl, rfl, by decide, by decide, by decide⟩ [0, 1] (by decide) (fun _ => rfl) (fun hPc hDc => va_runS (As := [.int (su_A f p k), .int (su_C f p k k)]) (rest := []) ⟨hx, hb, hml, hown, ht⟩ (c_X1_joinWeak Ll D cI cL (su_A f p k) (su_C f p k k)  H.size) ⟨(callB_of 2 ht g_X1_joinWeak rfl rfl rfl (ht _ iw_6) (ht _ iw_210) hd_X1_joinWeak ⟨Nat.le_of_ble_eq_true rfl, Nat.le_of_ble_eq_true rfl⟩), (ht _ iw_211)⟩ (ds_pS hPc hDc hK) rfl rfl hl.1 rfl (lv_room (Nat.le_of_ble_eq_true rfl)) dX1_weakSum_54 ⟨Nat.le_of_ble_eq_true rfl, Nat.le_of_ble_eq_true rfl⟩) (fun r5 u6 H locs hp7 hP hD hS => ?_)
        have hP : va_P D vwCl [(r, .inr (1, [.ref o, .int (nI n)])), (o, .inl (cI, 1200, .inl f))] H := hP
        have hD : va_D A [(r, .inr (1, [.ref o, .int (nI n)])), (o, .inl (cI, 1200, .inl f))] := hD
        have hp7 : r5 = su_J (su_A f p k) (su_C f p k k) := hp7
        replace hp7 := Eq.symm hp7
        subst hp7
        exact ds_iret hx hb hr hlk rfl () (by rw [su_C_n]; rfl) hP hD hS (Nat.le_of_ble_eq_true rfl) (Nat.le_of_ble_eq_true rfl) dX1_weakSum_57
      ·
        have h : ¬ k ≤ i := fun z9 => h ((nI_leI (a := k) (b := i) (by omega) (by omega)).mpr z9)
        refine lv_iload_n hx hb dX1_weakSum_14 rfl (lv_at hl 3 rfl) ?_
        refine lv_aload_n hx hb dX1_weakSum_15 rfl (lv_at hl 0 rfl) ?_
        refine va_get (D := D) (ci := 1) (v := .ref o) (C := RX1) (T := TX1) (N := 2) hx hb ht inA_X1 hown hK.1 hP 0 rfl rfl 0 (by decide) (ht _ iw_203) (fun _ h9 => h9) rfl dX1_weakSum_16 ?_
        refine lv_iload_n hx hb dX1_weakSum_19 rfl (lv_at hl 1 rfl) ?_
        refine lv_iload hx hb dX1_weakSum_20 (lv_at hl 5 rfl) ?_
        refine lv_iadd hx hb dX1_weakSum_22 ?_
        refine ds_top (z := nI (p + i)) (nI_add _ _) ?_
        refine ds_iald (k := p + i) hx hb hK hP 1 rfl (by omega) (by omega) dX1_weakSum_23 ?_
        refine lv_iadd hx hb dX1_weakSum_24 ?_
        refine lv_istore_n (lv' := [(3, .int ((su_A f p i) + (f (p + i)))), (0, .ref r), (1, .int (nI p)), (2, .int (nI k)), (4, .int (su_C f p k i)), (5, .int (nI i))]) hx hb dX1_weakSum_25 rfl hl (Nat.le_of_ble_eq_true rfl) rfl (fun ls hl => ?_)
        refine lv_iload hx hb dX1_weakSum_26 (lv_at hl 4 rfl) ?_
        refine lv_iload_n hx hb dX1_weakSum_28 rfl (lv_at hl 3 rfl) ?_
        refine lv_iload hx hb dX1_weakSum_29 (lv_at hl 5 rfl) ?_
        refine lv_isub hx hb dX1_weakSum_31 ?_
        refine ds_top (z := nI (k - i)) (pk_sub (by omega)) ?_
        refine lv_aload_n hx hb dX1_weakSum_32 rfl (lv_at hl 1 rfl) ?_
        refine va_get (D := D) (ci := 1) (v := .ref o) (C := RX1) (T := TX1) (N := 2) hx hb ht inA_X1 hown hK.1 hP 0 rfl rfl 0 (by decide) (ht _ iw_203) (fun _ h9 => h9) rfl dX1_weakSum_33 ?_
        refine lv_iload_n hx hb dX1_weakSum_36 rfl (lv_at hl 2 rfl) ?_
        refine lv_iload hx hb dX1_weakSum_37 (lv_at hl 5 rfl) ?_
        refine lv_iadd hx hb dX1_weakSum_39 ?_
        refine ds_top (z := nI (p + i)) (nI_add _ _) ?_
        refine ds_iald (k := p + i) hx hb hK hP 1 rfl (by omega) (by omega) dX1_weakSum_40 ?_
        refine lv_imul hx hb dX1_weakSum_41 ?_
        refine lv_iadd hx hb dX1_weakSum_42 ?_
        refine lv_istore (lv' := [(4, .int ((su_C f p k i) + ((nI (k - i)) * (f (p + i))))), (3, .int ((su_A f p i) + (f (p + i)))), (0, .ref r), (1, .int (nI p)), (2, .int (nI k)), (5, .int (nI i))]) hx hb dX1_weakSum_43 hl (Nat.le_of_ble_eq_true rfl) rfl (fun ls hl => ?_)
        refine lv_iinc (k := 5) (v := nI (i + 1)) (lv' := [(5, .int (nI (i + 1))), (4, .int ((su_C f p k i) + ((nI (k - i)) * (f (p + i))))), (3, .int ((su_A f p i) + (f (p + i)))), (0, .ref r), (1, .int (nI p)), (2, .int (nI k))]) hx hb dX1_weakSum_45 hl rfl (by rw [nI_succ]; rfl) (Nat.le_of_ble_eq_true rfl) rfl (fun ls hl => ?_)
        refine lv_goto (tgt := 8) hx hb dX1_weakSum_48 (by decide) ?_
        exact ih3 (i + 1) H locs ls (by omega) (by omega) hP hD hS (lv_sub hl [3, 4, 5, 2, 1, 0] rfl)
  exact loop1 _ 0 H locs ls (Nat.zero_le _) (Nat.lt_succ_self _) hP hD hS (lv_sub hl [3, 4, 5, 2, 1, 0] rfl)
end
section
set_option maxHeartbeats 4000000 in
set_option maxRecDepth 100000 in
theorem c_X1_strongSum (Ll : Launch) (D : va_G) (cI cL : ClassId) (r : Nat) (o : Nat) (n : Nat) (f : Nat → Int32) (p : Nat) (k : Nat) (h1 : p + k ≤ 1200) (sz : Nat) : Met Ll yX1_strongSum wsX1_strongSum { frames := 0, cells := 0, slots := 0, locals := 0 } (ds_P D cI cL [.ref r, .int (nI p), .int (nI k)] [(r, .inr (1, [.ref o, .int (nI n)])), (o, .inl (cI, 1200, .inl f))] sz) (ds_Ql D (fun (r : Int64) (u : Unit) => r = su_S f p k) (fun u : Unit => [(r, .inr (1, [.ref o, .int (nI n)])), (o, .inl (cI, 1200, .inl f))]) (va_A [(r, .inr (1, [.ref o, .int (nI n)])), (o, .inl (cI, 1200, .inl f))] sz)) 0 0 (va_A [(r, .inr (1, [.ref o, .int (nI n)])), (o, .inl (cI, 1200, .inl f))] sz) := by
  refine ds_enter (Qf := (fun A9 => ds_Ql D (fun (r : Int64) (u : Unit) => r = su_S f p k) (fun u : Unit => [(r, .inr (1, [.ref o, .int (nI n)])), (o, .inl (cI, 1200, .inl f))]) A9)) (cc := cX1_strongSum) (maxL := 6) (ret := (some .long)) (by decide) rfl (Nat.le_of_ble_eq_true rfl) ?_
  intro Pp Ee Ss Mm Aa Bb Me Cc hx hb hml hr ht hown hlk hnm A H locs hA hP hD hS hK ls hl
  have hl : lv_has ls 6 [(0, .ref r), (1, .int (nI p)), (2, .int (nI k))] := hl
  change Ss.vm.findClass RX1 = some Mm.cls at hown
  refine lv_ldc2 (v := -3750763034362895579) hx hb hown (ht _ iw_216) dX1_strongSum_0 ?_
  refine lv_lstore_n (lv' := [(3, .long (-3750763034362895579)), (0, .ref r), (1, .int (nI p)), (2, .int (nI k))]) hx hb dX1_strongSum_3 rfl hl (Nat.le_of_ble_eq_true rfl) rfl (fun ls hl => ?_)
  refine lv_iconst (v := nI 0) hx hb dX1_strongSum_4 (by decide +kernel) ?_
  refine lv_istore (lv' := [(5, .int (nI 0)), (3, .long (-3750763034362895579)), (0, .ref r), (1, .int (nI p)), (2, .int (nI k))]) hx hb dX1_strongSum_5 hl (Nat.le_of_ble_eq_true rfl) rfl (fun ls hl => ?_)
  have loop1 : ∀ (k2 : Nat) (i : Nat) (H : Heap) (locs : List Loc) (ls : Array Slot), (i ≤ k) → k - i < k2 → va_P D vwCl [(r, .inr (1, [.ref o, .int (nI n)])), (o, .inl (cI, 1200, .inl f))] H → va_D A [(r, .inr (1, [.ref o, .int (nI n)])), (o, .inl (cI, 1200, .inl f))] → va_S A Ss.heap H locs → lv_has ls 6 [(0, .ref r), (1, .int (nI p)), (2, .int (nI k)), (3, .long (su_S f p i)), (5, .int (nI i))] → W Pp Ll Ee { frames := 0, cells := 0, slots := 0, locals := 0 } Ss Mm Aa Bb Me Cc H locs 0 0 (MQ Bb (ds_Ql D (fun (r : Int64) (u : Unit) => r = su_S f p k) (fun u : Unit => [(r, .inr (1, [.ref o, .int (nI n)])), (o, .inl (cI, 1200, .inl f))]) A) Aa Ss 0 0 A) (F0 Mm 7 ls []) := by
    intro k2
    induction k2 with
    | zero => intro i H locs ls hi hm4; exact absurd hm4 (Nat.not_lt_zero _)
    | succ k2 ih3 =>
      intro i H locs ls hi hm4 hP hD hS hl
      refine lv_iload hx hb dX1_strongSum_7 (lv_at hl 4 rfl) ?_
      refine lv_iload_n hx hb dX1_strongSum_9 rfl (lv_at hl 2 rfl) ?_
      refine lv_icmp_ge (tgt := 36) hx hb dX1_strongSum_10 (by decide) (fun h => ?_) (fun h => ?_)
      ·
        have h : k ≤ i := (nI_leI (a := k) (b := i) (by omega) (by omega)).mp h
        have e9 : k = i := (by omega)
        subst e9
        refine lv_lload_n hx hb dX1_strongSum_36 rfl (lv_at hl 3 rfl) ?_
        exact ds_lret hx hb hr hlk () rfl hP hD hS (Nat.le_of_ble_eq_true rfl) (Nat.le_of_ble_eq_true rfl) dX1_strongSum_37
      ·
        have h : ¬ k ≤ i := fun z9 => h ((nI_leI (a := k) (b := i) (by omega) (by omega)).mpr z9)
        refine lv_lload_n hx hb dX1_strongSum_13 rfl (lv_at hl 3 rfl) ?_
        refine lv_aload_n hx hb dX1_strongSum_14 rfl (lv_at hl 0 rfl) ?_
        refine va_get (D := D) (ci := 1) (v := .ref o) (C := RX1) (T := TX1) (N := 2) hx hb ht inA_X1 hown hK.1 hP 0 rfl rfl 0 (by decide) (ht _ iw_203) (fun _ h9 => h9) rfl dX1_strongSum_15 ?_
        refine lv_iload_n hx hb dX1_strongSum_18 rfl (lv_at hl 1 rfl) ?_
        refine lv_iload hx hb dX1_strongSum_19 (lv_at hl 4 rfl) ?_
        refine lv_iadd hx hb dX1_strongSum_21 ?_
        refine ds_top (z := nI (p + i)) (nI_add _ _) ?_
        refine ds_iald (k := p + i) hx hb hK hP 1 rfl (by omega) (by omega) dX1_strongSum_22 ?_
        refine lv_i2l (v := (f (p + i)).toInt64) hx hb dX1_strongSum_23 rfl ?_
        refine lv_lxor hx hb dX1_strongSum_24 ?_
        refine lv_ldc2 (v := 1099511628211) hx hb hown (ht _ iw_217) dX1_strongSum_25 ?_
        refine lv_lmul hx hb dX1_strongSum_28 ?_
        refine lv_lstore_n (lv' := [(3, .long (((su_S f p i) ^^^ ((f (p + i)).toInt64)) * 1099511628211)), (0, .ref r), (1, .int (nI p)), (2, .int (nI k)), (5, .int (nI i))]) hx hb dX1_strongSum_29 rfl hl (Nat.le_of_ble_eq_true rfl) rfl (fun ls hl => ?_)
        refine lv_iinc (k := 4) (v := nI (i + 1)) (lv' := [(5, .int (nI (i + 1))), (3, .long (((su_S f p i) ^^^ ((f (p + i)).toInt64)) * 1099511628211)), (0, .ref r), (1, .int (nI p)), (2, .int (nI k))]) hx hb dX1_strongSum_30 hl rfl (by rw [nI_succ]; rfl) (Nat.le_of_ble_eq_true rfl) rfl (fun ls hl => ?_)
        refine lv_goto (tgt := 7) hx hb dX1_strongSum_33 (by decide) ?_
        exact ih3 (i + 1) H locs ls (by omega) (by omega) hP hD hS (lv_sub hl [2, 3, 4, 1, 0] rfl)
  exact loop1 _ 0 H locs ls (Nat.zero_le _) (Nat.lt_succ_self _) hP hD hS (lv_sub hl [2, 3, 4, 1, 0] rfl)
set_option maxHeartbeats 4000000 in
set_option maxRecDepth 100000 in
theorem c_X1_resize (Ll : Launch) (D : va_G) (cI cL : ClassId) (r : Nat) (o : Nat) (n : Nat) (f : Nat → Int32) (k : Nat) (h1 : n ≤ 1200) (h2 : k ≤ 1200) (sz : Nat) : Met Ll yX1_resize wsX1_resize { frames := 0, cells := 0, slots := 0, locals := 0 } (ds_P D cI cL [.ref r, .int (nI k)] [(r, .inr (1, [.ref o, .int (nI n)])), (o, .inl (cI, 1200, .inl f))] sz) (ds_Qv D (fun (u : Unit) => True) (fun u : Unit => [(r, .inr (1, [.ref o, .int (nI k)])), (o, .inl (cI, 1200, .inl (rz f n k)))]) (va_A [(r, .inr (1, [.ref o, .int (nI n)])), (o, .inl (cI, 1200, .inl f))] sz)) 0 0 (va_A [(r, .inr (1, [.ref o, .int (nI n)])), (o, .inl (cI, 1200, .inl f))] sz) := by
  refine ds_enter (Qf := (fun A9 => ds_Qv D (fun (u : Unit) => True) (fun u : Unit => [(r, .inr (1, [.ref o, .int (nI k)])), (o, .inl (cI, 1200, .inl (rz f n k)))]) A9)) (cc := cX1_resize) (maxL := 3) (ret := none) (by decide) rfl (Nat.le_of_ble_eq_true rfl) ?_
  intro Pp Ee Ss Mm Aa Bb Me Cc hx hb hml hr ht hown hlk hnm A H locs hA hP hD hS hK ls hl
  have hl : lv_has ls 3 [(0, .ref r), (1, .int (nI k))] := hl
  change Ss.vm.findClass RX1 = some Mm.cls at hown
  refine lv_aload_n hx hb dX1_resize_0 rfl (lv_at hl 0 rfl) ?_
  refine va_get (D := D) (ci := 1) (v := .int (nI n)) (C := RX1) (T := TX1) (N := 2) hx hb ht inA_X1 hown hK.1 hP 0 rfl rfl 1 (by decide) (ht _ iw_204) (fun _ h9 => h9) rfl dX1_resize_1 ?_
  refine lv_istore_n (lv' := [(2, .int (nI n)), (0, .ref r), (1, .int (nI k))]) hx hb dX1_resize_4 rfl hl (Nat.le_of_ble_eq_true rfl) rfl (fun ls hl => ?_)
  have hP : va_P D vwCl [(r, .inr (1, [.ref o, .int (nI n)])), (o, .inl (cI, 1200, .inl (rz f n n)))] H := by rw [rz_0]; exact hP
  have hD : va_D A [(r, .inr (1, [.ref o, .int (nI n)])), (o, .inl (cI, 1200, .inl (rz f n n)))] := by rw [rz_0]; exact hD
  have loop1 : ∀ (k2 : Nat) (i : Nat) (H : Heap) (locs : List Loc) (ls : Array Slot), (n ≤ i) → (i ≤ n ∨ i ≤ k) → k - i < k2 → va_P D vwCl [(r, .inr (1, [.ref o, .int (nI n)])), (o, .inl (cI, 1200, .inl (rz f n i)))] H → va_D A [(r, .inr (1, [.ref o, .int (nI n)])), (o, .inl (cI, 1200, .inl (rz f n i)))] → va_S A Ss.heap H locs → lv_has ls 3 [(0, .ref r), (1, .int (nI k)), (2, .int (nI i))] → W Pp Ll Ee { frames := 0, cells := 0, slots := 0, locals := 0 } Ss Mm Aa Bb Me Cc H locs 0 0 (MQ Bb (ds_Qv D (fun (u : Unit) => True) (fun u : Unit => [(r, .inr (1, [.ref o, .int (nI k)])), (o, .inl (cI, 1200, .inl (rz f n k)))]) A) Aa Ss 0 0 A) (F0 Mm 5 ls []) := by
    intro k2
    induction k2 with
    | zero => intro i H locs ls hi hm2 hm4; exact absurd hm4 (Nat.not_lt_zero _)
    | succ k2 ih3 =>
      intro i H locs ls hi hm2 hm4 hP hD hS hl
      refine lv_iload_n hx hb dX1_resize_5 rfl (lv_at hl 2 rfl) ?_
      refine lv_iload_n hx hb dX1_resize_6 rfl (lv_at hl 1 rfl) ?_
      refine lv_icmp_ge (tgt := 23) hx hb dX1_resize_7 (by decide) (fun h => ?_) (fun h => ?_)
      ·
        have h : k ≤ i := (nI_leI (a := k) (b := i) (by omega) (by omega)).mp h
        have hP : va_P D vwCl [(r, .inr (1, [.ref o, .int (nI n)])), (o, .inl (cI, 1200, .inl (rz f n k)))] H := by rw [rz_e hi h hm2]; exact hP
        have hD : va_D A [(r, .inr (1, [.ref o, .int (nI n)])), (o, .inl (cI, 1200, .inl (rz f n k)))] := by rw [rz_e hi h hm2]; exact hD
        refine lv_aload_n hx hb dX1_resize_23 rfl (lv_at hl 0 rfl) ?_
        refine lv_iload_n hx hb dX1_resize_24 rfl (lv_at hl 1 rfl) ?_
        refine va_put (D := D) (ci := 1) (v := .int (nI k)) (ty := .int) (C := RX1) (T := TX1) (N := 2) hx hb ht inA_X1 tyX1 tyX1_ok nmX1 hown hK.1 hP hD hS 0 rfl rfl 1 (by decide) (ht _ iw_204) (fun _ h9 => h9) rfl (by decide +kernel) rfl rfl (Nat.le_of_ble_eq_true rfl) dX1_resize_25 (fun H locs hP hD hS => ?_)
        have hP : va_P D vwCl [(r, .inr (1, [.ref o, .int (nI k)])), (o, .inl (cI, 1200, .inl (rz f n k)))] H := hP
        have hD : va_D A [(r, .inr (1, [.ref o, .int (nI k)])), (o, .inl (cI, 1200, .inl (rz f n k)))] := hD
        exact ds_vret hx hb hr hlk () trivial hP hD hS (Nat.le_of_ble_eq_true rfl) (Nat.le_of_ble_eq_true rfl) dX1_resize_28
      ·
        have h : ¬ k ≤ i := fun z9 => h ((nI_leI (a := k) (b := i) (by omega) (by omega)).mpr z9)
        refine lv_aload_n hx hb dX1_resize_10 rfl (lv_at hl 0 rfl) ?_
        refine va_get (D := D) (ci := 1) (v := .ref o) (C := RX1) (T := TX1) (N := 2) hx hb ht inA_X1 hown hK.1 hP 0 rfl rfl 0 (by decide) (ht _ iw_203) (fun _ h9 => h9) rfl dX1_resize_11 ?_
        refine lv_iload_n hx hb dX1_resize_14 rfl (lv_at hl 2 rfl) ?_
        refine lv_iconst (v := nI 0) hx hb dX1_resize_15 (by decide +kernel) ?_
        refine ds_iast (k := i) hx hb hK hP hD hS 1 rfl (by omega) (by omega) dX1_resize_16 (fun H locs hP hD hS => ?_)
        have hP : va_P D vwCl [(r, .inr (1, [.ref o, .int (nI n)])), (o, .inl (cI, 1200, .inl (upd (rz f n i) i (nI 0))))] H := hP
        have hD : va_D A [(r, .inr (1, [.ref o, .int (nI n)])), (o, .inl (cI, 1200, .inl (upd (rz f n i) i (nI 0))))] := hD
        refine lv_iinc (k := 2) (v := nI (i + 1)) (lv' := [(2, .int (nI (i + 1))), (0, .ref r), (1, .int (nI k))]) hx hb dX1_resize_17 hl rfl (by rw [nI_succ]; rfl) (Nat.le_of_ble_eq_true rfl) rfl (fun ls hl => ?_)
        refine lv_goto (tgt := 5) hx hb dX1_resize_20 (by decide) ?_
        have hP : va_P D vwCl [(r, .inr (1, [.ref o, .int (nI n)])), (o, .inl (cI, 1200, .inl (rz f n (i + 1))))] H := by rw [rz_s hi]; exact hP
        have hD : va_D A [(r, .inr (1, [.ref o, .int (nI n)])), (o, .inl (cI, 1200, .inl (rz f n (i + 1))))] := by rw [rz_s hi]; exact hD
        exact ih3 (i + 1) H locs ls (by omega) (by omega) (by omega) hP hD hS (lv_sub hl [1, 2, 0] rfl)
  exact loop1 _ n H locs ls (Nat.le_refl _) (Or.inl (Nat.le_refl _)) (Nat.lt_succ_self _) hP hD hS (lv_sub hl [1, 2, 0] rfl)
end
section
set_option maxHeartbeats 4000000 in
set_option maxRecDepth 100000 in
theorem c_X1_write (Ll : Launch) (D : va_G) (cI cL : ClassId) (r : Nat) (o : Nat) (n : Nat) (f : Nat → Int32) (q : Nat) (v : Int64) (h1 : n ≤ 1200) (h2 : q ≤ 1200) (sz : Nat) : Met Ll yX1_write wsX1_write { frames := 0, cells := 0, slots := 0, locals := 0 } (ds_P D cI cL [.ref r, .int (nI q), .long v] [(r, .inr (1, [.ref o, .int (nI n)])), (o, .inl (cI, 1200, .inl f))] sz) (ds_Qv D (fun (u : Unit) => True) (fun u : Unit => [(r, .inr (1, [.ref o, .int (nI n)])), (o, .inl (cI, 1200, .inl (wr f q v (min 8 (n - q)))))]) (va_A [(r, .inr (1, [.ref o, .int (nI n)])), (o, .inl (cI, 1200, .inl f))] sz)) 0 0 (va_A [(r, .inr (1, [.ref o, .int (nI n)])), (o, .inl (cI, 1200, .inl f))] sz) := by
  refine ds_enter (Qf := (fun A9 => ds_Qv D (fun (u : Unit) => True) (fun u : Unit => [(r, .inr (1, [.ref o, .int (nI n)])), (o, .inl (cI, 1200, .inl (wr f q v (min 8 (n - q)))))]) A9)) (cc := cX1_write) (maxL := 5) (ret := none) (by decide) rfl (Nat.le_of_ble_eq_true rfl) ?_
  intro Pp Ee Ss Mm Aa Bb Me Cc hx hb hml hr ht hown hlk hnm A H locs hA hP hD hS hK ls hl
  have hl : lv_has ls 5 [(0, .ref r), (1, .int (nI q)), (2, .long v)] := hl
  change Ss.vm.findClass RX1 = some Mm.cls at hown
  refine lv_iconst (v := nI 0) hx hb dX1_write_0 (by decide +kernel) ?_
  refine lv_istore (lv' := [(4, .int (nI 0)), (0, .ref r), (1, .int (nI q)), (2, .long v)]) hx hb dX1_write_1 hl (Nat.le_of_ble_eq_true rfl) rfl (fun ls hl => ?_)
  have hP : va_P D vwCl [(r, .inr (1, [.ref o, .int (nI n)])), (o, .inl (cI, 1200, .inl (wr f q v 0)))] H := by rw [wr_0]; exact hP
  have hD : va_D A [(r, .inr (1, [.ref o, .int (nI n)])), (o, .inl (cI, 1200, .inl (wr f q v 0)))] := by rw [wr_0]; exact hD
  have loop1 : ∀ (k2 : Nat) (i : Nat) (H : Heap) (locs : List Loc) (ls : Array Slot), (i ≤ 8) → (i = 0 ∨ q + i ≤ n) → 8 - i < k2 → va_P D vwCl [(r, .inr (1, [.ref o, .int (nI n)])), (o, .inl (cI, 1200, .inl (wr f q v i)))] H → va_D A [(r, .inr (1, [.ref o, .int (nI n)])), (o, .inl (cI, 1200, .inl (wr f q v i)))] → va_S A Ss.heap H locs → lv_has ls 5 [(0, .ref r), (1, .int (nI q)), (2, .long v), (4, .int (nI i))] → W Pp Ll Ee { frames := 0, cells := 0, slots := 0, locals := 0 } Ss Mm Aa Bb Me Cc H locs 0 0 (MQ Bb (ds_Qv D (fun (u : Unit) => True) (fun u : Unit => [(r, .inr (1, [.ref o, .int (nI n)])), (o, .inl (cI, 1200, .inl (wr f q v (min 8 (n - q)))))]) A) Aa Ss 0 0 A) (F0 Mm 3 ls []) := by
    intro k2
    induction k2 with
    | zero => intro i H locs ls hi hi2 hm4; exact absurd hm4 (Nat.not_lt_zero _)
    | succ k2 ih3 =>
      intro i H locs ls hi hi2 hm4 hP hD hS hl
      refine lv_iload hx hb dX1_write_3 (lv_at hl 3 rfl) ?_
      refine lv_bipush (v := nI 8) hx hb dX1_write_5 (by decide +kernel) ?_
      refine lv_icmp_ge (tgt := 51) hx hb dX1_write_7 (by decide) (fun h => ?_) (fun h => ?_)
      ·
        have h : 8 ≤ i := (nI_leI (a := 8) (b := i) (by omega) (by omega)).mp h
        have hP : va_P D vwCl [(r, .inr (1, [.ref o, .int (nI n)])), (o, .inl (cI, 1200, .inl (wr f q v (min 8 (n - q)))))] H := by rw [show min 8 (n - q) = i by omega]; exact hP
        have hD : va_D A [(r, .inr (1, [.ref o, .int (nI n)])), (o, .inl (cI, 1200, .inl (wr f q v (min 8 (n - q)))))] := by rw [show min 8 (n - q) = i by omega]; exact hD
        exact ds_vret hx hb hr hlk () trivial hP hD hS (Nat.le_of_ble_eq_true rfl) (Nat.le_of_ble_eq_true rfl) dX1_write_51
      ·
        have h : ¬ 8 ≤ i := fun z9 => h ((nI_leI (a := 8) (b := i) (by omega) (by omega)).mpr z9)
        refine lv_iload_n hx hb dX1_write_10 rfl (lv_at hl 1 rfl) ?_
        refine lv_iload hx hb dX1_write_11 (lv_at hl 3 rfl) ?_
        refine lv_iadd hx hb dX1_write_13 ?_
        refine ds_top (z := nI (q + i)) (nI_add _ _) ?_
        refine lv_aload_n hx hb dX1_write_14 rfl (lv_at hl 0 rfl) ?_
        refine va_get (D := D) (ci := 1) (v := .int (nI n)) (C := RX1) (T := TX1) (N := 2) hx hb ht inA_X1 hown hK.1 hP 0 rfl rfl 1 (by decide) (ht _ iw_204) (fun _ h9 => h9) rfl dX1_write_15 ?_
        refine lv_icmp_ge (tgt := 51) hx hb dX1_write_18 (by decide) (fun h0 => ?_) (fun h0 => ?_)
        ·
          have h0 : n ≤ (q + i) := (nI_leI (a := n) (b := (q + i)) (by omega) (by omega)).mp h0
          have hP : va_P D vwCl [(r, .inr (1, [.ref o, .int (nI n)])), (o, .inl (cI, 1200, .inl (wr f q v (min 8 (n - q)))))] H := by rw [show min 8 (n - q) = i by omega]; exact hP
          have hD : va_D A [(r, .inr (1, [.ref o, .int (nI n)])), (o, .inl (cI, 1200, .inl (wr f q v (min 8 (n - q)))))] := by rw [show min 8 (n - q) = i by omega]; exact hD
          exact ds_vret hx hb hr hlk () trivial hP hD hS (Nat.le_of_ble_eq_true rfl) (Nat.le_of_ble_eq_true rfl) dX1_write_51
        ·
          have h0 : ¬ n ≤ (q + i) := fun z9 => h0 ((nI_leI (a := n) (b := (q + i)) (by omega) (by omega)).mpr z9)
          refine lv_aload_n hx hb dX1_write_21 rfl (lv_at hl 0 rfl) ?_
          refine va_get (D := D) (ci := 1) (v := .ref o) (C := RX1) (T := TX1) (N := 2) hx hb ht inA_X1 hown hK.1 hP 0 rfl rfl 0 (by decide) (ht _ iw_203) (fun _ h9 => h9) rfl dX1_write_22 ?_
          refine lv_iload_n hx hb dX1_write_25 rfl (lv_at hl 1 rfl) ?_
          refine lv_iload hx hb dX1_write_26 (lv_at hl 3 rfl) ?_
          refine lv_iadd hx hb dX1_write_28 ?_
          refine ds_top (z := nI (q + i)) (nI_add _ _) ?_
          refine lv_lload_n hx hb dX1_write_29 rfl (lv_at hl 2 rfl) ?_
          refine lv_bipush (v := nI 56) hx hb dX1_write_30 (by decide +kernel) ?_
          refine lv_bipush (v := nI 8) hx hb dX1_write_32 (by decide +kernel) ?_
          refine lv_iload hx hb dX1_write_34 (lv_at hl 3 rfl) ?_
          refine lv_imul hx hb dX1_write_36 ?_
          refine ds_top (z := nI (8 * i)) (pk_mul _ _) ?_
          refine lv_isub hx hb dX1_write_37 ?_
          refine ds_top (z := nI (56 - 8 * i)) (pk_sub (by omega)) ?_
          refine lv_lushr (v := (v.toUInt64 >>> ((nI (56 - 8 * i)).toInt64.toUInt64 &&& Int64.toUInt64 63)).toInt64) hx hb dX1_write_38 rfl ?_
          refine lv_l2i (v := ((v.toUInt64 >>> ((nI (56 - 8 * i)).toInt64.toUInt64 &&& Int64.toUInt64 63)).toInt64).toInt32) hx hb dX1_write_39 rfl ?_
          refine lv_sipush (v := nI 255) hx hb dX1_write_40 (by decide +kernel) ?_
          refine lv_iand hx hb dX1_write_43 ?_
          refine ds_iast (k := q + i) hx hb hK hP hD hS 1 rfl (by omega) (by omega) dX1_write_44 (fun H locs hP hD hS => ?_)
          have hP : va_P D vwCl [(r, .inr (1, [.ref o, .int (nI n)])), (o, .inl (cI, 1200, .inl (upd (wr f q v i) (q + i) ((((v.toUInt64 >>> ((nI (56 - 8 * i)).toInt64.toUInt64 &&& Int64.toUInt64 63)).toInt64).toInt32) &&& (nI 255)))))] H := hP
          have hD : va_D A [(r, .inr (1, [.ref o, .int (nI n)])), (o, .inl (cI, 1200, .inl (upd (wr f q v i) (q + i) ((((v.toUInt64 >>> ((nI (56 - 8 * i)).toInt64.toUInt64 &&& Int64.toUInt64 63)).toInt64).toInt32) &&& (nI 255)))))] := hD
          refine lv_iinc (k := 3) (v := nI (i + 1)) (lv' := [(4, .int (nI (i + 1))), (0, .ref r), (1, .int (nI q)), (2, .long v)]) hx hb dX1_write_45 hl rfl (by rw [nI_succ]; rfl) (Nat.le_of_ble_eq_true rfl) rfl (fun ls hl => ?_)
          refine lv_goto (tgt := 3) hx hb dX1_write_48 (by decide) ?_
          have hP : va_P D vwCl [(r, .inr (1, [.ref o, .int (nI n)])), (o, .inl (cI, 1200, .inl (wr f q v (i + 1))))] H := by rw [wr_s]; exact hP
          have hD : va_D A [(r, .inr (1, [.ref o, .int (nI n)])), (o, .inl (cI, 1200, .inl (wr f q v (i + 1))))] := by rw [wr_s]; exact hD
          exact ih3 (i + 1) H locs ls (by omega) (by omega) (by omega) hP hD hS (lv_sub hl [1, 2, 3, 0] rfl)
  exact loop1 _ 0 H locs ls (by omega) (Or.inl rfl) (Nat.lt_succ_self _) hP hD hS (lv_sub hl [1, 2, 3, 0] rfl)
end
section
set_option maxHeartbeats 4000000 in
set_option maxRecDepth 100000 in
theorem c_X1_append (Ll : Launch) (D : va_G) (cI cL : ClassId) (r : Nat) (o : Nat) (n : Nat) (f : Nat → Int32) (r2 : Nat) (o2 : Nat) (n2 : Nat) (g : Nat → Int32) (p : Nat) (k : Nat) (h1 : p + k ≤ 1200) (h2 : n + k ≤ 1200) (sz : Nat) : Met Ll yX1_append wsX1_append { frames := 1, cells := 0, slots := 0, locals := 26 } (ds_P D cI cL [.ref r, .ref r2, .int (nI p), .int (nI k)] [(r, .inr (1, [.ref o, .int (nI n)])), (o, .inl (cI, 1200, .inl f)), (r2, .inr (1, [.ref o2, .int (nI n2)])), (o2, .inl (cI, 1200, .inl g))] sz) (ds_Qv D (fun (u : Unit) => True) (fun u : Unit => [(r, .inr (1, [.ref o, .int (nI (n + k))])), (o, .inl (cI, 1200, .inl (va_cpy g f p n k))), (r2, .inr (1, [.ref o2, .int (nI n2)])), (o2, .inl (cI, 1200, .inl g))]) (va_A [(r, .inr (1, [.ref o, .int (nI n)])), (o, .inl (cI, 1200, .inl f)), (r2, .inr (1, [.ref o2, .int (nI n2)])), (o2, .inl (cI, 1200, .inl g))] sz)) 0 0 (va_A [(r, .inr (1, [.ref o, .int (nI n)])), (o, .inl (cI, 1200, .inl f)), (r2, .inr (1, [.ref o2, .int (nI n2)])), (o2, .inl (cI, 1200, .inl g))] sz) := by
  refine ds_enter (Qf := (fun A9 => ds_Qv D (fun (u : Unit) => True) (fun u : Unit => [(r, .inr (1, [.ref o, .int (nI (n + k))])), (o, .inl (cI, 1200, .inl (va_cpy g f p n k))), (r2, .inr (1, [.ref o2, .int (nI n2)])), (o2, .inl (cI, 1200, .inl g))]) A9)) (cc := cX1_append) (maxL := 4) (ret := none) (by decide) rfl (Nat.le_of_ble_eq_true rfl) ?_
  intro Pp Ee Ss Mm Aa Bb Me Cc hx hb hml hr ht hown hlk hnm A H locs hA hP hD hS hK ls hl
  have hl : lv_has ls 4 [(0, .ref r), (1, .ref r2), (2, .int (nI p)), (3, .int (nI k))] := hl
  change Ss.vm.findClass RX1 = some Mm.cls at hown
  refine lv_aload_n hx hb dX1_append_0 rfl (lv_at hl 1 rfl) ?_
  refine va_get (D := D) (ci := 1) (v := .ref o2) (C := RX1) (T := TX1) (N := 2) hx hb ht inA_X1 hown hK.1 hP 2 rfl rfl 0 (by decide) (ht _ iw_203) (fun _ h9 => h9) rfl dX1_append_1 ?_
  refine lv_iload_n hx hb dX1_append_4 rfl (lv_at hl 2 rfl) ?_
  refine lv_aload_n hx hb dX1_append_5 rfl (lv_at hl 0 rfl) ?_
  refine va_get (D := D) (ci := 1) (v := .ref o) (C := RX1) (T := TX1) (N := 2) hx hb ht inA_X1 hown hK.1 hP 0 rfl rfl 0 (by decide) (ht _ iw_203) (fun _ h9 => h9) rfl dX1_append_6 ?_
  refine lv_aload_n hx hb dX1_append_9 rfl (lv_at hl 0 rfl) ?_
  refine va_get (D := D) (ci := 1) (v := .int (nI n)) (C := RX1) (T := TX1) (N := 2) hx hb ht inA_X1 hown hK.1 hP 0 rfl rfl 1 (by decide) (ht _ iw_204) (fun _ h9 => h9) rfl dX1_append_10 ?_
  refine lv_iload_n hx hb dX1_append_13 rfl (lv_at hl 3 rfl) ?_
  refine ds_copyi (sp := p) (dp := n) (n := k) hx hb (by rw [hml]; exact hl.1.symm) hown (ht _ iw_208) (ht _ iw_48) (ht _ iw_49) (ht _ iw_50) hK hP hD hS 3 1 rfl rfl (by omega) (by omega) (by omega) (Nat.le_of_ble_eq_true rfl) (Nat.le_of_ble_eq_true rfl) dX1_append_14 (fun H locs hP hD hS => ?_)
  have hP : va_P D vwCl [(r, .inr (1, [.ref o, .int (nI n)])), (o, .inl (cI, 1200, .inl (va_cpy g f p n k))), (r2, .inr (1, [.ref o2, .int (nI n2)])), (o2, .inl (cI, 1200, .inl g))] H := hP
  have hD : va_D A [(r, .inr (1, [.ref o, .int (nI n)])), (o, .inl (cI, 1200, .inl (va_cpy g f p n k))), (r2, .inr (1, [.ref o2, .int (nI n2)])), (o2, .inl (cI, 1200, .inl g))] := hD
  refine lv_aload_n hx hb dX1_append_17 rfl (lv_at hl 0 rfl) ?_
  refine lv_dup hx hb dX1_append_18 rfl ?_
  refine va_get (D := D) (ci := 1) (v := .int (nI n)) (C := RX1) (T := TX1) (N := 2) hx hb ht inA_X1 hown hK.1 hP 0 rfl rfl 1 (by decide) (ht _ iw_204) (fun _ h9 => h9) rfl dX1_append_19 ?_
  refine lv_iload_n hx hb dX1_append_22 rfl (lv_at hl 3 rfl) ?_
  refine lv_iadd hx hb dX1_append_23 ?_
  refine ds_top (z := nI (n + k)) (nI_add _ _) ?_
  refine va_put (D := D) (ci := 1) (v := .int (nI (n + k))) (ty := .int) (C := RX1) (T := TX1) (N := 2) hx hb ht inA_X1 tyX1 tyX1_ok nmX1 hown hK.1 hP hD hS 0 rfl rfl 1 (by decide) (ht _ iw_204) (fun _ h9 => h9) rfl (by decide +kernel) rfl rfl (Nat.le_of_ble_eq_true rfl) dX1_append_24 (fun H locs hP hD hS => ?_)
  have hP : va_P D vwCl [(r, .inr (1, [.ref o, .int (nI (n + k))])), (o, .inl (cI, 1200, .inl (va_cpy g f p n k))), (r2, .inr (1, [.ref o2, .int (nI n2)])), (o2, .inl (cI, 1200, .inl g))] H := hP
  have hD : va_D A [(r, .inr (1, [.ref o, .int (nI (n + k))])), (o, .inl (cI, 1200, .inl (va_cpy g f p n k))), (r2, .inr (1, [.ref o2, .int (nI n2)])), (o2, .inl (cI, 1200, .inl g))] := hD
  exact ds_vret hx hb hr hlk () trivial hP hD hS (Nat.le_of_ble_eq_true rfl) (Nat.le_of_ble_eq_true rfl) dX1_append_27
set_option maxHeartbeats 4000000 in
set_option maxRecDepth 100000 in
theorem c_X1_init (Ll : Launch) (D : va_G) (cI cL : ClassId) (r : Nat) (sz : Nat) : Met Ll yX1_init wsX1_init { frames := 1, cells := 1, slots := 1200, locals := 20 } (ds_P D cI cL [.ref r] [(r, .inr (1, [.null, .int 0]))] sz) (ds_Qv D (fun (u : Nat) => True) (fun u : Nat => [(r, .inr (1, [.ref u, .int (nI 0)])), (u, .inl (cI, 1200, .inl (fun _ => 0)))]) (va_A [(r, .inr (1, [.null, .int 0]))] sz)) 1 1200 (va_A [(r, .inr (1, [.null, .int 0]))] sz) := by
  refine ds_enter (Qf := (fun A9 => ds_Qv D (fun (u : Nat) => True) (fun u : Nat => [(r, .inr (1, [.ref u, .int (nI 0)])), (u, .inl (cI, 1200, .inl (fun _ => 0)))]) A9)) (cc := cX1_init) (maxL := 1) (ret := none) (by decide) rfl (Nat.le_of_ble_eq_true rfl) ?_
  intro Pp Ee Ss Mm Aa Bb Me Cc hx hb hml hr ht hown hlk hnm A H locs hA hP hD hS hK ls hl
  have hl : lv_has ls 1 [(0, .ref r)] := hl
  change Ss.vm.findClass RX1 = some Mm.cls at hown
  refine lv_aload_n hx hb dX1_init_0 rfl (lv_at hl 0 rfl) ?_
  refine W.objInit hx hb hown (ht _ iw_202) (ht _ iw_2) (ht _ iw_3) rfl (by rw [hml]; exact hl.1) rfl dX1_init_1 (Nat.le_of_ble_eq_true rfl) (Nat.le_of_ble_eq_true rfl) ?_
  refine W.eq (g2 := F0 Mm 4 ls []) rfl ?_
  refine lv_aload_n hx hb dX1_init_4 rfl (lv_at hl 0 rfl) ?_
  refine lv_sipush (v := nI 1200) hx hb dX1_init_5 (by decide +kernel) ?_
  refine va_newa (atype := .int) (a0 := (1200, .inl (fun _ => 0))) (N' := 1200) hx hb (ht _ iw_121) rfl hK.1 hP hD hS hA (fun _ => rfl) (by decide) (by decide) (by decide) (Nat.le_of_ble_eq_true rfl) (Nat.le_of_ble_eq_true rfl) dX1_init_8 (fun q1 cA9 H hK9 hP hD hS => ?_)
  have e9 := Eq.symm (ds_cI hK9)
  subst e9
  have hP : va_P D vwCl [(r, .inr (1, [.null, .int 0])), (q1, .inl (cI, 1200, .inl (fun _ => 0)))] H := hP
  have hD : va_D A [(r, .inr (1, [.null, .int 0])), (q1, .inl (cI, 1200, .inl (fun _ => 0)))] := hD
  refine va_putF (D := D) (ci := 1) (v := .ref q1) (ty := (.array .int)) (C := RX1) (T := TX1) (N := 2) hx hb ht inA_X1 tyX1 tyX1_ok nmX1 hown hK.1 hP hD hS 0 rfl rfl 0 (by decide) (ht _ iw_203) (fun _ h9 => h9) rfl hnm rfl (by decide +kernel) rfl rfl (Nat.le_of_ble_eq_true rfl) dX1_init_10 (fun H locs hP hD hS => ?_)
  have hP : va_P D vwCl [(r, .inr (1, [.ref q1, .int 0])), (q1, .inl (cI, 1200, .inl (fun _ => 0)))] H := hP
  have hD : va_D A [(r, .inr (1, [.ref q1, .int 0])), (q1, .inl (cI, 1200, .inl (fun _ => 0)))] := hD
  refine lv_aload_n hx hb dX1_init_13 rfl (lv_at hl 0 rfl) ?_
  refine lv_iconst (v := nI 0) hx hb dX1_init_14 (by decide +kernel) ?_
  refine va_put (D := D) (ci := 1) (v := .int (nI 0)) (ty := .int) (C := RX1) (T := TX1) (N := 2) hx hb ht inA_X1 tyX1 tyX1_ok nmX1 hown hK.1 hP hD hS 0 rfl rfl 1 (by decide) (ht _ iw_204) (fun _ h9 => h9) rfl (by decide +kernel) rfl rfl (Nat.le_of_ble_eq_true rfl) dX1_init_15 (fun H locs hP hD hS => ?_)
  have hP : va_P D vwCl [(r, .inr (1, [.ref q1, .int (nI 0)])), (q1, .inl (cI, 1200, .inl (fun _ => 0)))] H := hP
  have hD : va_D A [(r, .inr (1, [.ref q1, .int (nI 0)])), (q1, .inl (cI, 1200, .inl (fun _ => 0)))] := hD
  exact ds_vret hx hb hr hlk q1 trivial hP hD hS (Nat.le_of_ble_eq_true rfl) (Nat.le_of_ble_eq_true rfl) dX1_init_18
end
section
set_option maxHeartbeats 4000000 in
set_option maxRecDepth 100000 in
theorem c_X2_init (Ll : Launch) (D : va_G) (cI cL : ClassId) (t : Nat) (sz : Nat) : Met Ll yX2_init wsX2_init { frames := 1, cells := 3, slots := 3600, locals := 20 } (ds_P D cI cL [.ref t] [(t, .inr (2, [.null, .null, .null, .int 0]))] sz) (ds_Qv D (fun (u : Nat × Nat × Nat) => True) (fun u : Nat × Nat × Nat => [(t, .inr (2, [.ref u.1, .ref u.2.1, .ref u.2.2, .int (nI 0)])), (u.1, .inl (cI, 1200, .inl (fun _ => 0))), (u.2.1, .inl (cI, 1200, .inl (fun _ => 0))), (u.2.2, .inl (cI, 1200, .inl (fun _ => 0)))]) (va_A [(t, .inr (2, [.null, .null, .null, .int 0]))] sz)) 3 3600 (va_A [(t, .inr (2, [.null, .null, .null, .int 0]))] sz) := by
  refine ds_enter (Qf := (fun A9 => ds_Qv D (fun (u : Nat × Nat × Nat) => True) (fun u : Nat × Nat × Nat => [(t, .inr (2, [.ref u.1, .ref u.2.1, .ref u.2.2, .int (nI 0)])), (u.1, .inl (cI, 1200, .inl (fun _ => 0))), (u.2.1, .inl (cI, 1200, .inl (fun _ => 0))), (u.2.2, .inl (cI, 1200, .inl (fun _ => 0)))]) A9)) (cc := cX2_init) (maxL := 1) (ret := none) (by decide) rfl (Nat.le_of_ble_eq_true rfl) ?_
  intro Pp Ee Ss Mm Aa Bb Me Cc hx hb hml hr ht hown hlk hnm A H locs hA hP hD hS hK ls hl
  have hl : lv_has ls 1 [(0, .ref t)] := hl
  change Ss.vm.findClass RX2 = some Mm.cls at hown
  refine lv_aload_n hx hb dX2_init_0 rfl (lv_at hl 0 rfl) ?_
  refine W.objInit hx hb hown (ht _ iw_219) (ht _ iw_2) (ht _ iw_3) rfl (by rw [hml]; exact hl.1) rfl dX2_init_1 (Nat.le_of_ble_eq_true rfl) (Nat.le_of_ble_eq_true rfl) ?_
  refine W.eq (g2 := F0 Mm 4 ls []) rfl ?_
  refine lv_aload_n hx hb dX2_init_4 rfl (lv_at hl 0 rfl) ?_
  refine lv_sipush (v := nI 1200) hx hb dX2_init_5 (by decide +kernel) ?_
  refine va_newa (atype := .int) (a0 := (1200, .inl (fun _ => 0))) (N' := 1200) hx hb (ht _ iw_121) rfl hK.1 hP hD hS hA (fun _ => rfl) (by decide) (by decide) (by decide) (Nat.le_of_ble_eq_true rfl) (Nat.le_of_ble_eq_true rfl) dX2_init_8 (fun q1 cA9 H hK9 hP hD hS => ?_)
  have e9 := Eq.symm (ds_cI hK9)
  subst e9
  have hP : va_P D vwCl [(t, .inr (2, [.null, .null, .null, .int 0])), (q1, .inl (cI, 1200, .inl (fun _ => 0)))] H := hP
  have hD : va_D A [(t, .inr (2, [.null, .null, .null, .int 0])), (q1, .inl (cI, 1200, .inl (fun _ => 0)))] := hD
  refine va_putF (D := D) (ci := 2) (v := .ref q1) (ty := (.array .int)) (C := RX2) (T := TX2) (N := 4) hx hb ht inA_X2 tyX2 tyX2_ok nmX2 hown hK.1 hP hD hS 0 rfl rfl 0 (by decide) (ht _ iw_220) (fun _ h9 => h9) rfl hnm rfl (by decide +kernel) rfl rfl (Nat.le_of_ble_eq_true rfl) dX2_init_10 (fun H locs hP hD hS => ?_)
  have hP : va_P D vwCl [(t, .inr (2, [.ref q1, .null, .null, .int 0])), (q1, .inl (cI, 1200, .inl (fun _ => 0)))] H := hP
  have hD : va_D A [(t, .inr (2, [.ref q1, .null, .null, .int 0])), (q1, .inl (cI, 1200, .inl (fun _ => 0)))] := hD
  refine lv_aload_n hx hb dX2_init_13 rfl (lv_at hl 0 rfl) ?_
  refine lv_sipush (v := nI 1200) hx hb dX2_init_14 (by decide +kernel) ?_
  refine va_newa (atype := .int) (a0 := (1200, .inl (fun _ => 0))) (N' := 1200) hx hb (ht _ iw_121) rfl hK.1 hP hD hS hA (fun _ => rfl) (by decide) (by decide) (by decide) (Nat.le_of_ble_eq_true rfl) (Nat.le_of_ble_eq_true rfl) dX2_init_17 (fun q2 cA9 H hK9 hP hD hS => ?_)
  have e9 := Eq.symm (ds_cI hK9)
  subst e9
  have hP : va_P D vwCl [(t, .inr (2, [.ref q1, .null, .null, .int 0])), (q1, .inl (cI, 1200, .inl (fun _ => 0))), (q2, .inl (cI, 1200, .inl (fun _ => 0)))] H := hP
  have hD : va_D A [(t, .inr (2, [.ref q1, .null, .null, .int 0])), (q1, .inl (cI, 1200, .inl (fun _ => 0))), (q2, .inl (cI, 1200, .inl (fun _ => 0)))] := hD
  refine va_putF (D := D) (ci := 2) (v := .ref q2) (ty := (.array .int)) (C := RX2) (T := TX2) (N := 4) hx hb ht inA_X2 tyX2 tyX2_ok nmX2 hown hK.1 hP hD hS 0 rfl rfl 1 (by decide) (ht _ iw_221) (fun _ h9 => h9) rfl hnm rfl (by decide +kernel) rfl rfl (Nat.le_of_ble_eq_true rfl) dX2_init_19 (fun H locs hP hD hS => ?_)
  have hP : va_P D vwCl [(t, .inr (2, [.ref q1, .ref q2, .null, .int 0])), (q1, .inl (cI, 1200, .inl (fun _ => 0))), (q2, .inl (cI, 1200, .inl (fun _ => 0)))] H := hP
  have hD : va_D A [(t, .inr (2, [.ref q1, .ref q2, .null, .int 0])), (q1, .inl (cI, 1200, .inl (fun _ => 0))), (q2, .inl (cI, 1200, .inl (fun _ => 0)))] := hD
  refine lv_aload_n hx hb dX2_init_22 rfl (lv_at hl 0 rfl) ?_
  refine lv_sipush (v := nI 1200) hx hb dX2_init_23 (by decide +kernel) ?_
  refine va_newa (atype := .int) (a0 := (1200, .inl (fun _ => 0))) (N' := 1200) hx hb (ht _ iw_121) rfl hK.1 hP hD hS hA (fun _ => rfl) (by decide) (by decide) (by decide) (Nat.le_of_ble_eq_true rfl) (Nat.le_of_ble_eq_true rfl) dX2_init_26 (fun q3 cA9 H hK9 hP hD hS => ?_)
  have e9 := Eq.symm (ds_cI hK9)
  subst e9
  have hP : va_P D vwCl [(t, .inr (2, [.ref q1, .ref q2, .null, .int 0])), (q1, .inl (cI, 1200, .inl (fun _ => 0))), (q2, .inl (cI, 1200, .inl (fun _ => 0))), (q3, .inl (cI, 1200, .inl (fun _ => 0)))] H := hP
  have hD : va_D A [(t, .inr (2, [.ref q1, .ref q2, .null, .int 0])), (q1, .inl (cI, 1200, .inl (fun _ => 0))), (q2, .inl (cI, 1200, .inl (fun _ => 0))), (q3, .inl (cI, 1200, .inl (fun _ => 0)))] := hD
  refine va_putF (D := D) (ci := 2) (v := .ref q3) (ty := (.array .int)) (C := RX2) (T := TX2) (N := 4) hx hb ht inA_X2 tyX2 tyX2_ok nmX2 hown hK.1 hP hD hS 0 rfl rfl 2 (by decide) (ht _ iw_222) (fun _ h9 => h9) rfl hnm rfl (by decide +kernel) rfl rfl (Nat.le_of_ble_eq_true rfl) dX2_init_28 (fun H locs hP hD hS => ?_)
  have hP : va_P D vwCl [(t, .inr (2, [.ref q1, .ref q2, .ref q3, .int 0])), (q1, .inl (cI, 1200, .inl (fun _ => 0))), (q2, .inl (cI, 1200, .inl (fun _ => 0))), (q3, .inl (cI, 1200, .inl (fun _ => 0)))] H := hP
  have hD : va_D A [(t, .inr (2, [.ref q1, .ref q2, .ref q3, .int 0])), (q1, .inl (cI, 1200, .inl (fun _ => 0))), (q2, .inl (cI, 1200, .inl (fun _ => 0))), (q3, .inl (cI, 1200, .inl (fun _ => 0)))] := hD
  refine lv_aload_n hx hb dX2_init_31 rfl (lv_at hl 0 rfl) ?_
  refine lv_iconst (v := nI 0) hx hb dX2_init_32 (by decide +kernel) ?_
  refine va_put (D := D) (ci := 2) (v := .int (nI 0)) (ty := .int) (C := RX2) (T := TX2) (N := 4) hx hb ht inA_X2 tyX2 tyX2_ok nmX2 hown hK.1 hP hD hS 0 rfl rfl 3 (by decide) (ht _ iw_223) (fun _ h9 => h9) rfl (by decide +kernel) rfl rfl (Nat.le_of_ble_eq_true rfl) dX2_init_33 (fun H locs hP hD hS => ?_)
  have hP : va_P D vwCl [(t, .inr (2, [.ref q1, .ref q2, .ref q3, .int (nI 0)])), (q1, .inl (cI, 1200, .inl (fun _ => 0))), (q2, .inl (cI, 1200, .inl (fun _ => 0))), (q3, .inl (cI, 1200, .inl (fun _ => 0)))] H := hP
  have hD : va_D A [(t, .inr (2, [.ref q1, .ref q2, .ref q3, .int (nI 0)])), (q1, .inl (cI, 1200, .inl (fun _ => 0))), (q2, .inl (cI, 1200, .inl (fun _ => 0))), (q3, .inl (cI, 1200, .inl (fun _ => 0)))] := hD
  exact ds_vret hx hb hr hlk (q1, q2, q3) trivial hP hD hS (Nat.le_of_ble_eq_true rfl) (Nat.le_of_ble_eq_true rfl) dX2_init_36
set_option maxHeartbeats 4000000 in
set_option maxRecDepth 100000 in
theorem c_X2_clear (Ll : Launch) (D : va_G) (cI cL : ClassId) (t : Nat) (k : Nat) (f : Nat) (l : Nat) (c : Nat) (fk : Nat → Int32) (ff : Nat → Int32) (fl : Nat → Int32) (sz : Nat) : Met Ll yX2_clear wsX2_clear { frames := 0, cells := 0, slots := 0, locals := 0 } (ds_P D cI cL [.ref t] [(t, .inr (2, [.ref k, .ref f, .ref l, .int (nI c)])), (k, .inl (cI, 1200, .inl fk)), (f, .inl (cI, 1200, .inl ff)), (l, .inl (cI, 1200, .inl fl))] sz) (ds_Qv D (fun (u : Unit) => True) (fun u : Unit => [(t, .inr (2, [.ref k, .ref f, .ref l, .int (nI 0)])), (k, .inl (cI, 1200, .inl fk)), (f, .inl (cI, 1200, .inl ff)), (l, .inl (cI, 1200, .inl fl))]) (va_A [(t, .inr (2, [.ref k, .ref f, .ref l, .int (nI c)])), (k, .inl (cI, 1200, .inl fk)), (f, .inl (cI, 1200, .inl ff)), (l, .inl (cI, 1200, .inl fl))] sz)) 0 0 (va_A [(t, .inr (2, [.ref k, .ref f, .ref l, .int (nI c)])), (k, .inl (cI, 1200, .inl fk)), (f, .inl (cI, 1200, .inl ff)), (l, .inl (cI, 1200, .inl fl))] sz) := by
  refine ds_enter (Qf := (fun A9 => ds_Qv D (fun (u : Unit) => True) (fun u : Unit => [(t, .inr (2, [.ref k, .ref f, .ref l, .int (nI 0)])), (k, .inl (cI, 1200, .inl fk)), (f, .inl (cI, 1200, .inl ff)), (l, .inl (cI, 1200, .inl fl))]) A9)) (cc := cX2_clear) (maxL := 1) (ret := none) (by decide) rfl (Nat.le_of_ble_eq_true rfl) ?_
  intro Pp Ee Ss Mm Aa Bb Me Cc hx hb hml hr ht hown hlk hnm A H locs hA hP hD hS hK ls hl
  have hl : lv_has ls 1 [(0, .ref t)] := hl
  change Ss.vm.findClass RX2 = some Mm.cls at hown
  refine lv_aload_n hx hb dX2_clear_0 rfl (lv_at hl 0 rfl) ?_
  refine lv_iconst (v := nI 0) hx hb dX2_clear_1 (by decide +kernel) ?_
  refine va_put (D := D) (ci := 2) (v := .int (nI 0)) (ty := .int) (C := RX2) (T := TX2) (N := 4) hx hb ht inA_X2 tyX2 tyX2_ok nmX2 hown hK.1 hP hD hS 0 rfl rfl 3 (by decide) (ht _ iw_223) (fun _ h9 => h9) rfl (by decide +kernel) rfl rfl (Nat.le_of_ble_eq_true rfl) dX2_clear_2 (fun H locs hP hD hS => ?_)
  have hP : va_P D vwCl [(t, .inr (2, [.ref k, .ref f, .ref l, .int (nI 0)])), (k, .inl (cI, 1200, .inl fk)), (f, .inl (cI, 1200, .inl ff)), (l, .inl (cI, 1200, .inl fl))] H := hP
  have hD : va_D A [(t, .inr (2, [.ref k, .ref f, .ref l, .int (nI 0)])), (k, .inl (cI, 1200, .inl fk)), (f, .inl (cI, 1200, .inl ff)), (l, .inl (cI, 1200, .inl fl))] := hD
  exact ds_vret hx hb hr hlk () trivial hP hD hS (Nat.le_of_ble_eq_true rfl) (Nat.le_of_ble_eq_true rfl) dX2_clear_5
set_option maxHeartbeats 4000000 in
set_option maxRecDepth 100000 in
theorem c_X2_goesOn (Ll : Launch) (D : va_G) (cI cL : ClassId) (t : Nat) (k : Nat) (f : Nat) (l : Nat) (c : Nat) (fk : Nat → Int32) (ff : Nat → Int32) (fl : Nat → Int32) (kd : Int32) (nb : Int32) (h1 : c ≤ 1200) (sz : Nat) : Met Ll yX2_goesOn wsX2_goesOn { frames := 0, cells := 0, slots := 0, locals := 0 } (ds_P D cI cL [.ref t, .int kd, .int nb] [(t, .inr (2, [.ref k, .ref f, .ref l, .int (nI c)])), (k, .inl (cI, 1200, .inl fk)), (f, .inl (cI, 1200, .inl ff)), (l, .inl (cI, 1200, .inl fl))] sz) (ds_Qi D (fun (r : Int32) (u : Unit) => r = if 0 < c ∧ fk (c - 1) = kd ∧ ff (c - 1) + fl (c - 1) = nb then 1 else 0) (fun u : Unit => [(t, .inr (2, [.ref k, .ref f, .ref l, .int (nI c)])), (k, .inl (cI, 1200, .inl fk)), (f, .inl (cI, 1200, .inl ff)), (l, .inl (cI, 1200, .inl fl))]) (va_A [(t, .inr (2, [.ref k, .ref f, .ref l, .int (nI c)])), (k, .inl (cI, 1200, .inl fk)), (f, .inl (cI, 1200, .inl ff)), (l, .inl (cI, 1200, .inl fl))] sz)) 0 0 (va_A [(t, .inr (2, [.ref k, .ref f, .ref l, .int (nI c)])), (k, .inl (cI, 1200, .inl fk)), (f, .inl (cI, 1200, .inl ff)), (l, .inl (cI, 1200, .inl fl))] sz) := by
  refine ds_enter (Qf := (fun A9 => ds_Qi D (fun (r : Int32) (u : Unit) => r = if 0 < c ∧ fk (c - 1) = kd ∧ ff (c - 1) + fl (c - 1) = nb then 1 else 0) (fun u : Unit => [(t, .inr (2, [.ref k, .ref f, .ref l, .int (nI c)])), (k, .inl (cI, 1200, .inl fk)), (f, .inl (cI, 1200, .inl ff)), (l, .inl (cI, 1200, .inl fl))]) A9)) (cc := cX2_goesOn) (maxL := 3) (ret := (some .boolean)) (by decide) rfl (Nat.le_of_ble_eq_true rfl) ?_
  intro Pp Ee Ss Mm Aa Bb Me Cc hx hb hml hr ht hown hlk hnm A H locs hA hP hD hS hK ls hl
  have hl : lv_has ls 3 [(0, .ref t), (1, .int kd), (2, .int nb)] := hl
  change Ss.vm.findClass RX2 = some Mm.cls at hown
  refine lv_aload_n hx hb dX2_goesOn_0 rfl (lv_at hl 0 rfl) ?_
  refine va_get (D := D) (ci := 2) (v := .int (nI c)) (C := RX2) (T := TX2) (N := 4) hx hb ht inA_X2 hown hK.1 hP 0 rfl rfl 3 (by decide) (ht _ iw_223) (fun _ h9 => h9) rfl dX2_goesOn_1 ?_
  refine lv_if_le (tgt := 53) hx hb dX2_goesOn_4 (by decide) (fun ha => ?_) (fun ha => ?_)
  ·
    rw [← nI_0] at ha
    have ha : c ≤ 0 := (nI_leI (a := c) (b := 0) (by omega) (by omega)).mp ha
    refine lv_iconst (v := nI 0) hx hb dX2_goesOn_53 (by decide +kernel) ?_
    exact ds_iret hx hb hr hlk (by decide +kernel) () (if_neg (fun z => by omega)).symm hP hD hS (Nat.le_of_ble_eq_true rfl) (Nat.le_of_ble_eq_true rfl) dX2_goesOn_54
  ·
    rw [← nI_0] at ha
    have ha : ¬ c ≤ 0 := fun z9 => ha ((nI_leI (a := c) (b := 0) (by omega) (by omega)).mpr z9)
    have ha : 0 < c := by omega
    refine lv_aload_n hx hb dX2_goesOn_7 rfl (lv_at hl 0 rfl) ?_
    refine va_get (D := D) (ci := 2) (v := .ref k) (C := RX2) (T := TX2) (N := 4) hx hb ht inA_X2 hown hK.1 hP 0 rfl rfl 0 (by decide) (ht _ iw_220) (fun _ h9 => h9) rfl dX2_goesOn_8 ?_
    refine lv_aload_n hx hb dX2_goesOn_11 rfl (lv_at hl 0 rfl) ?_
    refine va_get (D := D) (ci := 2) (v := .int (nI c)) (C := RX2) (T := TX2) (N := 4) hx hb ht inA_X2 hown hK.1 hP 0 rfl rfl 3 (by decide) (ht _ iw_223) (fun _ h9 => h9) rfl dX2_goesOn_12 ?_
    refine lv_iconst (v := nI 1) hx hb dX2_goesOn_15 (by decide +kernel) ?_
    refine lv_isub hx hb dX2_goesOn_16 ?_
    refine ds_top (z := nI (c - 1)) (pk_sub (by omega)) ?_
    refine ds_iald (k := c - 1) hx hb hK hP 1 rfl (by omega) (by omega) dX2_goesOn_17 ?_
    refine lv_iload_n hx hb dX2_goesOn_18 rfl (lv_at hl 1 rfl) ?_
    refine lv_icmp_ne (tgt := 53) hx hb dX2_goesOn_19 (by decide) (fun hb9 => ?_) (fun hb9 => ?_)
    ·
      refine lv_iconst (v := nI 0) hx hb dX2_goesOn_53 (by decide +kernel) ?_
      exact ds_iret hx hb hr hlk (by decide +kernel) () (if_neg (fun z => hb9 z.2.1)).symm hP hD hS (Nat.le_of_ble_eq_true rfl) (Nat.le_of_ble_eq_true rfl) dX2_goesOn_54
    ·
      refine lv_aload_n hx hb dX2_goesOn_22 rfl (lv_at hl 0 rfl) ?_
      refine va_get (D := D) (ci := 2) (v := .ref f) (C := RX2) (T := TX2) (N := 4) hx hb ht inA_X2 hown hK.1 hP 0 rfl rfl 1 (by decide) (ht _ iw_221) (fun _ h9 => h9) rfl dX2_goesOn_23 ?_
      refine lv_aload_n hx hb dX2_goesOn_26 rfl (lv_at hl 0 rfl) ?_
      refine va_get (D := D) (ci := 2) (v := .int (nI c)) (C := RX2) (T := TX2) (N := 4) hx hb ht inA_X2 hown hK.1 hP 0 rfl rfl 3 (by decide) (ht _ iw_223) (fun _ h9 => h9) rfl dX2_goesOn_27 ?_
      refine lv_iconst (v := nI 1) hx hb dX2_goesOn_30 (by decide +kernel) ?_
      refine lv_isub hx hb dX2_goesOn_31 ?_
      refine ds_top (z := nI (c - 1)) (pk_sub (by omega)) ?_
      refine ds_iald (k := c - 1) hx hb hK hP 2 rfl (by omega) (by omega) dX2_goesOn_32 ?_
      refine lv_aload_n hx hb dX2_goesOn_33 rfl (lv_at hl 0 rfl) ?_
      refine va_get (D := D) (ci := 2) (v := .ref l) (C := RX2) (T := TX2) (N := 4) hx hb ht inA_X2 hown hK.1 hP 0 rfl rfl 2 (by decide) (ht _ iw_222) (fun _ h9 => h9) rfl dX2_goesOn_34 ?_
      refine lv_aload_n hx hb dX2_goesOn_37 rfl (lv_at hl 0 rfl) ?_
      refine va_get (D := D) (ci := 2) (v := .int (nI c)) (C := RX2) (T := TX2) (N := 4) hx hb ht inA_X2 hown hK.1 hP 0 rfl rfl 3 (by decide) (ht _ iw_223) (fun _ h9 => h9) rfl dX2_goesOn_38 ?_
      refine lv_iconst (v := nI 1) hx hb dX2_goesOn_41 (by decide +kernel) ?_
      refine lv_isub hx hb dX2_goesOn_42 ?_
      refine ds_top (z := nI (c - 1)) (pk_sub (by omega)) ?_
      refine ds_iald (k := c - 1) hx hb hK hP 3 rfl (by omega) (by omega) dX2_goesOn_43 ?_
      refine lv_iadd hx hb dX2_goesOn_44 ?_
      refine lv_iload_n hx hb dX2_goesOn_45 rfl (lv_at hl 2 rfl) ?_
      refine lv_icmp_ne (tgt := 53) hx hb dX2_goesOn_46 (by decide) (fun hc => ?_) (fun hc => ?_)
      ·
        refine lv_iconst (v := nI 0) hx hb dX2_goesOn_53 (by decide +kernel) ?_
        exact ds_iret hx hb hr hlk (by decide +kernel) () (if_neg (fun z => hc z.2.2)).symm hP hD hS (Nat.le_of_ble_eq_true rfl) (Nat.le_of_ble_eq_true rfl) dX2_goesOn_54
      ·
        refine lv_iconst (v := nI 1) hx hb dX2_goesOn_49 (by decide +kernel) ?_
        refine lv_goto (tgt := 54) hx hb dX2_goesOn_50 (by decide) ?_
        exact ds_iret hx hb hr hlk (by decide +kernel) () (if_pos ⟨ha, hb9, hc⟩).symm hP hD hS (Nat.le_of_ble_eq_true rfl) (Nat.le_of_ble_eq_true rfl) dX2_goesOn_54
end
section
set_option maxHeartbeats 4000000 in
set_option maxRecDepth 100000 in
theorem c_X2_add (Ll : Launch) (D : va_G) (cI cL : ClassId) (t : Nat) (k : Nat) (f : Nat) (l : Nat) (c : Nat) (fk : Nat → Int32) (ff : Nat → Int32) (fl : Nat → Int32) (kd : Int32) (nb : Int32) (h1 : c < 1200) (sz : Nat) : Met Ll yX2_add wsX2_add { frames := 1, cells := 0, slots := 0, locals := 22 } (ds_P D cI cL [.ref t, .int kd, .int nb] [(t, .inr (2, [.ref k, .ref f, .ref l, .int (nI c)])), (k, .inl (cI, 1200, .inl fk)), (f, .inl (cI, 1200, .inl ff)), (l, .inl (cI, 1200, .inl fl))] sz) (ds_Qv D (fun (u : (Nat → Int32) × (Nat → Int32) × (Nat → Int32) × Nat) => u = tk_add fk ff fl c kd nb) (fun u : (Nat → Int32) × (Nat → Int32) × (Nat → Int32) × Nat => [(t, .inr (2, [.ref k, .ref f, .ref l, .int (nI u.2.2.2)])), (k, .inl (cI, 1200, .inl u.1)), (f, .inl (cI, 1200, .inl u.2.1)), (l, .inl (cI, 1200, .inl u.2.2.1))]) (va_A [(t, .inr (2, [.ref k, .ref f, .ref l, .int (nI c)])), (k, .inl (cI, 1200, .inl fk)), (f, .inl (cI, 1200, .inl ff)), (l, .inl (cI, 1200, .inl fl))] sz)) 0 0 (va_A [(t, .inr (2, [.ref k, .ref f, .ref l, .int (nI c)])), (k, .inl (cI, 1200, .inl fk)), (f, .inl (cI, 1200, .inl ff)), (l, .inl (cI, 1200, .inl fl))] sz) := by
  refine ds_enter (Qf := (fun A9 => ds_Qv D (fun (u : (Nat → Int32) × (Nat → Int32) × (Nat → Int32) × Nat) => u = tk_add fk ff fl c kd nb) (fun u : (Nat → Int32) × (Nat → Int32) × (Nat → Int32) × Nat => [(t, .inr (2, [.ref k, .ref f, .ref l, .int (nI u.2.2.2)])), (k, .inl (cI, 1200, .inl u.1)), (f, .inl (cI, 1200, .inl u.2.1)), (l, .inl (cI, 1200, .inl u.2.2.1))]) A9)) (cc := cX2_add) (maxL := 3) (ret := none) (by decide) rfl (Nat.le_of_ble_eq_true rfl) ?_
  intro Pp Ee Ss Mm Aa Bb Me Cc hx hb hml hr ht hown hlk hnm A H locs hA hP hD hS hK ls hl
  have hl : lv_has ls 3 [(0, .ref t), (1, .int kd), (2, .int nb)] := hl
  change Ss.vm.findClass RX2 = some Mm.cls at hown
  refine lv_aload_n hx hb dX2_add_0 rfl (lv_at hl 0 rfl) ?_
  refine lv_iload_n hx hb dX2_add_1 rfl (lv_at hl 1 rfl) ?_
  refine lv_iload_n hx hb dX2_add_2 rfl (lv_at hl 2 rfl) ?_
  refine ds_calli (wc := [(t, .inr (2, [.ref k, .ref f, .ref l, .int (nI c)])), (k, .inl (cI, 1200, .inl fk)), (f, .inl (cI, 1200, .inl ff)), (l, .inl (cI, 1200, .inl fl))]) (wr := []) (wo := (fun u2 : Unit => [(t, .inr (2, [.ref k, .ref f, .ref l, .int (nI c)])), (k, .inl (cI, 1200, .inl fk)), (f, .inl (cI, 1200, .inl ff)), (l, .inl (cI, 1200, .inl fl))])) (wn := (fun u2 : Unit => [(t, .inr (2, [.ref k, .ref f, .ref l, .int (nI c)])), (k, .inl (cI, 1200, .inl fk)), (f, .inl (cI, 1200, .inl ff)), (l, .inl (cI, 1200, .inl fl))])) (isC := [0, 1, 2, 3]) (isR := []) hP hD hS hA ⟨rfl, rfl, by decide, by decide, by decide⟩ [0, 1, 2, 3] (by decide) (fun _ => rfl) (fun hPc hDc => va_runV (As := [.int kd, .int nb]) (rest := []) ⟨hx, hb, hml, hown, ht⟩ (c_X2_goesOn Ll D cI cL t k f l c fk ff fl kd nb (by omega) H.size) ⟨(callB_of 2 ht g_X2_goesOn rfl rfl rfl (ht _ iw_24) (ht _ iw_226) hd_X2_goesOn ⟨Nat.le_of_ble_eq_true rfl, Nat.le_of_ble_eq_true rfl⟩), (ht _ iw_227), (ht _ iw_228)⟩ (ds_pV hPc hDc hK (q0 := 0) rfl rfl) rfl rfl hl.1 rfl (lv_room (Nat.le_of_ble_eq_true rfl)) dX2_add_3 ⟨Nat.le_of_ble_eq_true rfl, Nat.le_of_ble_eq_true rfl⟩) (fun r1 u2 H locs hp3 hP hD hS => ?_)
  have hP : va_P D vwCl [(t, .inr (2, [.ref k, .ref f, .ref l, .int (nI c)])), (k, .inl (cI, 1200, .inl fk)), (f, .inl (cI, 1200, .inl ff)), (l, .inl (cI, 1200, .inl fl))] H := hP
  have hD : va_D A [(t, .inr (2, [.ref k, .ref f, .ref l, .int (nI c)])), (k, .inl (cI, 1200, .inl fk)), (f, .inl (cI, 1200, .inl ff)), (l, .inl (cI, 1200, .inl fl))] := hD
  have hp3 : r1 = if 0 < c ∧ fk (c - 1) = kd ∧ ff (c - 1) + fl (c - 1) = nb then 1 else 0 := hp3
  replace hp3 := Eq.symm hp3
  subst hp3
  by_cases hg : 0 < c ∧ fk (c - 1) = kd ∧ ff (c - 1) + fl (c - 1) = nb
  ·
    refine ds_top (z := 1) (if_pos hg) ?_
    refine lv_if_eq (tgt := 27) hx hb dX2_add_6 (by decide) (fun h => ?_) (fun h => ?_)
    ·
      exact absurd h (by decide)
    ·
      refine lv_aload_n hx hb dX2_add_9 rfl (lv_at hl 0 rfl) ?_
      refine va_get (D := D) (ci := 2) (v := .ref l) (C := RX2) (T := TX2) (N := 4) hx hb ht inA_X2 hown hK.1 hP 0 rfl rfl 2 (by decide) (ht _ iw_222) (fun _ h9 => h9) rfl dX2_add_10 ?_
      refine lv_aload_n hx hb dX2_add_13 rfl (lv_at hl 0 rfl) ?_
      refine va_get (D := D) (ci := 2) (v := .int (nI c)) (C := RX2) (T := TX2) (N := 4) hx hb ht inA_X2 hown hK.1 hP 0 rfl rfl 3 (by decide) (ht _ iw_223) (fun _ h9 => h9) rfl dX2_add_14 ?_
      refine lv_iconst (v := nI 1) hx hb dX2_add_17 (by decide +kernel) ?_
      refine lv_isub hx hb dX2_add_18 ?_
      refine ds_top (z := nI (c - 1)) (pk_sub (by omega)) ?_
      refine lv_dup2_11 hx hb dX2_add_19 rfl rfl ?_
      refine ds_iald (k := c - 1) hx hb hK hP 3 rfl (by omega) (by omega) dX2_add_20 ?_
      refine lv_iconst (v := nI 1) hx hb dX2_add_21 (by decide +kernel) ?_
      refine lv_iadd hx hb dX2_add_22 ?_
      refine ds_iast (k := c - 1) hx hb hK hP hD hS 3 rfl (by omega) (by omega) dX2_add_23 (fun H locs hP hD hS => ?_)
      have hP : va_P D vwCl [(t, .inr (2, [.ref k, .ref f, .ref l, .int (nI c)])), (k, .inl (cI, 1200, .inl fk)), (f, .inl (cI, 1200, .inl ff)), (l, .inl (cI, 1200, .inl (upd fl (c - 1) ((fl (c - 1)) + (nI 1)))))] H := hP
      have hD : va_D A [(t, .inr (2, [.ref k, .ref f, .ref l, .int (nI c)])), (k, .inl (cI, 1200, .inl fk)), (f, .inl (cI, 1200, .inl ff)), (l, .inl (cI, 1200, .inl (upd fl (c - 1) ((fl (c - 1)) + (nI 1)))))] := hD
      refine lv_goto (tgt := 67) hx hb dX2_add_24 (by decide) ?_
      exact ds_vret hx hb hr hlk (fk, ff, upd fl (c - 1) (fl (c - 1) + nI 1), c) (by unfold tk_add; exact (if_pos hg).symm) hP hD hS (Nat.le_of_ble_eq_true rfl) (Nat.le_of_ble_eq_true rfl) dX2_add_67
  ·
    refine ds_top (z := 0) (if_neg hg) ?_
    refine lv_if_eq (tgt := 27) hx hb dX2_add_6 (by decide) (fun h => ?_) (fun h => ?_)
    ·
      refine lv_aload_n hx hb dX2_add_27 rfl (lv_at hl 0 rfl) ?_
      refine va_get (D := D) (ci := 2) (v := .ref k) (C := RX2) (T := TX2) (N := 4) hx hb ht inA_X2 hown hK.1 hP 0 rfl rfl 0 (by decide) (ht _ iw_220) (fun _ h9 => h9) rfl dX2_add_28 ?_
      refine lv_aload_n hx hb dX2_add_31 rfl (lv_at hl 0 rfl) ?_
      refine va_get (D := D) (ci := 2) (v := .int (nI c)) (C := RX2) (T := TX2) (N := 4) hx hb ht inA_X2 hown hK.1 hP 0 rfl rfl 3 (by decide) (ht _ iw_223) (fun _ h9 => h9) rfl dX2_add_32 ?_
      refine lv_iload_n hx hb dX2_add_35 rfl (lv_at hl 1 rfl) ?_
      refine ds_iast (k := c) hx hb hK hP hD hS 1 rfl (by omega) (by omega) dX2_add_36 (fun H locs hP hD hS => ?_)
      have hP : va_P D vwCl [(t, .inr (2, [.ref k, .ref f, .ref l, .int (nI c)])), (k, .inl (cI, 1200, .inl (upd fk c kd))), (f, .inl (cI, 1200, .inl ff)), (l, .inl (cI, 1200, .inl fl))] H := hP
      have hD : va_D A [(t, .inr (2, [.ref k, .ref f, .ref l, .int (nI c)])), (k, .inl (cI, 1200, .inl (upd fk c kd))), (f, .inl (cI, 1200, .inl ff)), (l, .inl (cI, 1200, .inl fl))] := hD
      refine lv_aload_n hx hb dX2_add_37 rfl (lv_at hl 0 rfl) ?_
      refine va_get (D := D) (ci := 2) (v := .ref f) (C := RX2) (T := TX2) (N := 4) hx hb ht inA_X2 hown hK.1 hP 0 rfl rfl 1 (by decide) (ht _ iw_221) (fun _ h9 => h9) rfl dX2_add_38 ?_
      refine lv_aload_n hx hb dX2_add_41 rfl (lv_at hl 0 rfl) ?_
      refine va_get (D := D) (ci := 2) (v := .int (nI c)) (C := RX2) (T := TX2) (N := 4) hx hb ht inA_X2 hown hK.1 hP 0 rfl rfl 3 (by decide) (ht _ iw_223) (fun _ h9 => h9) rfl dX2_add_42 ?_
      refine lv_iload_n hx hb dX2_add_45 rfl (lv_at hl 2 rfl) ?_
      refine ds_iast (k := c) hx hb hK hP hD hS 2 rfl (by omega) (by omega) dX2_add_46 (fun H locs hP hD hS => ?_)
      have hP : va_P D vwCl [(t, .inr (2, [.ref k, .ref f, .ref l, .int (nI c)])), (k, .inl (cI, 1200, .inl (upd fk c kd))), (f, .inl (cI, 1200, .inl (upd ff c nb))), (l, .inl (cI, 1200, .inl fl))] H := hP
      have hD : va_D A [(t, .inr (2, [.ref k, .ref f, .ref l, .int (nI c)])), (k, .inl (cI, 1200, .inl (upd fk c kd))), (f, .inl (cI, 1200, .inl (upd ff c nb))), (l, .inl (cI, 1200, .inl fl))] := hD
      refine lv_aload_n hx hb dX2_add_47 rfl (lv_at hl 0 rfl) ?_
      refine va_get (D := D) (ci := 2) (v := .ref l) (C := RX2) (T := TX2) (N := 4) hx hb ht inA_X2 hown hK.1 hP 0 rfl rfl 2 (by decide) (ht _ iw_222) (fun _ h9 => h9) rfl dX2_add_48 ?_
      refine lv_aload_n hx hb dX2_add_51 rfl (lv_at hl 0 rfl) ?_
      refine va_get (D := D) (ci := 2) (v := .int (nI c)) (C := RX2) (T := TX2) (N := 4) hx hb ht inA_X2 hown hK.1 hP 0 rfl rfl 3 (by decide) (ht _ iw_223) (fun _ h9 => h9) rfl dX2_add_52 ?_
      refine lv_iconst (v := nI 1) hx hb dX2_add_55 (by decide +kernel) ?_
      refine ds_iast (k := c) hx hb hK hP hD hS 3 rfl (by omega) (by omega) dX2_add_56 (fun H locs hP hD hS => ?_)
      have hP : va_P D vwCl [(t, .inr (2, [.ref k, .ref f, .ref l, .int (nI c)])), (k, .inl (cI, 1200, .inl (upd fk c kd))), (f, .inl (cI, 1200, .inl (upd ff c nb))), (l, .inl (cI, 1200, .inl (upd fl c (nI 1))))] H := hP
      have hD : va_D A [(t, .inr (2, [.ref k, .ref f, .ref l, .int (nI c)])), (k, .inl (cI, 1200, .inl (upd fk c kd))), (f, .inl (cI, 1200, .inl (upd ff c nb))), (l, .inl (cI, 1200, .inl (upd fl c (nI 1))))] := hD
      refine lv_aload_n hx hb dX2_add_57 rfl (lv_at hl 0 rfl) ?_
      refine lv_dup hx hb dX2_add_58 rfl ?_
      refine va_get (D := D) (ci := 2) (v := .int (nI c)) (C := RX2) (T := TX2) (N := 4) hx hb ht inA_X2 hown hK.1 hP 0 rfl rfl 3 (by decide) (ht _ iw_223) (fun _ h9 => h9) rfl dX2_add_59 ?_
      refine lv_iconst (v := nI 1) hx hb dX2_add_62 (by decide +kernel) ?_
      refine lv_iadd hx hb dX2_add_63 ?_
      refine ds_top (z := nI (c + 1)) (nI_add _ _) ?_
      refine va_put (D := D) (ci := 2) (v := .int (nI (c + 1))) (ty := .int) (C := RX2) (T := TX2) (N := 4) hx hb ht inA_X2 tyX2 tyX2_ok nmX2 hown hK.1 hP hD hS 0 rfl rfl 3 (by decide) (ht _ iw_223) (fun _ h9 => h9) rfl (by decide +kernel) rfl rfl (Nat.le_of_ble_eq_true rfl) dX2_add_64 (fun H locs hP hD hS => ?_)
      have hP : va_P D vwCl [(t, .inr (2, [.ref k, .ref f, .ref l, .int (nI (c + 1))])), (k, .inl (cI, 1200, .inl (upd fk c kd))), (f, .inl (cI, 1200, .inl (upd ff c nb))), (l, .inl (cI, 1200, .inl (upd fl c (nI 1))))] H := hP
      have hD : va_D A [(t, .inr (2, [.ref k, .ref f, .ref l, .int (nI (c + 1))])), (k, .inl (cI, 1200, .inl (upd fk c kd))), (f, .inl (cI, 1200, .inl (upd ff c nb))), (l, .inl (cI, 1200, .inl (upd fl c (nI 1))))] := hD
      exact ds_vret hx hb hr hlk (upd fk c kd, upd ff c nb, upd fl c (nI 1), c + 1) (by unfold tk_add; exact (if_neg hg).symm) hP hD hS (Nat.le_of_ble_eq_true rfl) (Nat.le_of_ble_eq_true rfl) dX2_add_67
    ·
      exact absurd rfl h
end
section
set_option maxHeartbeats 4000000 in
set_option maxRecDepth 100000 in
theorem c_X0_start (Ll : Launch) (D : va_G) (cI cL : ClassId) (b : Nat) (r : Nat) (w : Nat) (t : Nat) (us : Nat) (lsz : Nat) (ct : Nat) (k : Nat) (sz : Nat) : Met Ll yX0_start wsX0_start { frames := 0, cells := 0, slots := 0, locals := 0 } (ds_P D cI cL [.ref b, .int (nI k)] [(b, .inr (0, [.ref r, .ref w, .ref t, .int (nI us), .int (nI lsz), .int (nI ct)]))] sz) (ds_Qi D (fun (r : Int32) (u : Unit) => r = nI (k * us)) (fun u : Unit => [(b, .inr (0, [.ref r, .ref w, .ref t, .int (nI us), .int (nI lsz), .int (nI ct)]))]) (va_A [(b, .inr (0, [.ref r, .ref w, .ref t, .int (nI us), .int (nI lsz), .int (nI ct)]))] sz)) 0 0 (va_A [(b, .inr (0, [.ref r, .ref w, .ref t, .int (nI us), .int (nI lsz), .int (nI ct)]))] sz) := by
  refine ds_enter (Qf := (fun A9 => ds_Qi D (fun (r : Int32) (u : Unit) => r = nI (k * us)) (fun u : Unit => [(b, .inr (0, [.ref r, .ref w, .ref t, .int (nI us), .int (nI lsz), .int (nI ct)]))]) A9)) (cc := cX0_start) (maxL := 2) (ret := (some .int)) (by decide) rfl (Nat.le_of_ble_eq_true rfl) ?_
  intro Pp Ee Ss Mm Aa Bb Me Cc hx hb hml hr ht hown hlk hnm A H locs hA hP hD hS hK ls hl
  have hl : lv_has ls 2 [(0, .ref b), (1, .int (nI k))] := hl
  change Ss.vm.findClass RX0 = some Mm.cls at hown
  refine lv_iload_n hx hb dX0_start_0 rfl (lv_at hl 1 rfl) ?_
  refine lv_aload_n hx hb dX0_start_1 rfl (lv_at hl 0 rfl) ?_
  refine va_get (D := D) (ci := 0) (v := .int (nI us)) (C := RX0) (T := TX0) (N := 6) hx hb ht inA_X0 hown hK.1 hP 0 rfl rfl 3 (by decide) (ht _ iw_193) (fun _ h9 => h9) rfl dX0_start_2 ?_
  refine lv_imul hx hb dX0_start_5 ?_
  refine ds_top (z := nI (k * us)) (pk_mul _ _) ?_
  exact ds_iret hx hb hr hlk rfl () rfl hP hD hS (Nat.le_of_ble_eq_true rfl) (Nat.le_of_ble_eq_true rfl) dX0_start_6
set_option maxHeartbeats 4000000 in
set_option maxRecDepth 100000 in
theorem c_X0_length (Ll : Launch) (D : va_G) (cI cL : ClassId) (b : Nat) (r : Nat) (w : Nat) (t : Nat) (us : Nat) (lsz : Nat) (ct : Nat) (k : Nat) (h1 : k < ct) (h2 : ct ≤ 300) (sz : Nat) : Met Ll yX0_length wsX0_length { frames := 0, cells := 0, slots := 0, locals := 0 } (ds_P D cI cL [.ref b, .int (nI k)] [(b, .inr (0, [.ref r, .ref w, .ref t, .int (nI us), .int (nI lsz), .int (nI ct)]))] sz) (ds_Qi D (fun (r : Int32) (u : Unit) => r = nI (if k + 1 = ct then lsz else us)) (fun u : Unit => [(b, .inr (0, [.ref r, .ref w, .ref t, .int (nI us), .int (nI lsz), .int (nI ct)]))]) (va_A [(b, .inr (0, [.ref r, .ref w, .ref t, .int (nI us), .int (nI lsz), .int (nI ct)]))] sz)) 0 0 (va_A [(b, .inr (0, [.ref r, .ref w, .ref t, .int (nI us), .int (nI lsz), .int (nI ct)]))] sz) := by
  refine ds_enter (Qf := (fun A9 => ds_Qi D (fun (r : Int32) (u : Unit) => r = nI (if k + 1 = ct then lsz else us)) (fun u : Unit => [(b, .inr (0, [.ref r, .ref w, .ref t, .int (nI us), .int (nI lsz), .int (nI ct)]))]) A9)) (cc := cX0_length) (maxL := 2) (ret := (some .int)) (by decide) rfl (Nat.le_of_ble_eq_true rfl) ?_
  intro Pp Ee Ss Mm Aa Bb Me Cc hx hb hml hr ht hown hlk hnm A H locs hA hP hD hS hK ls hl
  have hl : lv_has ls 2 [(0, .ref b), (1, .int (nI k))] := hl
  change Ss.vm.findClass RX0 = some Mm.cls at hown
  refine lv_iload_n hx hb dX0_length_0 rfl (lv_at hl 1 rfl) ?_
  refine lv_aload_n hx hb dX0_length_1 rfl (lv_at hl 0 rfl) ?_
  refine va_get (D := D) (ci := 0) (v := .int (nI ct)) (C := RX0) (T := TX0) (N := 6) hx hb ht inA_X0 hown hK.1 hP 0 rfl rfl 5 (by decide) (ht _ iw_195) (fun _ h9 => h9) rfl dX0_length_2 ?_
  refine lv_iconst (v := nI 1) hx hb dX0_length_5 (by decide +kernel) ?_
  refine lv_isub hx hb dX0_length_6 ?_
  refine ds_top (z := nI (ct - 1)) (pk_sub (by omega)) ?_
  refine lv_icmp_ne (tgt := 17) hx hb dX0_length_7 (by decide) (fun h => ?_) (fun h => ?_)
  ·
    have h : ¬ k = (ct - 1) := fun z9 => h ((nI_eq (a := k) (b := (ct - 1)) (by omega) (by omega)).mpr z9)
    refine lv_aload_n hx hb dX0_length_17 rfl (lv_at hl 0 rfl) ?_
    refine va_get (D := D) (ci := 0) (v := .int (nI us)) (C := RX0) (T := TX0) (N := 6) hx hb ht inA_X0 hown hK.1 hP 0 rfl rfl 3 (by decide) (ht _ iw_193) (fun _ h9 => h9) rfl dX0_length_18 ?_
    exact ds_iret hx hb hr hlk rfl () (by rw [if_neg (by omega)]) hP hD hS (Nat.le_of_ble_eq_true rfl) (Nat.le_of_ble_eq_true rfl) dX0_length_21
  ·
    have h : k = (ct - 1) := (nI_eq (a := k) (b := (ct - 1)) (by omega) (by omega)).mp h
    refine lv_aload_n hx hb dX0_length_10 rfl (lv_at hl 0 rfl) ?_
    refine va_get (D := D) (ci := 0) (v := .int (nI lsz)) (C := RX0) (T := TX0) (N := 6) hx hb ht inA_X0 hown hK.1 hP 0 rfl rfl 4 (by decide) (ht _ iw_194) (fun _ h9 => h9) rfl dX0_length_11 ?_
    refine lv_goto (tgt := 21) hx hb dX0_length_14 (by decide) ?_
    exact ds_iret hx hb hr hlk rfl () (by rw [if_pos (by omega)]) hP hD hS (Nat.le_of_ble_eq_true rfl) (Nat.le_of_ble_eq_true rfl) dX0_length_21
set_option maxHeartbeats 4000000 in
set_option maxRecDepth 100000 in
theorem c_X4_blockCount (Ll : Launch) (D : va_G) (cI cL : ClassId) (n : Nat) (k : Nat) (h1 : n ≤ 1200) (h2 : 4 ≤ k) (h3 : k ≤ 256) (sz : Nat) : Met Ll yX4_blockCount wsX4_blockCount { frames := 0, cells := 0, slots := 0, locals := 0 } (ds_P D cI cL [.int (nI n), .int (nI k)] [] sz) (ds_Qi D (fun (r : Int32) (u : Unit) => r = nI (bn n k)) (fun u : Unit => []) (va_A [] sz)) 0 0 (va_A [] sz) := by
  refine ds_enter (Qf := (fun A9 => ds_Qi D (fun (r : Int32) (u : Unit) => r = nI (bn n k)) (fun u : Unit => []) A9)) (cc := cX4_blockCount) (maxL := 2) (ret := (some .int)) (by decide) rfl (Nat.le_of_ble_eq_true rfl) ?_
  intro Pp Ee Ss Mm Aa Bb Me Cc hx hb hml hr ht hown hlk hnm A H locs hA hP hD hS hK ls hl
  have hl : lv_has ls 2 [(0, .int (nI n)), (1, .int (nI k))] := hl
  change Ss.vm.findClass RX4 = some Mm.cls at hown
  refine lv_iload_n hx hb dX4_blockCount_0 rfl (lv_at hl 0 rfl) ?_
  refine lv_iload_n hx hb dX4_blockCount_1 rfl (lv_at hl 1 rfl) ?_
  refine lv_iadd hx hb dX4_blockCount_2 ?_
  refine ds_top (z := nI (n + k)) (nI_add _ _) ?_
  refine lv_iconst (v := nI 1) hx hb dX4_blockCount_3 (by decide +kernel) ?_
  refine lv_isub hx hb dX4_blockCount_4 ?_
  refine ds_top (z := nI (n + k - 1)) (pk_sub (by omega)) ?_
  refine lv_iload_n hx hb dX4_blockCount_5 rfl (lv_at hl 1 rfl) ?_
  refine lv_idiv hx hb dX4_blockCount_6 (fun z => by rw [← nI_0] at z; have := (nI_eq (by omega) (by omega)).mp z; omega) ?_
  refine ds_top (z := nI ((n + k - 1) / k)) (pk_div (by omega) (by omega) (by omega)) ?_
  exact ds_iret hx hb hr hlk rfl () rfl hP hD hS (Nat.le_of_ble_eq_true rfl) (Nat.le_of_ble_eq_true rfl) dX4_blockCount_7
set_option maxHeartbeats 4000000 in
set_option maxRecDepth 100000 in
theorem c_X0_init (Ll : Launch) (D : va_G) (cI cL : ClassId) (b : Nat) (r : Nat) (sz : Nat) : Met Ll yX0_init wsX0_init { frames := 1, cells := 2, slots := 600, locals := 20 } (ds_P D cI cL [.ref b, .ref r] [(b, .inr (0, [.null, .null, .null, .int 0, .int 0, .int 0]))] sz) (ds_Qv D (fun (u : Nat × Nat) => True) (fun u : Nat × Nat => [(b, .inr (0, [.ref r, .ref u.1, .ref u.2, .int (nI 4), .int (nI 0), .int (nI 0)])), (u.1, .inl (cI, 300, .inl (fun _ => 0))), (u.2, .inl (cL, 300, .inr (.inl (fun _ => 0))))]) (va_A [(b, .inr (0, [.null, .null, .null, .int 0, .int 0, .int 0]))] sz)) 2 600 (va_A [(b, .inr (0, [.null, .null, .null, .int 0, .int 0, .int 0]))] sz) := by
  refine ds_enter (Qf := (fun A9 => ds_Qv D (fun (u : Nat × Nat) => True) (fun u : Nat × Nat => [(b, .inr (0, [.ref r, .ref u.1, .ref u.2, .int (nI 4), .int (nI 0), .int (nI 0)])), (u.1, .inl (cI, 300, .inl (fun _ => 0))), (u.2, .inl (cL, 300, .inr (.inl (fun _ => 0))))]) A9)) (cc := cX0_init) (maxL := 2) (ret := none) (by decide) rfl (Nat.le_of_ble_eq_true rfl) ?_
  intro Pp Ee Ss Mm Aa Bb Me Cc hx hb hml hr ht hown hlk hnm A H locs hA hP hD hS hK ls hl
  have hl : lv_has ls 2 [(0, .ref b), (1, .ref r)] := hl
  change Ss.vm.findClass RX0 = some Mm.cls at hown
  refine lv_aload_n hx hb dX0_init_0 rfl (lv_at hl 0 rfl) ?_
  refine W.objInit hx hb hown (ht _ iw_188) (ht _ iw_2) (ht _ iw_3) rfl (by rw [hml]; exact hl.1) rfl dX0_init_1 (Nat.le_of_ble_eq_true rfl) (Nat.le_of_ble_eq_true rfl) ?_
  refine W.eq (g2 := F0 Mm 4 ls []) rfl ?_
  refine lv_aload_n hx hb dX0_init_4 rfl (lv_at hl 0 rfl) ?_
  refine lv_aload_n hx hb dX0_init_5 rfl (lv_at hl 1 rfl) ?_
  refine va_putF (D := D) (ci := 0) (v := .ref r) (ty := (.object "DeltaDesk$Row")) (C := RX0) (T := TX0) (N := 6) hx hb ht inA_X0 tyX0 tyX0_ok nmX0 hown hK.1 hP hD hS 0 rfl rfl 0 (by decide) (ht _ iw_189) (fun _ h9 => h9) rfl hnm rfl (by decide +kernel) rfl rfl (Nat.le_of_ble_eq_true rfl) dX0_init_6 (fun H locs hP hD hS => ?_)
  have hP : va_P D vwCl [(b, .inr (0, [.ref r, .null, .null, .int 0, .int 0, .int 0]))] H := hP
  have hD : va_D A [(b, .inr (0, [.ref r, .null, .null, .int 0, .int 0, .int 0]))] := hD
  refine lv_aload_n hx hb dX0_init_9 rfl (lv_at hl 0 rfl) ?_
  refine lv_sipush (v := nI 300) hx hb dX0_init_10 (by decide +kernel) ?_
  refine va_newa (atype := .int) (a0 := (300, .inl (fun _ => 0))) (N' := 300) hx hb (ht _ iw_121) rfl hK.1 hP hD hS hA (fun _ => rfl) (by decide) (by decide) (by decide) (Nat.le_of_ble_eq_true rfl) (Nat.le_of_ble_eq_true rfl) dX0_init_13 (fun q1 cA9 H hK9 hP hD hS => ?_)
  have e9 := Eq.symm (ds_cI hK9)
  subst e9
  have hP : va_P D vwCl [(b, .inr (0, [.ref r, .null, .null, .int 0, .int 0, .int 0])), (q1, .inl (cI, 300, .inl (fun _ => 0)))] H := hP
  have hD : va_D A [(b, .inr (0, [.ref r, .null, .null, .int 0, .int 0, .int 0])), (q1, .inl (cI, 300, .inl (fun _ => 0)))] := hD
  refine va_putF (D := D) (ci := 0) (v := .ref q1) (ty := (.array .int)) (C := RX0) (T := TX0) (N := 6) hx hb ht inA_X0 tyX0 tyX0_ok nmX0 hown hK.1 hP hD hS 0 rfl rfl 1 (by decide) (ht _ iw_190) (fun _ h9 => h9) rfl hnm rfl (by decide +kernel) rfl rfl (Nat.le_of_ble_eq_true rfl) dX0_init_15 (fun H locs hP hD hS => ?_)
  have hP : va_P D vwCl [(b, .inr (0, [.ref r, .ref q1, .null, .int 0, .int 0, .int 0])), (q1, .inl (cI, 300, .inl (fun _ => 0)))] H := hP
  have hD : va_D A [(b, .inr (0, [.ref r, .ref q1, .null, .int 0, .int 0, .int 0])), (q1, .inl (cI, 300, .inl (fun _ => 0)))] := hD
  refine lv_aload_n hx hb dX0_init_18 rfl (lv_at hl 0 rfl) ?_
  refine lv_sipush (v := nI 300) hx hb dX0_init_19 (by decide +kernel) ?_
  refine va_newa (atype := .long) (a0 := (300, .inr (.inl (fun _ => 0)))) (N' := 300) hx hb (ht _ iw_191) rfl hK.1 hP hD hS hA (fun _ => rfl) (by decide) (by decide) (by decide) (Nat.le_of_ble_eq_true rfl) (Nat.le_of_ble_eq_true rfl) dX0_init_22 (fun q2 cA9 H hK9 hP hD hS => ?_)
  have e9 := Eq.symm (ds_cL hK9)
  subst e9
  have hP : va_P D vwCl [(b, .inr (0, [.ref r, .ref q1, .null, .int 0, .int 0, .int 0])), (q1, .inl (cI, 300, .inl (fun _ => 0))), (q2, .inl (cL, 300, .inr (.inl (fun _ => 0))))] H := hP
  have hD : va_D A [(b, .inr (0, [.ref r, .ref q1, .null, .int 0, .int 0, .int 0])), (q1, .inl (cI, 300, .inl (fun _ => 0))), (q2, .inl (cL, 300, .inr (.inl (fun _ => 0))))] := hD
  refine va_putF (D := D) (ci := 0) (v := .ref q2) (ty := (.array .long)) (C := RX0) (T := TX0) (N := 6) hx hb ht inA_X0 tyX0 tyX0_ok nmX0 hown hK.1 hP hD hS 0 rfl rfl 2 (by decide) (ht _ iw_192) (fun _ h9 => h9) rfl hnm rfl (by decide +kernel) rfl rfl (Nat.le_of_ble_eq_true rfl) dX0_init_24 (fun H locs hP hD hS => ?_)
  have hP : va_P D vwCl [(b, .inr (0, [.ref r, .ref q1, .ref q2, .int 0, .int 0, .int 0])), (q1, .inl (cI, 300, .inl (fun _ => 0))), (q2, .inl (cL, 300, .inr (.inl (fun _ => 0))))] H := hP
  have hD : va_D A [(b, .inr (0, [.ref r, .ref q1, .ref q2, .int 0, .int 0, .int 0])), (q1, .inl (cI, 300, .inl (fun _ => 0))), (q2, .inl (cL, 300, .inr (.inl (fun _ => 0))))] := hD
  refine lv_aload_n hx hb dX0_init_27 rfl (lv_at hl 0 rfl) ?_
  refine lv_iconst (v := nI 4) hx hb dX0_init_28 (by decide +kernel) ?_
  refine va_put (D := D) (ci := 0) (v := .int (nI 4)) (ty := .int) (C := RX0) (T := TX0) (N := 6) hx hb ht inA_X0 tyX0 tyX0_ok nmX0 hown hK.1 hP hD hS 0 rfl rfl 3 (by decide) (ht _ iw_193) (fun _ h9 => h9) rfl (by decide +kernel) rfl rfl (Nat.le_of_ble_eq_true rfl) dX0_init_29 (fun H locs hP hD hS => ?_)
  have hP : va_P D vwCl [(b, .inr (0, [.ref r, .ref q1, .ref q2, .int (nI 4), .int 0, .int 0])), (q1, .inl (cI, 300, .inl (fun _ => 0))), (q2, .inl (cL, 300, .inr (.inl (fun _ => 0))))] H := hP
  have hD : va_D A [(b, .inr (0, [.ref r, .ref q1, .ref q2, .int (nI 4), .int 0, .int 0])), (q1, .inl (cI, 300, .inl (fun _ => 0))), (q2, .inl (cL, 300, .inr (.inl (fun _ => 0))))] := hD
  refine lv_aload_n hx hb dX0_init_32 rfl (lv_at hl 0 rfl) ?_
  refine lv_iconst (v := nI 0) hx hb dX0_init_33 (by decide +kernel) ?_
  refine va_put (D := D) (ci := 0) (v := .int (nI 0)) (ty := .int) (C := RX0) (T := TX0) (N := 6) hx hb ht inA_X0 tyX0 tyX0_ok nmX0 hown hK.1 hP hD hS 0 rfl rfl 4 (by decide) (ht _ iw_194) (fun _ h9 => h9) rfl (by decide +kernel) rfl rfl (Nat.le_of_ble_eq_true rfl) dX0_init_34 (fun H locs hP hD hS => ?_)
  have hP : va_P D vwCl [(b, .inr (0, [.ref r, .ref q1, .ref q2, .int (nI 4), .int (nI 0), .int 0])), (q1, .inl (cI, 300, .inl (fun _ => 0))), (q2, .inl (cL, 300, .inr (.inl (fun _ => 0))))] H := hP
  have hD : va_D A [(b, .inr (0, [.ref r, .ref q1, .ref q2, .int (nI 4), .int (nI 0), .int 0])), (q1, .inl (cI, 300, .inl (fun _ => 0))), (q2, .inl (cL, 300, .inr (.inl (fun _ => 0))))] := hD
  refine lv_aload_n hx hb dX0_init_37 rfl (lv_at hl 0 rfl) ?_
  refine lv_iconst (v := nI 0) hx hb dX0_init_38 (by decide +kernel) ?_
  refine va_put (D := D) (ci := 0) (v := .int (nI 0)) (ty := .int) (C := RX0) (T := TX0) (N := 6) hx hb ht inA_X0 tyX0 tyX0_ok nmX0 hown hK.1 hP hD hS 0 rfl rfl 5 (by decide) (ht _ iw_195) (fun _ h9 => h9) rfl (by decide +kernel) rfl rfl (Nat.le_of_ble_eq_true rfl) dX0_init_39 (fun H locs hP hD hS => ?_)
  have hP : va_P D vwCl [(b, .inr (0, [.ref r, .ref q1, .ref q2, .int (nI 4), .int (nI 0), .int (nI 0)])), (q1, .inl (cI, 300, .inl (fun _ => 0))), (q2, .inl (cL, 300, .inr (.inl (fun _ => 0))))] H := hP
  have hD : va_D A [(b, .inr (0, [.ref r, .ref q1, .ref q2, .int (nI 4), .int (nI 0), .int (nI 0)])), (q1, .inl (cI, 300, .inl (fun _ => 0))), (q2, .inl (cL, 300, .inr (.inl (fun _ => 0))))] := hD
  exact ds_vret hx hb hr hlk (q1, q2) trivial hP hD hS (Nat.le_of_ble_eq_true rfl) (Nat.le_of_ble_eq_true rfl) dX0_init_42
end
section
set_option maxHeartbeats 4000000 in
set_option maxRecDepth 100000 in
theorem c_X0_cut (Ll : Launch) (D : va_G) (cI cL : ClassId) (b : Nat) (r : Nat) (w : Nat) (t : Nat) (us : Nat) (lsz : Nat) (ct : Nat) (o : Nat) (n : Nat) (f : Nat → Int32) (fw : Nat → Int32) (fs : Nat → Int64) (k : Nat) (h1 : n ≤ 1200) (h2 : 4 ≤ k) (h3 : k ≤ 256) (sz : Nat) : Met Ll yX0_cut wsX0_cut { frames := 2, cells := 0, slots := 0, locals := 46 } (ds_P D cI cL [.ref b, .int (nI k)] [(b, .inr (0, [.ref r, .ref w, .ref t, .int (nI us), .int (nI lsz), .int (nI ct)])), (w, .inl (cI, 300, .inl fw)), (t, .inl (cL, 300, .inr (.inl fs))), (r, .inr (1, [.ref o, .int (nI n)])), (o, .inl (cI, 1200, .inl f))] sz) (ds_Qv D (fun (u : (Nat → Int32) × (Nat → Int64)) => ∀ j, j < bn n k → u.1 j = su_W f (j * k) (bl n k j) ∧ u.2 j = su_S f (j * k) (bl n k j)) (fun u : (Nat → Int32) × (Nat → Int64) => [(b, .inr (0, [.ref r, .ref w, .ref t, .int (nI k), .int (nI (bL n k)), .int (nI (bn n k))])), (w, .inl (cI, 300, .inl u.1)), (t, .inl (cL, 300, .inr (.inl u.2))), (r, .inr (1, [.ref o, .int (nI n)])), (o, .inl (cI, 1200, .inl f))]) (va_A [(b, .inr (0, [.ref r, .ref w, .ref t, .int (nI us), .int (nI lsz), .int (nI ct)])), (w, .inl (cI, 300, .inl fw)), (t, .inl (cL, 300, .inr (.inl fs))), (r, .inr (1, [.ref o, .int (nI n)])), (o, .inl (cI, 1200, .inl f))] sz)) 0 0 (va_A [(b, .inr (0, [.ref r, .ref w, .ref t, .int (nI us), .int (nI lsz), .int (nI ct)])), (w, .inl (cI, 300, .inl fw)), (t, .inl (cL, 300, .inr (.inl fs))), (r, .inr (1, [.ref o, .int (nI n)])), (o, .inl (cI, 1200, .inl f))] sz) := by
  refine ds_enter (Qf := (fun A9 => ds_Qv D (fun (u : (Nat → Int32) × (Nat → Int64)) => ∀ j, j < bn n k → u.1 j = su_W f (j * k) (bl n k j) ∧ u.2 j = su_S f (j * k) (bl n k j)) (fun u : (Nat → Int32) × (Nat → Int64) => [(b, .inr (0, [.ref r, .ref w, .ref t, .int (nI k), .int (nI (bL n k)), .int (nI (bn n k))])), (w, .inl (cI, 300, .inl u.1)), (t, .inl (cL, 300, .inr (.inl u.2))), (r, .inr (1, [.ref o, .int (nI n)])), (o, .inl (cI, 1200, .inl f))]) A9)) (cc := cX0_cut) (maxL := 3) (ret := none) (by decide) rfl (Nat.le_of_ble_eq_true rfl) ?_
  intro Pp Ee Ss Mm Aa Bb Me Cc hx hb hml hr ht hown hlk hnm A H locs hA hP hD hS hK ls hl
  have hl : lv_has ls 3 [(0, .ref b), (1, .int (nI k))] := hl
  change Ss.vm.findClass RX0 = some Mm.cls at hown
  have hb3 := bn_300 h1 h2
  have loop1 : ∀ (k2 : Nat) (i : Nat) (gw : Nat → Int32) (gs : Nat → Int64) (H : Heap) (locs : List Loc) (ls : Array Slot), (i ≤ bn n k) → (∀ j, j < i → gw j = su_W f (j * k) (bl n k j) ∧ gs j = su_S f (j * k) (bl n k j)) → bn n k - i < k2 → va_P D vwCl [(b, .inr (0, [.ref r, .ref w, .ref t, .int (nI k), .int (nI (bL n k)), .int (nI (bn n k))])), (w, .inl (cI, 300, .inl gw)), (t, .inl (cL, 300, .inr (.inl gs))), (r, .inr (1, [.ref o, .int (nI n)])), (o, .inl (cI, 1200, .inl f))] H → va_D A [(b, .inr (0, [.ref r, .ref w, .ref t, .int (nI k), .int (nI (bL n k)), .int (nI (bn n k))])), (w, .inl (cI, 300, .inl gw)), (t, .inl (cL, 300, .inr (.inl gs))), (r, .inr (1, [.ref o, .int (nI n)])), (o, .inl (cI, 1200, .inl f))] → va_S A Ss.heap H locs → lv_has ls 3 [(0, .ref b), (1, .int (nI k)), (2, .int (nI i))] → W Pp Ll Ee { frames := 2, cells := 0, slots := 0, locals := 46 } Ss Mm Aa Bb Me Cc H locs 0 0 (MQ Bb (ds_Qv D (fun (u : (Nat → Int32) × (Nat → Int64)) => ∀ j, j < bn n k → u.1 j = su_W f (j * k) (bl n k j) ∧ u.2 j = su_S f (j * k) (bl n k j)) (fun u : (Nat → Int32) × (Nat → Int64) => [(b, .inr (0, [.ref r, .ref w, .ref t, .int (nI k), .int (nI (bL n k)), .int (nI (bn n k))])), (w, .inl (cI, 300, .inl u.1)), (t, .inl (cL, 300, .inr (.inl u.2))), (r, .inr (1, [.ref o, .int (nI n)])), (o, .inl (cI, 1200, .inl f))]) A) Aa Ss 0 0 A) (F0 Mm 55 ls []) := by
    intro k2
    induction k2 with
    | zero => intro i gw gs H locs ls hi hv hm4; exact absurd hm4 (Nat.not_lt_zero _)
    | succ k2 ih3 =>
      intro i gw gs H locs ls hi hv hm4 hP hD hS hl
      refine lv_iload_n hx hb dX0_cut_55 rfl (lv_at hl 2 rfl) ?_
      refine lv_aload_n hx hb dX0_cut_56 rfl (lv_at hl 0 rfl) ?_
      refine va_get (D := D) (ci := 0) (v := .int (nI (bn n k))) (C := RX0) (T := TX0) (N := 6) hx hb ht inA_X0 hown hK.1 hP 0 rfl rfl 5 (by decide) (ht _ iw_195) (fun _ h9 => h9) rfl dX0_cut_57 ?_
      refine lv_icmp_ge (tgt := 115) hx hb dX0_cut_60 (by decide) (fun h => ?_) (fun h => ?_)
      ·
        have h : (bn n k) ≤ i := (nI_leI (a := (bn n k)) (b := i) (by omega) (by omega)).mp h
        exact ds_vret hx hb hr hlk (gw, gs) (fun j hj => hv j (by omega)) hP hD hS (Nat.le_of_ble_eq_true rfl) (Nat.le_of_ble_eq_true rfl) dX0_cut_115
      ·
        have h : ¬ (bn n k) ≤ i := fun z9 => h ((nI_leI (a := (bn n k)) (b := i) (by omega) (by omega)).mpr z9)
        have hin := bl_in (n := n) (s := k) (i := i) (by omega) (by omega)
        unfold bl at hin
        refine lv_aload_n hx hb dX0_cut_63 rfl (lv_at hl 0 rfl) ?_
        refine va_get (D := D) (ci := 0) (v := .ref w) (C := RX0) (T := TX0) (N := 6) hx hb ht inA_X0 hown hK.1 hP 0 rfl rfl 1 (by decide) (ht _ iw_190) (fun _ h9 => h9) rfl dX0_cut_64 ?_
        refine lv_iload_n hx hb dX0_cut_67 rfl (lv_at hl 2 rfl) ?_
        refine lv_aload_n hx hb dX0_cut_68 rfl (lv_at hl 0 rfl) ?_
        refine va_get (D := D) (ci := 0) (v := .ref r) (C := RX0) (T := TX0) (N := 6) hx hb ht inA_X0 hown hK.1 hP 0 rfl rfl 0 (by decide) (ht _ iw_189) (fun _ h9 => h9) rfl dX0_cut_69 ?_
        refine lv_aload_n hx hb dX0_cut_72 rfl (lv_at hl 0 rfl) ?_
        refine lv_iload_n hx hb dX0_cut_73 rfl (lv_at hl 2 rfl) ?_
        refine ds_calli (wc := [(b, .inr (0, [.ref r, .ref w, .ref t, .int (nI k), .int (nI (bL n k)), .int (nI (bn n k))]))]) (wr := [(w, .inl (cI, 300, .inl gw)), (t, .inl (cL, 300, .inr (.inl gs))), (r, .inr (1, [.ref o, .int (nI n)])), (o, .inl (cI, 1200, .inl f))]) (wo := (fun u6 : Unit => [(b, .inr (0, [.ref r, .ref w, .ref t, .int (nI k), .int (nI (bL n k)), .int (nI (bn n k))]))])) (wn := (fun u6 : Unit => [(b, .inr (0, [.ref r, .ref w, .ref t, .int (nI k), .int (nI (bL n k)), .int (nI (bn n k))])), (w, .inl (cI, 300, .inl gw)), (t, .inl (cL, 300, .inr (.inl gs))), (r, .inr (1, [.ref o, .int (nI n)])), (o, .inl (cI, 1200, .inl f))])) (isC := [0]) (isR := [1, 2, 3, 4]) hP hD hS hA ⟨rfl, rfl, by decide, by decide, by decide⟩ [4, 0, 1, 2, 3] (by decide) (fun _ => rfl) (fun hPc hDc => va_runV (As := [.int (nI i)]) (rest := [.ref r, .int (nI i), .ref w]) ⟨hx, hb, hml, hown, ht⟩ (c_X0_start Ll D cI cL b r w t k (bL n k) (bn n k) i  H.size) ⟨(callB_of 1 ht g_X0_start rfl rfl rfl (ht _ iw_13) (ht _ iw_197) hd_X0_start ⟨Nat.le_of_ble_eq_true rfl, Nat.le_of_ble_eq_true rfl⟩), (ht _ iw_110), (ht _ iw_111)⟩ (ds_pV hPc hDc hK (q0 := 0) rfl rfl) rfl rfl hl.1 rfl (lv_room (Nat.le_of_ble_eq_true rfl)) dX0_cut_74 ⟨Nat.le_of_ble_eq_true rfl, Nat.le_of_ble_eq_true rfl⟩) (fun r5 u6 H locs hp7 hP hD hS => ?_)
        have hP : va_P D vwCl [(b, .inr (0, [.ref r, .ref w, .ref t, .int (nI k), .int (nI (bL n k)), .int (nI (bn n k))])), (w, .inl (cI, 300, .inl gw)), (t, .inl (cL, 300, .inr (.inl gs))), (r, .inr (1, [.ref o, .int (nI n)])), (o, .inl (cI, 1200, .inl f))] H := hP
        have hD : va_D A [(b, .inr (0, [.ref r, .ref w, .ref t, .int (nI k), .int (nI (bL n k)), .int (nI (bn n k))])), (w, .inl (cI, 300, .inl gw)), (t, .inl (cL, 300, .inr (.inl gs))), (r, .inr (1, [.ref o, .int (nI n)])), (o, .inl (cI, 1200, .inl f))] := hD
        have hp7 : r5 = nI (i * k) := hp7
        replace hp7 := Eq.symm hp7
        subst hp7
        refine lv_aload_n hx hb dX0_cut_77 rfl (lv_at hl 0 rfl) ?_
        refine lv_iload_n hx hb dX0_cut_78 rfl (lv_at hl 2 rfl) ?_
        refine ds_calli (wc := [(b, .inr (0, [.ref r, .ref w, .ref t, .int (nI k), .int (nI (bL n k)), .int (nI (bn n k))]))]) (wr := [(w, .inl (cI, 300, .inl gw)), (t, .inl (cL, 300, .inr (.inl gs))), (r, .inr (1, [.ref o, .int (nI n)])), (o, .inl (cI, 1200, .inl f))]) (wo := (fun u9 : Unit => [(b, .inr (0, [.ref r, .ref w, .ref t, .int (nI k), .int (nI (bL n k)), .int (nI (bn n k))]))])) (wn := (fun u9 : Unit => [(b, .inr (0, [.ref r, .ref w, .ref t, .int (nI k), .int (nI (bL n k)), .int (nI (bn n k))])), (w, .inl (cI, 300, .inl gw)), (t, .inl (cL, 300, .inr (.inl gs))), (r, .inr (1, [.ref o, .int (nI n)])), (o, .inl (cI, 1200, .inl f))])) (isC := [0]) (isR := [1, 2, 3, 4]) hP hD hS hA ⟨rfl, rfl, by decide, by decide, by decide⟩ [4, 0, 1, 2, 3] (by decide) (fun _ => rfl) (fun hPc hDc => va_runV (As := [.int (nI i)]) (rest := [.int (nI (i * k)), .ref r, .int (nI i), .ref w]) ⟨hx, hb, hml, hown, ht⟩ (c_X0_length Ll D cI cL b r w t k (bL n k) (bn n k) i (by omega) (by omega) H.size) ⟨(callB_of 1 ht g_X0_length rfl rfl rfl (ht _ iw_13) (ht _ iw_198) hd_X0_length ⟨Nat.le_of_ble_eq_true rfl, Nat.le_of_ble_eq_true rfl⟩), (ht _ iw_112), (ht _ iw_113)⟩ (ds_pV hPc hDc hK (q0 := 0) rfl rfl) rfl rfl hl.1 rfl (lv_room (Nat.le_of_ble_eq_true rfl)) dX0_cut_79 ⟨Nat.le_of_ble_eq_true rfl, Nat.le_of_ble_eq_true rfl⟩) (fun r8 u9 H locs hp10 hP hD hS => ?_)
        have hP : va_P D vwCl [(b, .inr (0, [.ref r, .ref w, .ref t, .int (nI k), .int (nI (bL n k)), .int (nI (bn n k))])), (w, .inl (cI, 300, .inl gw)), (t, .inl (cL, 300, .inr (.inl gs))), (r, .inr (1, [.ref o, .int (nI n)])), (o, .inl (cI, 1200, .inl f))] H := hP
        have hD : va_D A [(b, .inr (0, [.ref r, .ref w, .ref t, .int (nI k), .int (nI (bL n k)), .int (nI (bn n k))])), (w, .inl (cI, 300, .inl gw)), (t, .inl (cL, 300, .inr (.inl gs))), (r, .inr (1, [.ref o, .int (nI n)])), (o, .inl (cI, 1200, .inl f))] := hD
        have hp10 : r8 = nI (if i + 1 = (bn n k) then (bL n k) else k) := hp10
        replace hp10 := Eq.symm hp10
        subst hp10
        refine ds_calli (wc := [(r, .inr (1, [.ref o, .int (nI n)])), (o, .inl (cI, 1200, .inl f))]) (wr := [(b, .inr (0, [.ref r, .ref w, .ref t, .int (nI k), .int (nI (bL n k)), .int (nI (bn n k))])), (w, .inl (cI, 300, .inl gw)), (t, .inl (cL, 300, .inr (.inl gs)))]) (wo := (fun u12 : Unit => [(r, .inr (1, [.ref o, .int (nI n)])), (o, .inl (cI, 1200, .inl f))])) (wn := (fun u12 : Unit => [(b, .inr (0, [.ref r, .ref w, .ref t, .int (nI k), .int (nI (bL n k)), .int (nI (bn n k))])), (w, .inl (cI, 300, .inl gw)), (t, .inl (cL, 300, .inr (.inl gs))), (r, .inr (1, [.ref o, .int (nI n)])), (o, .inl (cI, 1200, .inl f))])) (isC := [3, 4]) (isR := [0, 1, 2]) hP hD hS hA ⟨rfl, rfl, by decide, by decide, by decide⟩ [0, 1, 2, 3, 4] (by decide) (fun _ => rfl) (fun hPc hDc => va_runVN (As := [.int (nI (i * k)), .int (nI (if i + 1 = (bn n k) then (bL n k) else k))]) (rest := [.int (nI i), .ref w]) ⟨hx, hb, hml, hown, ht⟩ (c_X1_weakSum Ll D cI cL r o n f (i * k) (if i + 1 = (bn n k) then (bL n k) else k) (by omega) H.size) ⟨(va_cnB 2 ht g_X1_weakSum rfl rfl rfl (nmu_18 hK) (ht _ iw_6) hd_X1_weakSum ⟨Nat.le_of_ble_eq_true rfl, Nat.le_of_ble_eq_true rfl⟩), (ht _ iw_53), (ht _ iw_54)⟩ (ds_pV hPc hDc hK (q0 := 0) rfl rfl) rfl rfl hl.1 rfl (lv_room (Nat.le_of_ble_eq_true rfl)) dX0_cut_82 ⟨Nat.le_of_ble_eq_true rfl, Nat.le_of_ble_eq_true rfl⟩) (fun r11 u12 H locs hp13 hP hD hS => ?_)
        have hP : va_P D vwCl [(b, .inr (0, [.ref r, .ref w, .ref t, .int (nI k), .int (nI (bL n k)), .int (nI (bn n k))])), (w, .inl (cI, 300, .inl gw)), (t, .inl (cL, 300, .inr (.inl gs))), (r, .inr (1, [.ref o, .int (nI n)])), (o, .inl (cI, 1200, .inl f))] H := hP
        have hD : va_D A [(b, .inr (0, [.ref r, .ref w, .ref t, .int (nI k), .int (nI (bL n k)), .int (nI (bn n k))])), (w, .inl (cI, 300, .inl gw)), (t, .inl (cL, 300, .inr (.inl gs))), (r, .inr (1, [.ref o, .int (nI n)])), (o, .inl (cI, 1200, .inl f))] := hD
        have hp13 : r11 = su_W f (i * k) (if i + 1 = (bn n k) then (bL n k) else k) := hp13
        replace hp13 := Eq.symm hp13
        subst hp13
        refine ds_iast (k := i) hx hb hK hP hD hS 1 rfl (by omega) (by omega) dX0_cut_85 (fun H locs hP hD hS => ?_)
        have hP : va_P D vwCl [(b, .inr (0, [.ref r, .ref w, .ref t, .int (nI k), .int (nI (bL n k)), .int (nI (bn n k))])), (w, .inl (cI, 300, .inl (upd gw i (su_W f (i * k) (if i + 1 = (bn n k) then (bL n k) else k))))), (t, .inl (cL, 300, .inr (.inl gs))), (r, .inr (1, [.ref o, .int (nI n)])), (o, .inl (cI, 1200, .inl f))] H := hP
        have hD : va_D A [(b, .inr (0, [.ref r, .ref w, .ref t, .int (nI k), .int (nI (bL n k)), .int (nI (bn n k))])), (w, .inl (cI, 300, .inl (upd gw i (su_W f (i * k) (if i + 1 = (bn n k) then (bL n k) else k))))), (t, .inl (cL, 300, .inr (.inl gs))), (r, .inr (1, [.ref o, .int (nI n)])), (o, .inl (cI, 1200, .inl f))] := hD
        refine lv_aload_n hx hb dX0_cut_86 rfl (lv_at hl 0 rfl) ?_
        refine va_get (D := D) (ci := 0) (v := .ref t) (C := RX0) (T := TX0) (N := 6) hx hb ht inA_X0 hown hK.1 hP 0 rfl rfl 2 (by decide) (ht _ iw_192) (fun _ h9 => h9) rfl dX0_cut_87 ?_
        refine lv_iload_n hx hb dX0_cut_90 rfl (lv_at hl 2 rfl) ?_
        refine lv_aload_n hx hb dX0_cut_91 rfl (lv_at hl 0 rfl) ?_
        refine va_get (D := D) (ci := 0) (v := .ref r) (C := RX0) (T := TX0) (N := 6) hx hb ht inA_X0 hown hK.1 hP 0 rfl rfl 0 (by decide) (ht _ iw_189) (fun _ h9 => h9) rfl dX0_cut_92 ?_
        refine lv_aload_n hx hb dX0_cut_95 rfl (lv_at hl 0 rfl) ?_
        refine lv_iload_n hx hb dX0_cut_96 rfl (lv_at hl 2 rfl) ?_
        refine ds_calli (wc := [(b, .inr (0, [.ref r, .ref w, .ref t, .int (nI k), .int (nI (bL n k)), .int (nI (bn n k))]))]) (wr := [(w, .inl (cI, 300, .inl (upd gw i (su_W f (i * k) (if i + 1 = (bn n k) then (bL n k) else k))))), (t, .inl (cL, 300, .inr (.inl gs))), (r, .inr (1, [.ref o, .int (nI n)])), (o, .inl (cI, 1200, .inl f))]) (wo := (fun u15 : Unit => [(b, .inr (0, [.ref r, .ref w, .ref t, .int (nI k), .int (nI (bL n k)), .int (nI (bn n k))]))])) (wn := (fun u15 : Unit => [(b, .inr (0, [.ref r, .ref w, .ref t, .int (nI k), .int (nI (bL n k)), .int (nI (bn n k))])), (w, .inl (cI, 300, .inl (upd gw i (su_W f (i * k) (if i + 1 = (bn n k) then (bL n k) else k))))), (t, .inl (cL, 300, .inr (.inl gs))), (r, .inr (1, [.ref o, .int (nI n)])), (o, .inl (cI, 1200, .inl f))])) (isC := [0]) (isR := [1, 2, 3, 4]) hP hD hS hA ⟨rfl, rfl, by decide, by decide, by decide⟩ [4, 0, 1, 2, 3] (by decide) (fun _ => rfl) (fun hPc hDc => va_runV (As := [.int (nI i)]) (rest := [.ref r, .int (nI i), .ref t]) ⟨hx, hb, hml, hown, ht⟩ (c_X0_start Ll D cI cL b r w t k (bL n k) (bn n k) i  H.size) ⟨(callB_of 1 ht g_X0_start rfl rfl rfl (ht _ iw_13) (ht _ iw_197) hd_X0_start ⟨Nat.le_of_ble_eq_true rfl, Nat.le_of_ble_eq_true rfl⟩), (ht _ iw_110), (ht _ iw_111)⟩ (ds_pV hPc hDc hK (q0 := 0) rfl rfl) rfl rfl hl.1 rfl (lv_room (Nat.le_of_ble_eq_true rfl)) dX0_cut_97 ⟨Nat.le_of_ble_eq_true rfl, Nat.le_of_ble_eq_true rfl⟩) (fun r14 u15 H locs hp16 hP hD hS => ?_)
        have hP : va_P D vwCl [(b, .inr (0, [.ref r, .ref w, .ref t, .int (nI k), .int (nI (bL n k)), .int (nI (bn n k))])), (w, .inl (cI, 300, .inl (upd gw i (su_W f (i * k) (if i + 1 = (bn n k) then (bL n k) else k))))), (t, .inl (cL, 300, .inr (.inl gs))), (r, .inr (1, [.ref o, .int (nI n)])), (o, .inl (cI, 1200, .inl f))] H := hP
        have hD : va_D A [(b, .inr (0, [.ref r, .ref w, .ref t, .int (nI k), .int (nI (bL n k)), .int (nI (bn n k))])), (w, .inl (cI, 300, .inl (upd gw i (su_W f (i * k) (if i + 1 = (bn n k) then (bL n k) else k))))), (t, .inl (cL, 300, .inr (.inl gs))), (r, .inr (1, [.ref o, .int (nI n)])), (o, .inl (cI, 1200, .inl f))] := hD
        have hp16 : r14 = nI (i * k) := hp16
        replace hp16 := Eq.symm hp16
        subst hp16
        refine lv_aload_n hx hb dX0_cut_100 rfl (lv_at hl 0 rfl) ?_
        refine lv_iload_n hx hb dX0_cut_101 rfl (lv_at hl 2 rfl) ?_
        refine ds_calli (wc := [(b, .inr (0, [.ref r, .ref w, .ref t, .int (nI k), .int (nI (bL n k)), .int (nI (bn n k))]))]) (wr := [(w, .inl (cI, 300, .inl (upd gw i (su_W f (i * k) (if i + 1 = (bn n k) then (bL n k) else k))))), (t, .inl (cL, 300, .inr (.inl gs))), (r, .inr (1, [.ref o, .int (nI n)])), (o, .inl (cI, 1200, .inl f))]) (wo := (fun u18 : Unit => [(b, .inr (0, [.ref r, .ref w, .ref t, .int (nI k), .int (nI (bL n k)), .int (nI (bn n k))]))])) (wn := (fun u18 : Unit => [(b, .inr (0, [.ref r, .ref w, .ref t, .int (nI k), .int (nI (bL n k)), .int (nI (bn n k))])), (w, .inl (cI, 300, .inl (upd gw i (su_W f (i * k) (if i + 1 = (bn n k) then (bL n k) else k))))), (t, .inl (cL, 300, .inr (.inl gs))), (r, .inr (1, [.ref o, .int (nI n)])), (o, .inl (cI, 1200, .inl f))])) (isC := [0]) (isR := [1, 2, 3, 4]) hP hD hS hA ⟨rfl, rfl, by decide, by decide, by decide⟩ [4, 0, 1, 2, 3] (by decide) (fun _ => rfl) (fun hPc hDc => va_runV (As := [.int (nI i)]) (rest := [.int (nI (i * k)), .ref r, .int (nI i), .ref t]) ⟨hx, hb, hml, hown, ht⟩ (c_X0_length Ll D cI cL b r w t k (bL n k) (bn n k) i (by omega) (by omega) H.size) ⟨(callB_of 1 ht g_X0_length rfl rfl rfl (ht _ iw_13) (ht _ iw_198) hd_X0_length ⟨Nat.le_of_ble_eq_true rfl, Nat.le_of_ble_eq_true rfl⟩), (ht _ iw_112), (ht _ iw_113)⟩ (ds_pV hPc hDc hK (q0 := 0) rfl rfl) rfl rfl hl.1 rfl (lv_room (Nat.le_of_ble_eq_true rfl)) dX0_cut_102 ⟨Nat.le_of_ble_eq_true rfl, Nat.le_of_ble_eq_true rfl⟩) (fun r17 u18 H locs hp19 hP hD hS => ?_)
        have hP : va_P D vwCl [(b, .inr (0, [.ref r, .ref w, .ref t, .int (nI k), .int (nI (bL n k)), .int (nI (bn n k))])), (w, .inl (cI, 300, .inl (upd gw i (su_W f (i * k) (if i + 1 = (bn n k) then (bL n k) else k))))), (t, .inl (cL, 300, .inr (.inl gs))), (r, .inr (1, [.ref o, .int (nI n)])), (o, .inl (cI, 1200, .inl f))] H := hP
        have hD : va_D A [(b, .inr (0, [.ref r, .ref w, .ref t, .int (nI k), .int (nI (bL n k)), .int (nI (bn n k))])), (w, .inl (cI, 300, .inl (upd gw i (su_W f (i * k) (if i + 1 = (bn n k) then (bL n k) else k))))), (t, .inl (cL, 300, .inr (.inl gs))), (r, .inr (1, [.ref o, .int (nI n)])), (o, .inl (cI, 1200, .inl f))] := hD
        have hp19 : r17 = nI (if i + 1 = (bn n k) then (bL n k) else k) := hp19
        replace hp19 := Eq.symm hp19
        subst hp19
        refine ds_calll (wc := [(r, .inr (1, [.ref o, .int (nI n)])), (o, .inl (cI, 1200, .inl f))]) (wr := [(b, .inr (0, [.ref r, .ref w, .ref t, .int (nI k), .int (nI (bL n k)), .int (nI (bn n k))])), (w, .inl (cI, 300, .inl (upd gw i (su_W f (i * k) (if i + 1 = (bn n k) then (bL n k) else k))))), (t, .inl (cL, 300, .inr (.inl gs)))]) (wo := (fun u21 : Unit => [(r, .inr (1, [.ref o, .int (nI n)])), (o, .inl (cI, 1200, .inl f))])) (wn := (fun u21 : Unit => [(b, .inr (0, [.ref r, .ref w, .ref t, .int (nI k), .int (nI (bL n k)), .int (nI (bn n k))])), (w, .inl (cI, 300, .inl (upd gw i (su_W f (i * k) (if i + 1 = (bn n k) then (bL n k) else k))))), (t, .inl (cL, 300, .inr (.inl gs))), (r, .inr (1, [.ref o, .int (nI n)])), (o, .inl (cI, 1200, .inl f))])) (isC := [3, 4]) (isR := [0, 1, 2]) hP hD hS hA ⟨rfl, rfl, by decide, by decide, by decide⟩ [0, 1, 2, 3, 4] (by decide) (fun _ => rfl) (fun hPc hDc => va_runVN (As := [.int (nI (i * k)), .int (nI (if i + 1 = (bn n k) then (bL n k) else k))]) (rest := [.int (nI i), .ref t]) ⟨hx, hb, hml, hown, ht⟩ (c_X1_strongSum Ll D cI cL r o n f (i * k) (if i + 1 = (bn n k) then (bL n k) else k) (by omega) H.size) ⟨(va_cnB 2 ht g_X1_strongSum rfl rfl rfl (nmu_19 hK) (ht _ iw_6) hd_X1_strongSum ⟨Nat.le_of_ble_eq_true rfl, Nat.le_of_ble_eq_true rfl⟩), (ht _ iw_56), (ht _ iw_57)⟩ (ds_pV hPc hDc hK (q0 := 0) rfl rfl) rfl rfl hl.1 rfl (lv_room (Nat.le_of_ble_eq_true rfl)) dX0_cut_105 ⟨Nat.le_of_ble_eq_true rfl, Nat.le_of_ble_eq_true rfl⟩) (fun r20 u21 H locs hp22 hP hD hS => ?_)
        have hP : va_P D vwCl [(b, .inr (0, [.ref r, .ref w, .ref t, .int (nI k), .int (nI (bL n k)), .int (nI (bn n k))])), (w, .inl (cI, 300, .inl (upd gw i (su_W f (i * k) (if i + 1 = (bn n k) then (bL n k) else k))))), (t, .inl (cL, 300, .inr (.inl gs))), (r, .inr (1, [.ref o, .int (nI n)])), (o, .inl (cI, 1200, .inl f))] H := hP
        have hD : va_D A [(b, .inr (0, [.ref r, .ref w, .ref t, .int (nI k), .int (nI (bL n k)), .int (nI (bn n k))])), (w, .inl (cI, 300, .inl (upd gw i (su_W f (i * k) (if i + 1 = (bn n k) then (bL n k) else k))))), (t, .inl (cL, 300, .inr (.inl gs))), (r, .inr (1, [.ref o, .int (nI n)])), (o, .inl (cI, 1200, .inl f))] := hD
        have hp22 : r20 = su_S f (i * k) (if i + 1 = (bn n k) then (bL n k) else k) := hp22
        replace hp22 := Eq.symm hp22
        subst hp22
        refine ds_last (k := i) hx hb hK hP hD hS 2 rfl (by omega) (by omega) dX0_cut_108 (fun H locs hP hD hS => ?_)
        have hP : va_P D vwCl [(b, .inr (0, [.ref r, .ref w, .ref t, .int (nI k), .int (nI (bL n k)), .int (nI (bn n k))])), (w, .inl (cI, 300, .inl (upd gw i (su_W f (i * k) (if i + 1 = (bn n k) then (bL n k) else k))))), (t, .inl (cL, 300, .inr (.inl (vp_updL gs i (su_S f (i * k) (if i + 1 = (bn n k) then (bL n k) else k)))))), (r, .inr (1, [.ref o, .int (nI n)])), (o, .inl (cI, 1200, .inl f))] H := hP
        have hD : va_D A [(b, .inr (0, [.ref r, .ref w, .ref t, .int (nI k), .int (nI (bL n k)), .int (nI (bn n k))])), (w, .inl (cI, 300, .inl (upd gw i (su_W f (i * k) (if i + 1 = (bn n k) then (bL n k) else k))))), (t, .inl (cL, 300, .inr (.inl (vp_updL gs i (su_S f (i * k) (if i + 1 = (bn n k) then (bL n k) else k)))))), (r, .inr (1, [.ref o, .int (nI n)])), (o, .inl (cI, 1200, .inl f))] := hD
        refine lv_iinc (k := 2) (v := nI (i + 1)) (lv' := [(2, .int (nI (i + 1))), (0, .ref b), (1, .int (nI k))]) hx hb dX0_cut_109 hl rfl (by rw [nI_succ]; rfl) (Nat.le_of_ble_eq_true rfl) rfl (fun ls hl => ?_)
        refine lv_goto (tgt := 55) hx hb dX0_cut_112 (by decide) ?_
        exact ih3 (i + 1) (upd gw i (su_W f (i * k) (bl n k i))) (vp_updL gs i (su_S f (i * k) (bl n k i))) H locs ls (by omega) (fun j hj => cut_s hv j hj) (by omega) hP hD hS (lv_sub hl [1, 2, 0] rfl)
  refine lv_aload_n hx hb dX0_cut_0 rfl (lv_at hl 0 rfl) ?_
  refine lv_iload_n hx hb dX0_cut_1 rfl (lv_at hl 1 rfl) ?_
  refine va_put (D := D) (ci := 0) (v := .int (nI k)) (ty := .int) (C := RX0) (T := TX0) (N := 6) hx hb ht inA_X0 tyX0 tyX0_ok nmX0 hown hK.1 hP hD hS 0 rfl rfl 3 (by decide) (ht _ iw_193) (fun _ h9 => h9) rfl (by decide +kernel) rfl rfl (Nat.le_of_ble_eq_true rfl) dX0_cut_2 (fun H locs hP hD hS => ?_)
  have hP : va_P D vwCl [(b, .inr (0, [.ref r, .ref w, .ref t, .int (nI k), .int (nI lsz), .int (nI ct)])), (w, .inl (cI, 300, .inl fw)), (t, .inl (cL, 300, .inr (.inl fs))), (r, .inr (1, [.ref o, .int (nI n)])), (o, .inl (cI, 1200, .inl f))] H := hP
  have hD : va_D A [(b, .inr (0, [.ref r, .ref w, .ref t, .int (nI k), .int (nI lsz), .int (nI ct)])), (w, .inl (cI, 300, .inl fw)), (t, .inl (cL, 300, .inr (.inl fs))), (r, .inr (1, [.ref o, .int (nI n)])), (o, .inl (cI, 1200, .inl f))] := hD
  refine lv_aload_n hx hb dX0_cut_5 rfl (lv_at hl 0 rfl) ?_
  refine lv_aload_n hx hb dX0_cut_6 rfl (lv_at hl 0 rfl) ?_
  refine va_get (D := D) (ci := 0) (v := .ref r) (C := RX0) (T := TX0) (N := 6) hx hb ht inA_X0 hown hK.1 hP 0 rfl rfl 0 (by decide) (ht _ iw_189) (fun _ h9 => h9) rfl dX0_cut_7 ?_
  refine va_getN (D := D) (ci := 1) (v := .int (nI n)) (C := RX1) (T := TX1) (N := 2) hx hb ht inA_X1 hown hK.1 hP 3 rfl rfl 1 (by decide) (nfu_10 hK) (fun _ h9 => h9) rfl dX0_cut_10 ?_
  refine lv_iload_n hx hb dX0_cut_13 rfl (lv_at hl 1 rfl) ?_
  refine ds_calli (wc := []) (wr := [(b, .inr (0, [.ref r, .ref w, .ref t, .int (nI k), .int (nI lsz), .int (nI ct)])), (w, .inl (cI, 300, .inl fw)), (t, .inl (cL, 300, .inr (.inl fs))), (r, .inr (1, [.ref o, .int (nI n)])), (o, .inl (cI, 1200, .inl f))]) (wo := (fun u24 : Unit => [])) (wn := (fun u24 : Unit => [(b, .inr (0, [.ref r, .ref w, .ref t, .int (nI k), .int (nI lsz), .int (nI ct)])), (w, .inl (cI, 300, .inl fw)), (t, .inl (cL, 300, .inr (.inl fs))), (r, .inr (1, [.ref o, .int (nI n)])), (o, .inl (cI, 1200, .inl f))])) (isC := []) (isR := [0, 1, 2, 3, 4]) hP hD hS hA ⟨rfl, rfl, by decide, by decide, by decide⟩ [0, 1, 2, 3, 4] (by decide) (fun _ => rfl) (fun hPc hDc => va_runSN (As := [.int (nI n), .int (nI k)]) (rest := [.ref b]) ⟨hx, hb, hml, hown, ht⟩ (c_X4_blockCount Ll D cI cL n k (by omega) (by omega) (by omega) H.size) ⟨(va_cnB 2 ht g_X4_blockCount rfl rfl rfl (nmu_17 hK) (ht _ iw_30) hd_X4_blockCount ⟨Nat.le_of_ble_eq_true rfl, Nat.le_of_ble_eq_true rfl⟩), (ht _ iw_62), trivial⟩ (ds_pS hPc hDc hK) rfl rfl hl.1 rfl (lv_room (Nat.le_of_ble_eq_true rfl)) dX0_cut_14 ⟨Nat.le_of_ble_eq_true rfl, Nat.le_of_ble_eq_true rfl⟩) (fun r23 u24 H locs hp25 hP hD hS => ?_)
  have hP : va_P D vwCl [(b, .inr (0, [.ref r, .ref w, .ref t, .int (nI k), .int (nI lsz), .int (nI ct)])), (w, .inl (cI, 300, .inl fw)), (t, .inl (cL, 300, .inr (.inl fs))), (r, .inr (1, [.ref o, .int (nI n)])), (o, .inl (cI, 1200, .inl f))] H := hP
  have hD : va_D A [(b, .inr (0, [.ref r, .ref w, .ref t, .int (nI k), .int (nI lsz), .int (nI ct)])), (w, .inl (cI, 300, .inl fw)), (t, .inl (cL, 300, .inr (.inl fs))), (r, .inr (1, [.ref o, .int (nI n)])), (o, .inl (cI, 1200, .inl f))] := hD
  have hp25 : r23 = nI (bn n k) := hp25
  replace hp25 := Eq.symm hp25
  subst hp25
  refine va_put (D := D) (ci := 0) (v := .int (nI (bn n k))) (ty := .int) (C := RX0) (T := TX0) (N := 6) hx hb ht inA_X0 tyX0 tyX0_ok nmX0 hown hK.1 hP hD hS 0 rfl rfl 5 (by decide) (ht _ iw_195) (fun _ h9 => h9) rfl (by decide +kernel) rfl rfl (Nat.le_of_ble_eq_true rfl) dX0_cut_17 (fun H locs hP hD hS => ?_)
  have hP : va_P D vwCl [(b, .inr (0, [.ref r, .ref w, .ref t, .int (nI k), .int (nI lsz), .int (nI (bn n k))])), (w, .inl (cI, 300, .inl fw)), (t, .inl (cL, 300, .inr (.inl fs))), (r, .inr (1, [.ref o, .int (nI n)])), (o, .inl (cI, 1200, .inl f))] H := hP
  have hD : va_D A [(b, .inr (0, [.ref r, .ref w, .ref t, .int (nI k), .int (nI lsz), .int (nI (bn n k))])), (w, .inl (cI, 300, .inl fw)), (t, .inl (cL, 300, .inr (.inl fs))), (r, .inr (1, [.ref o, .int (nI n)])), (o, .inl (cI, 1200, .inl f))] := hD
  refine lv_aload_n hx hb dX0_cut_20 rfl (lv_at hl 0 rfl) ?_
  refine lv_aload_n hx hb dX0_cut_21 rfl (lv_at hl 0 rfl) ?_
  refine va_get (D := D) (ci := 0) (v := .int (nI (bn n k))) (C := RX0) (T := TX0) (N := 6) hx hb ht inA_X0 hown hK.1 hP 0 rfl rfl 5 (by decide) (ht _ iw_195) (fun _ h9 => h9) rfl dX0_cut_22 ?_
  refine lv_if_ne (tgt := 32) hx hb dX0_cut_25 (by decide) (fun h => ?_) (fun h => ?_)
  ·
    rw [← nI_0] at h
    have h : ¬ (bn n k) = 0 := fun z9 => h ((nI_eq (a := (bn n k)) (b := 0) (by omega) (by omega)).mpr z9)
    refine lv_aload_n hx hb dX0_cut_32 rfl (lv_at hl 0 rfl) ?_
    refine va_get (D := D) (ci := 0) (v := .ref r) (C := RX0) (T := TX0) (N := 6) hx hb ht inA_X0 hown hK.1 hP 0 rfl rfl 0 (by decide) (ht _ iw_189) (fun _ h9 => h9) rfl dX0_cut_33 ?_
    refine va_getN (D := D) (ci := 1) (v := .int (nI n)) (C := RX1) (T := TX1) (N := 2) hx hb ht inA_X1 hown hK.1 hP 3 rfl rfl 1 (by decide) (nfu_10 hK) (fun _ h9 => h9) rfl dX0_cut_36 ?_
    refine lv_aload_n hx hb dX0_cut_39 rfl (lv_at hl 0 rfl) ?_
    refine lv_aload_n hx hb dX0_cut_40 rfl (lv_at hl 0 rfl) ?_
    refine va_get (D := D) (ci := 0) (v := .int (nI (bn n k))) (C := RX0) (T := TX0) (N := 6) hx hb ht inA_X0 hown hK.1 hP 0 rfl rfl 5 (by decide) (ht _ iw_195) (fun _ h9 => h9) rfl dX0_cut_41 ?_
    refine lv_iconst (v := nI 1) hx hb dX0_cut_44 (by decide +kernel) ?_
    refine lv_isub hx hb dX0_cut_45 ?_
    refine ds_top (z := nI (bn n k - 1)) (pk_sub (by omega)) ?_
    refine ds_calli (wc := [(b, .inr (0, [.ref r, .ref w, .ref t, .int (nI k), .int (nI lsz), .int (nI (bn n k))]))]) (wr := [(w, .inl (cI, 300, .inl fw)), (t, .inl (cL, 300, .inr (.inl fs))), (r, .inr (1, [.ref o, .int (nI n)])), (o, .inl (cI, 1200, .inl f))]) (wo := (fun u27 : Unit => [(b, .inr (0, [.ref r, .ref w, .ref t, .int (nI k), .int (nI lsz), .int (nI (bn n k))]))])) (wn := (fun u27 : Unit => [(b, .inr (0, [.ref r, .ref w, .ref t, .int (nI k), .int (nI lsz), .int (nI (bn n k))])), (w, .inl (cI, 300, .inl fw)), (t, .inl (cL, 300, .inr (.inl fs))), (r, .inr (1, [.ref o, .int (nI n)])), (o, .inl (cI, 1200, .inl f))])) (isC := [0]) (isR := [1, 2, 3, 4]) hP hD hS hA ⟨rfl, rfl, by decide, by decide, by decide⟩ [4, 0, 1, 2, 3] (by decide) (fun _ => rfl) (fun hPc hDc => va_runV (As := [.int (nI (bn n k - 1))]) (rest := [.int (nI n), .ref b]) ⟨hx, hb, hml, hown, ht⟩ (c_X0_start Ll D cI cL b r w t k lsz (bn n k) (bn n k - 1)  H.size) ⟨(callB_of 1 ht g_X0_start rfl rfl rfl (ht _ iw_13) (ht _ iw_197) hd_X0_start ⟨Nat.le_of_ble_eq_true rfl, Nat.le_of_ble_eq_true rfl⟩), (ht _ iw_110), (ht _ iw_111)⟩ (ds_pV hPc hDc hK (q0 := 0) rfl rfl) rfl rfl hl.1 rfl (lv_room (Nat.le_of_ble_eq_true rfl)) dX0_cut_46 ⟨Nat.le_of_ble_eq_true rfl, Nat.le_of_ble_eq_true rfl⟩) (fun r26 u27 H locs hp28 hP hD hS => ?_)
    have hP : va_P D vwCl [(b, .inr (0, [.ref r, .ref w, .ref t, .int (nI k), .int (nI lsz), .int (nI (bn n k))])), (w, .inl (cI, 300, .inl fw)), (t, .inl (cL, 300, .inr (.inl fs))), (r, .inr (1, [.ref o, .int (nI n)])), (o, .inl (cI, 1200, .inl f))] H := hP
    have hD : va_D A [(b, .inr (0, [.ref r, .ref w, .ref t, .int (nI k), .int (nI lsz), .int (nI (bn n k))])), (w, .inl (cI, 300, .inl fw)), (t, .inl (cL, 300, .inr (.inl fs))), (r, .inr (1, [.ref o, .int (nI n)])), (o, .inl (cI, 1200, .inl f))] := hD
    have hp28 : r26 = nI ((bn n k - 1) * k) := hp28
    replace hp28 := Eq.symm hp28
    subst hp28
    refine lv_isub hx hb dX0_cut_49 ?_
    refine ds_top (z := nI (bL n k)) (by rw [pk_sub (Nat.le_of_lt (bn_lt (by omega) (by omega))), bL, if_neg h]) ?_
    refine va_put (D := D) (ci := 0) (v := .int (nI (bL n k))) (ty := .int) (C := RX0) (T := TX0) (N := 6) hx hb ht inA_X0 tyX0 tyX0_ok nmX0 hown hK.1 hP hD hS 0 rfl rfl 4 (by decide) (ht _ iw_194) (fun _ h9 => h9) rfl (by decide +kernel) rfl rfl (Nat.le_of_ble_eq_true rfl) dX0_cut_50 (fun H locs hP hD hS => ?_)
    have hP : va_P D vwCl [(b, .inr (0, [.ref r, .ref w, .ref t, .int (nI k), .int (nI (bL n k)), .int (nI (bn n k))])), (w, .inl (cI, 300, .inl fw)), (t, .inl (cL, 300, .inr (.inl fs))), (r, .inr (1, [.ref o, .int (nI n)])), (o, .inl (cI, 1200, .inl f))] H := hP
    have hD : va_D A [(b, .inr (0, [.ref r, .ref w, .ref t, .int (nI k), .int (nI (bL n k)), .int (nI (bn n k))])), (w, .inl (cI, 300, .inl fw)), (t, .inl (cL, 300, .inr (.inl fs))), (r, .inr (1, [.ref o, .int (nI n)])), (o, .inl (cI, 1200, .inl f))] := hD
    refine lv_iconst (v := nI 0) hx hb dX0_cut_53 (by decide +kernel) ?_
    refine lv_istore_n (lv' := [(2, .int (nI 0)), (0, .ref b), (1, .int (nI k))]) hx hb dX0_cut_54 rfl hl (Nat.le_of_ble_eq_true rfl) rfl (fun ls hl => ?_)
    exact loop1 _ 0 fw fs H locs ls (Nat.zero_le _) (fun j hj => absurd hj (Nat.not_lt_zero _)) (Nat.lt_succ_self _) hP hD hS (lv_sub hl [1, 2, 0] rfl)
  ·
    rw [← nI_0] at h
    have h : (bn n k) = 0 := (nI_eq (a := (bn n k)) (b := 0) (by omega) (by omega)).mp h
    refine lv_iconst (v := nI 0) hx hb dX0_cut_28 (by decide +kernel) ?_
    refine lv_goto (tgt := 50) hx hb dX0_cut_29 (by decide) ?_
    refine ds_top (z := nI (bL n k)) (by rw [bL, if_pos h]) ?_
    refine va_put (D := D) (ci := 0) (v := .int (nI (bL n k))) (ty := .int) (C := RX0) (T := TX0) (N := 6) hx hb ht inA_X0 tyX0 tyX0_ok nmX0 hown hK.1 hP hD hS 0 rfl rfl 4 (by decide) (ht _ iw_194) (fun _ h9 => h9) rfl (by decide +kernel) rfl rfl (Nat.le_of_ble_eq_true rfl) dX0_cut_50 (fun H locs hP hD hS => ?_)
    have hP : va_P D vwCl [(b, .inr (0, [.ref r, .ref w, .ref t, .int (nI k), .int (nI (bL n k)), .int (nI (bn n k))])), (w, .inl (cI, 300, .inl fw)), (t, .inl (cL, 300, .inr (.inl fs))), (r, .inr (1, [.ref o, .int (nI n)])), (o, .inl (cI, 1200, .inl f))] H := hP
    have hD : va_D A [(b, .inr (0, [.ref r, .ref w, .ref t, .int (nI k), .int (nI (bL n k)), .int (nI (bn n k))])), (w, .inl (cI, 300, .inl fw)), (t, .inl (cL, 300, .inr (.inl fs))), (r, .inr (1, [.ref o, .int (nI n)])), (o, .inl (cI, 1200, .inl f))] := hD
    refine lv_iconst (v := nI 0) hx hb dX0_cut_53 (by decide +kernel) ?_
    refine lv_istore_n (lv' := [(2, .int (nI 0)), (0, .ref b), (1, .int (nI k))]) hx hb dX0_cut_54 rfl hl (Nat.le_of_ble_eq_true rfl) rfl (fun ls hl => ?_)
    exact loop1 _ 0 fw fs H locs ls (Nat.zero_le _) (fun j hj => absurd hj (Nat.not_lt_zero _)) (Nat.lt_succ_self _) hP hD hS (lv_sub hl [1, 2, 0] rfl)
end
section
set_option maxHeartbeats 4000000 in
set_option maxRecDepth 100000 in
theorem c_X3_init (Ll : Launch) (D : va_G) (cI cL : ClassId) (w : Nat) (r : Nat) (sz : Nat) : Met Ll yX3_init wsX3_init { frames := 1, cells := 0, slots := 0, locals := 20 } (ds_P D cI cL [.ref w, .ref r] [(w, .inr (3, [.null, .int 0, .int 0, .int 0, .int 0, .int 0, .int 0, .long 0, .int 0]))] sz) (ds_Qv D (fun (u : Unit) => True) (fun u : Unit => [(w, .inr (3, [.ref r, .int (nI 0), .int (-1), .int 0, .int 0, .int 0, .int 0, .long 0, .int 0]))]) (va_A [(w, .inr (3, [.null, .int 0, .int 0, .int 0, .int 0, .int 0, .int 0, .long 0, .int 0]))] sz)) 0 0 (va_A [(w, .inr (3, [.null, .int 0, .int 0, .int 0, .int 0, .int 0, .int 0, .long 0, .int 0]))] sz) := by
  refine ds_enter (Qf := (fun A9 => ds_Qv D (fun (u : Unit) => True) (fun u : Unit => [(w, .inr (3, [.ref r, .int (nI 0), .int (-1), .int 0, .int 0, .int 0, .int 0, .long 0, .int 0]))]) A9)) (cc := cX3_init) (maxL := 2) (ret := none) (by decide) rfl (Nat.le_of_ble_eq_true rfl) ?_
  intro Pp Ee Ss Mm Aa Bb Me Cc hx hb hml hr ht hown hlk hnm A H locs hA hP hD hS hK ls hl
  have hl : lv_has ls 2 [(0, .ref w), (1, .ref r)] := hl
  change Ss.vm.findClass RX3 = some Mm.cls at hown
  refine lv_aload_n hx hb dX3_init_0 rfl (lv_at hl 0 rfl) ?_
  refine W.objInit hx hb hown (ht _ iw_231) (ht _ iw_2) (ht _ iw_3) rfl (by rw [hml]; exact hl.1) rfl dX3_init_1 (Nat.le_of_ble_eq_true rfl) (Nat.le_of_ble_eq_true rfl) ?_
  refine W.eq (g2 := F0 Mm 4 ls []) rfl ?_
  refine lv_aload_n hx hb dX3_init_4 rfl (lv_at hl 0 rfl) ?_
  refine lv_aload_n hx hb dX3_init_5 rfl (lv_at hl 1 rfl) ?_
  refine va_putF (D := D) (ci := 3) (v := .ref r) (ty := (.object "DeltaDesk$Row")) (C := RX3) (T := TX3) (N := 9) hx hb ht inA_X3 tyX3 tyX3_ok nmX3 hown hK.1 hP hD hS 0 rfl rfl 0 (by decide) (ht _ iw_232) (fun _ h9 => h9) rfl hnm rfl (by decide +kernel) rfl rfl (Nat.le_of_ble_eq_true rfl) dX3_init_6 (fun H locs hP hD hS => ?_)
  have hP : va_P D vwCl [(w, .inr (3, [.ref r, .int 0, .int 0, .int 0, .int 0, .int 0, .int 0, .long 0, .int 0]))] H := hP
  have hD : va_D A [(w, .inr (3, [.ref r, .int 0, .int 0, .int 0, .int 0, .int 0, .int 0, .long 0, .int 0]))] := hD
  refine lv_aload_n hx hb dX3_init_9 rfl (lv_at hl 0 rfl) ?_
  refine lv_iconst (v := nI 0) hx hb dX3_init_10 (by decide +kernel) ?_
  refine va_put (D := D) (ci := 3) (v := .int (nI 0)) (ty := .int) (C := RX3) (T := TX3) (N := 9) hx hb ht inA_X3 tyX3 tyX3_ok nmX3 hown hK.1 hP hD hS 0 rfl rfl 1 (by decide) (ht _ iw_233) (fun _ h9 => h9) rfl (by decide +kernel) rfl rfl (Nat.le_of_ble_eq_true rfl) dX3_init_11 (fun H locs hP hD hS => ?_)
  have hP : va_P D vwCl [(w, .inr (3, [.ref r, .int (nI 0), .int 0, .int 0, .int 0, .int 0, .int 0, .long 0, .int 0]))] H := hP
  have hD : va_D A [(w, .inr (3, [.ref r, .int (nI 0), .int 0, .int 0, .int 0, .int 0, .int 0, .long 0, .int 0]))] := hD
  refine lv_aload_n hx hb dX3_init_14 rfl (lv_at hl 0 rfl) ?_
  refine lv_iconst (v := -1) hx hb dX3_init_15 (by decide +kernel) ?_
  refine va_put (D := D) (ci := 3) (v := .int (-1)) (ty := .int) (C := RX3) (T := TX3) (N := 9) hx hb ht inA_X3 tyX3 tyX3_ok nmX3 hown hK.1 hP hD hS 0 rfl rfl 2 (by decide) (ht _ iw_234) (fun _ h9 => h9) rfl (by decide +kernel) rfl rfl (Nat.le_of_ble_eq_true rfl) dX3_init_16 (fun H locs hP hD hS => ?_)
  have hP : va_P D vwCl [(w, .inr (3, [.ref r, .int (nI 0), .int (-1), .int 0, .int 0, .int 0, .int 0, .long 0, .int 0]))] H := hP
  have hD : va_D A [(w, .inr (3, [.ref r, .int (nI 0), .int (-1), .int 0, .int 0, .int 0, .int 0, .long 0, .int 0]))] := hD
  refine lv_aload_n hx hb dX3_init_19 rfl (lv_at hl 0 rfl) ?_
  refine lv_iconst (v := nI 0) hx hb dX3_init_20 (by decide +kernel) ?_
  refine va_put (D := D) (ci := 3) (v := .int (nI 0)) (ty := .boolean) (C := RX3) (T := TX3) (N := 9) hx hb ht inA_X3 tyX3 tyX3_ok nmX3 hown hK.1 hP hD hS 0 rfl rfl 3 (by decide) (ht _ iw_235) (fun _ h9 => h9) rfl (by decide +kernel) (by decide +kernel) (by decide +kernel) (Nat.le_of_ble_eq_true rfl) dX3_init_21 (fun H locs hP hD hS => ?_)
  have hP : va_P D vwCl [(w, .inr (3, [.ref r, .int (nI 0), .int (-1), .int (nI 0), .int 0, .int 0, .int 0, .long 0, .int 0]))] H := hP
  have hD : va_D A [(w, .inr (3, [.ref r, .int (nI 0), .int (-1), .int (nI 0), .int 0, .int 0, .int 0, .long 0, .int 0]))] := hD
  refine lv_aload_n hx hb dX3_init_24 rfl (lv_at hl 0 rfl) ?_
  refine lv_iconst (v := nI 0) hx hb dX3_init_25 (by decide +kernel) ?_
  refine va_put (D := D) (ci := 3) (v := .int (nI 0)) (ty := .boolean) (C := RX3) (T := TX3) (N := 9) hx hb ht inA_X3 tyX3 tyX3_ok nmX3 hown hK.1 hP hD hS 0 rfl rfl 8 (by decide) (ht _ iw_236) (fun _ h9 => h9) rfl (by decide +kernel) (by decide +kernel) (by decide +kernel) (Nat.le_of_ble_eq_true rfl) dX3_init_26 (fun H locs hP hD hS => ?_)
  have hP : va_P D vwCl [(w, .inr (3, [.ref r, .int (nI 0), .int (-1), .int (nI 0), .int 0, .int 0, .int 0, .long 0, .int (nI 0)]))] H := hP
  have hD : va_D A [(w, .inr (3, [.ref r, .int (nI 0), .int (-1), .int (nI 0), .int 0, .int 0, .int 0, .long 0, .int (nI 0)]))] := hD
  exact ds_vret hx hb hr hlk () trivial hP hD hS (Nat.le_of_ble_eq_true rfl) (Nat.le_of_ble_eq_true rfl) dX3_init_29
set_option maxHeartbeats 4000000 in
set_option maxRecDepth 100000 in
theorem c_X3_open (Ll : Launch) (D : va_G) (cI cL : ClassId) (w : Nat) (r : Nat) (z : Nat) (pl : Int32) (ins : Int32) (a : Int32) (b : Int32) (wk : Int32) (st : Int64) (ks : Int32) (k : Nat) (sz : Nat) : Met Ll yX3_open wsX3_open { frames := 0, cells := 0, slots := 0, locals := 0 } (ds_P D cI cL [.ref w, .int (nI k)] [(w, .inr (3, [.ref r, .int (nI z), .int pl, .int ins, .int a, .int b, .int wk, .long st, .int ks]))] sz) (ds_Qv D (fun (u : Unit) => True) (fun u : Unit => [(w, .inr (3, [.ref r, .int (nI k), .int (-1), .int 0, .int a, .int b, .int wk, .long st, .int 0]))]) (va_A [(w, .inr (3, [.ref r, .int (nI z), .int pl, .int ins, .int a, .int b, .int wk, .long st, .int ks]))] sz)) 0 0 (va_A [(w, .inr (3, [.ref r, .int (nI z), .int pl, .int ins, .int a, .int b, .int wk, .long st, .int ks]))] sz) := by
  refine ds_enter (Qf := (fun A9 => ds_Qv D (fun (u : Unit) => True) (fun u : Unit => [(w, .inr (3, [.ref r, .int (nI k), .int (-1), .int 0, .int a, .int b, .int wk, .long st, .int 0]))]) A9)) (cc := cX3_open) (maxL := 2) (ret := none) (by decide) rfl (Nat.le_of_ble_eq_true rfl) ?_
  intro Pp Ee Ss Mm Aa Bb Me Cc hx hb hml hr ht hown hlk hnm A H locs hA hP hD hS hK ls hl
  have hl : lv_has ls 2 [(0, .ref w), (1, .int (nI k))] := hl
  change Ss.vm.findClass RX3 = some Mm.cls at hown
  refine lv_aload_n hx hb dX3_open_0 rfl (lv_at hl 0 rfl) ?_
  refine lv_iload_n hx hb dX3_open_1 rfl (lv_at hl 1 rfl) ?_
  refine va_put (D := D) (ci := 3) (v := .int (nI k)) (ty := .int) (C := RX3) (T := TX3) (N := 9) hx hb ht inA_X3 tyX3 tyX3_ok nmX3 hown hK.1 hP hD hS 0 rfl rfl 1 (by decide) (ht _ iw_233) (fun _ h9 => h9) rfl (by decide +kernel) rfl rfl (Nat.le_of_ble_eq_true rfl) dX3_open_2 (fun H locs hP hD hS => ?_)
  have hP : va_P D vwCl [(w, .inr (3, [.ref r, .int (nI k), .int pl, .int ins, .int a, .int b, .int wk, .long st, .int ks]))] H := hP
  have hD : va_D A [(w, .inr (3, [.ref r, .int (nI k), .int pl, .int ins, .int a, .int b, .int wk, .long st, .int ks]))] := hD
  refine lv_aload_n hx hb dX3_open_5 rfl (lv_at hl 0 rfl) ?_
  refine lv_iconst (v := -1) hx hb dX3_open_6 (by decide +kernel) ?_
  refine va_put (D := D) (ci := 3) (v := .int (-1)) (ty := .int) (C := RX3) (T := TX3) (N := 9) hx hb ht inA_X3 tyX3 tyX3_ok nmX3 hown hK.1 hP hD hS 0 rfl rfl 2 (by decide) (ht _ iw_234) (fun _ h9 => h9) rfl (by decide +kernel) rfl rfl (Nat.le_of_ble_eq_true rfl) dX3_open_7 (fun H locs hP hD hS => ?_)
  have hP : va_P D vwCl [(w, .inr (3, [.ref r, .int (nI k), .int (-1), .int ins, .int a, .int b, .int wk, .long st, .int ks]))] H := hP
  have hD : va_D A [(w, .inr (3, [.ref r, .int (nI k), .int (-1), .int ins, .int a, .int b, .int wk, .long st, .int ks]))] := hD
  refine lv_aload_n hx hb dX3_open_10 rfl (lv_at hl 0 rfl) ?_
  refine lv_iconst (v := nI 0) hx hb dX3_open_11 (by decide +kernel) ?_
  refine va_put (D := D) (ci := 3) (v := .int (nI 0)) (ty := .boolean) (C := RX3) (T := TX3) (N := 9) hx hb ht inA_X3 tyX3 tyX3_ok nmX3 hown hK.1 hP hD hS 0 rfl rfl 3 (by decide) (ht _ iw_235) (fun _ h9 => h9) rfl (by decide +kernel) (by decide +kernel) (by decide +kernel) (Nat.le_of_ble_eq_true rfl) dX3_open_12 (fun H locs hP hD hS => ?_)
  have hP : va_P D vwCl [(w, .inr (3, [.ref r, .int (nI k), .int (-1), .int (nI 0), .int a, .int b, .int wk, .long st, .int ks]))] H := hP
  have hD : va_D A [(w, .inr (3, [.ref r, .int (nI k), .int (-1), .int (nI 0), .int a, .int b, .int wk, .long st, .int ks]))] := hD
  refine lv_aload_n hx hb dX3_open_15 rfl (lv_at hl 0 rfl) ?_
  refine lv_iconst (v := nI 0) hx hb dX3_open_16 (by decide +kernel) ?_
  refine va_put (D := D) (ci := 3) (v := .int (nI 0)) (ty := .boolean) (C := RX3) (T := TX3) (N := 9) hx hb ht inA_X3 tyX3 tyX3_ok nmX3 hown hK.1 hP hD hS 0 rfl rfl 8 (by decide) (ht _ iw_236) (fun _ h9 => h9) rfl (by decide +kernel) (by decide +kernel) (by decide +kernel) (Nat.le_of_ble_eq_true rfl) dX3_open_17 (fun H locs hP hD hS => ?_)
  have hP : va_P D vwCl [(w, .inr (3, [.ref r, .int (nI k), .int (-1), .int (nI 0), .int a, .int b, .int wk, .long st, .int (nI 0)]))] H := hP
  have hD : va_D A [(w, .inr (3, [.ref r, .int (nI k), .int (-1), .int (nI 0), .int a, .int b, .int wk, .long st, .int (nI 0)]))] := hD
  exact ds_vret hx hb hr hlk () trivial hP hD hS (Nat.le_of_ble_eq_true rfl) (Nat.le_of_ble_eq_true rfl) dX3_open_20
end
section
set_option maxHeartbeats 4000000 in
set_option maxRecDepth 100000 in
theorem c_X3_sumAfresh (Ll : Launch) (D : va_G) (cI cL : ClassId) (w : Nat) (r : Nat) (z : Nat) (pl : Int32) (ins : Int32) (a : Int32) (b : Int32) (wk : Int32) (st : Int64) (ks : Int32) (o : Nat) (n : Nat) (f : Nat → Int32) (q : Nat) (h1 : q + z ≤ 1200) (sz : Nat) : Met Ll yX3_sumAfresh wsX3_sumAfresh { frames := 0, cells := 0, slots := 0, locals := 0 } (ds_P D cI cL [.ref w, .int (nI q)] [(w, .inr (3, [.ref r, .int (nI z), .int pl, .int ins, .int a, .int b, .int wk, .long st, .int ks])), (r, .inr (1, [.ref o, .int (nI n)])), (o, .inl (cI, 1200, .inl f))] sz) (ds_Qv D (fun (u : Unit) => True) (fun u : Unit => [(w, .inr (3, [.ref r, .int (nI z), .int pl, .int ins, .int (su_A f q z), .int (su_B f q z), .int wk, .long st, .int ks])), (r, .inr (1, [.ref o, .int (nI n)])), (o, .inl (cI, 1200, .inl f))]) (va_A [(w, .inr (3, [.ref r, .int (nI z), .int pl, .int ins, .int a, .int b, .int wk, .long st, .int ks])), (r, .inr (1, [.ref o, .int (nI n)])), (o, .inl (cI, 1200, .inl f))] sz)) 0 0 (va_A [(w, .inr (3, [.ref r, .int (nI z), .int pl, .int ins, .int a, .int b, .int wk, .long st, .int ks])), (r, .inr (1, [.ref o, .int (nI n)])), (o, .inl (cI, 1200, .inl f))] sz) := by
  refine ds_enter (Qf := (fun A9 => ds_Qv D (fun (u : Unit) => True) (fun u : Unit => [(w, .inr (3, [.ref r, .int (nI z), .int pl, .int ins, .int (su_A f q z), .int (su_B f q z), .int wk, .long st, .int ks])), (r, .inr (1, [.ref o, .int (nI n)])), (o, .inl (cI, 1200, .inl f))]) A9)) (cc := cX3_sumAfresh) (maxL := 3) (ret := none) (by decide) rfl (Nat.le_of_ble_eq_true rfl) ?_
  intro Pp Ee Ss Mm Aa Bb Me Cc hx hb hml hr ht hown hlk hnm A H locs hA hP hD hS hK ls hl
  have hl : lv_has ls 3 [(0, .ref w), (1, .int (nI q))] := hl
  change Ss.vm.findClass RX3 = some Mm.cls at hown
  refine lv_aload_n hx hb dX3_sumAfresh_0 rfl (lv_at hl 0 rfl) ?_
  refine lv_iconst (v := nI 0) hx hb dX3_sumAfresh_1 (by decide +kernel) ?_
  refine va_put (D := D) (ci := 3) (v := .int (nI 0)) (ty := .int) (C := RX3) (T := TX3) (N := 9) hx hb ht inA_X3 tyX3 tyX3_ok nmX3 hown hK.1 hP hD hS 0 rfl rfl 4 (by decide) (ht _ iw_245) (fun _ h9 => h9) rfl (by decide +kernel) rfl rfl (Nat.le_of_ble_eq_true rfl) dX3_sumAfresh_2 (fun H locs hP hD hS => ?_)
  have hP : va_P D vwCl [(w, .inr (3, [.ref r, .int (nI z), .int pl, .int ins, .int (nI 0), .int b, .int wk, .long st, .int ks])), (r, .inr (1, [.ref o, .int (nI n)])), (o, .inl (cI, 1200, .inl f))] H := hP
  have hD : va_D A [(w, .inr (3, [.ref r, .int (nI z), .int pl, .int ins, .int (nI 0), .int b, .int wk, .long st, .int ks])), (r, .inr (1, [.ref o, .int (nI n)])), (o, .inl (cI, 1200, .inl f))] := hD
  refine lv_aload_n hx hb dX3_sumAfresh_5 rfl (lv_at hl 0 rfl) ?_
  refine lv_iconst (v := nI 0) hx hb dX3_sumAfresh_6 (by decide +kernel) ?_
  refine va_put (D := D) (ci := 3) (v := .int (nI 0)) (ty := .int) (C := RX3) (T := TX3) (N := 9) hx hb ht inA_X3 tyX3 tyX3_ok nmX3 hown hK.1 hP hD hS 0 rfl rfl 5 (by decide) (ht _ iw_246) (fun _ h9 => h9) rfl (by decide +kernel) rfl rfl (Nat.le_of_ble_eq_true rfl) dX3_sumAfresh_7 (fun H locs hP hD hS => ?_)
  have hP : va_P D vwCl [(w, .inr (3, [.ref r, .int (nI z), .int pl, .int ins, .int (nI 0), .int (nI 0), .int wk, .long st, .int ks])), (r, .inr (1, [.ref o, .int (nI n)])), (o, .inl (cI, 1200, .inl f))] H := hP
  have hD : va_D A [(w, .inr (3, [.ref r, .int (nI z), .int pl, .int ins, .int (nI 0), .int (nI 0), .int wk, .long st, .int ks])), (r, .inr (1, [.ref o, .int (nI n)])), (o, .inl (cI, 1200, .inl f))] := hD
  refine lv_iconst (v := nI 0) hx hb dX3_sumAfresh_10 (by decide +kernel) ?_
  refine lv_istore_n (lv' := [(2, .int (nI 0)), (0, .ref w), (1, .int (nI q))]) hx hb dX3_sumAfresh_11 rfl hl (Nat.le_of_ble_eq_true rfl) rfl (fun ls hl => ?_)
  have loop1 : ∀ (k2 : Nat) (i : Nat) (H : Heap) (locs : List Loc) (ls : Array Slot), (i ≤ z) → z - i < k2 → va_P D vwCl [(w, .inr (3, [.ref r, .int (nI z), .int pl, .int ins, .int (su_A f q i), .int (su_B f q i), .int wk, .long st, .int ks])), (r, .inr (1, [.ref o, .int (nI n)])), (o, .inl (cI, 1200, .inl f))] H → va_D A [(w, .inr (3, [.ref r, .int (nI z), .int pl, .int ins, .int (su_A f q i), .int (su_B f q i), .int wk, .long st, .int ks])), (r, .inr (1, [.ref o, .int (nI n)])), (o, .inl (cI, 1200, .inl f))] → va_S A Ss.heap H locs → lv_has ls 3 [(0, .ref w), (1, .int (nI q)), (2, .int (nI i))] → W Pp Ll Ee { frames := 0, cells := 0, slots := 0, locals := 0 } Ss Mm Aa Bb Me Cc H locs 0 0 (MQ Bb (ds_Qv D (fun (u : Unit) => True) (fun u : Unit => [(w, .inr (3, [.ref r, .int (nI z), .int pl, .int ins, .int (su_A f q z), .int (su_B f q z), .int wk, .long st, .int ks])), (r, .inr (1, [.ref o, .int (nI n)])), (o, .inl (cI, 1200, .inl f))]) A) Aa Ss 0 0 A) (F0 Mm 12 ls []) := by
    intro k2
    induction k2 with
    | zero => intro i H locs ls hi hm4; exact absurd hm4 (Nat.not_lt_zero _)
    | succ k2 ih3 =>
      intro i H locs ls hi hm4 hP hD hS hl
      refine lv_iload_n hx hb dX3_sumAfresh_12 rfl (lv_at hl 2 rfl) ?_
      refine lv_aload_n hx hb dX3_sumAfresh_13 rfl (lv_at hl 0 rfl) ?_
      refine va_get (D := D) (ci := 3) (v := .int (nI z)) (C := RX3) (T := TX3) (N := 9) hx hb ht inA_X3 hown hK.1 hP 0 rfl rfl 1 (by decide) (ht _ iw_233) (fun _ h9 => h9) rfl dX3_sumAfresh_14 ?_
      refine lv_icmp_ge (tgt := 59) hx hb dX3_sumAfresh_17 (by decide) (fun h => ?_) (fun h => ?_)
      ·
        have h : z ≤ i := (nI_leI (a := z) (b := i) (by omega) (by omega)).mp h
        have e9 : z = i := (by omega)
        subst e9
        exact ds_vret hx hb hr hlk () trivial hP hD hS (Nat.le_of_ble_eq_true rfl) (Nat.le_of_ble_eq_true rfl) dX3_sumAfresh_59
      ·
        have h : ¬ z ≤ i := fun z9 => h ((nI_leI (a := z) (b := i) (by omega) (by omega)).mpr z9)
        refine lv_aload_n hx hb dX3_sumAfresh_20 rfl (lv_at hl 0 rfl) ?_
        refine lv_dup hx hb dX3_sumAfresh_21 rfl ?_
        refine va_get (D := D) (ci := 3) (v := .int (su_A f q i)) (C := RX3) (T := TX3) (N := 9) hx hb ht inA_X3 hown hK.1 hP 0 rfl rfl 4 (by decide) (ht _ iw_245) (fun _ h9 => h9) rfl dX3_sumAfresh_22 ?_
        refine lv_aload_n hx hb dX3_sumAfresh_25 rfl (lv_at hl 0 rfl) ?_
        refine va_get (D := D) (ci := 3) (v := .ref r) (C := RX3) (T := TX3) (N := 9) hx hb ht inA_X3 hown hK.1 hP 0 rfl rfl 0 (by decide) (ht _ iw_232) (fun _ h9 => h9) rfl dX3_sumAfresh_26 ?_
        refine va_getN (D := D) (ci := 1) (v := .ref o) (C := RX1) (T := TX1) (N := 2) hx hb ht inA_X1 hown hK.1 hP 1 rfl rfl 0 (by decide) (nfu_12 hK) (fun _ h9 => h9) rfl dX3_sumAfresh_29 ?_
        refine lv_iload_n hx hb dX3_sumAfresh_32 rfl (lv_at hl 1 rfl) ?_
        refine lv_iload_n hx hb dX3_sumAfresh_33 rfl (lv_at hl 2 rfl) ?_
        refine lv_iadd hx hb dX3_sumAfresh_34 ?_
        refine ds_top (z := nI (q + i)) (nI_add _ _) ?_
        refine ds_iald (k := q + i) hx hb hK hP 2 rfl (by omega) (by omega) dX3_sumAfresh_35 ?_
        refine lv_iadd hx hb dX3_sumAfresh_36 ?_
        refine va_put (D := D) (ci := 3) (v := .int ((su_A f q i) + (f (q + i)))) (ty := .int) (C := RX3) (T := TX3) (N := 9) hx hb ht inA_X3 tyX3 tyX3_ok nmX3 hown hK.1 hP hD hS 0 rfl rfl 4 (by decide) (ht _ iw_245) (fun _ h9 => h9) rfl (by decide +kernel) rfl rfl (Nat.le_of_ble_eq_true rfl) dX3_sumAfresh_37 (fun H locs hP hD hS => ?_)
        have hP : va_P D vwCl [(w, .inr (3, [.ref r, .int (nI z), .int pl, .int ins, .int ((su_A f q i) + (f (q + i))), .int (su_B f q i), .int wk, .long st, .int ks])), (r, .inr (1, [.ref o, .int (nI n)])), (o, .inl (cI, 1200, .inl f))] H := hP
        have hD : va_D A [(w, .inr (3, [.ref r, .int (nI z), .int pl, .int ins, .int ((su_A f q i) + (f (q + i))), .int (su_B f q i), .int wk, .long st, .int ks])), (r, .inr (1, [.ref o, .int (nI n)])), (o, .inl (cI, 1200, .inl f))] := hD
        refine lv_aload_n hx hb dX3_sumAfresh_40 rfl (lv_at hl 0 rfl) ?_
        refine lv_dup hx hb dX3_sumAfresh_41 rfl ?_
        refine va_get (D := D) (ci := 3) (v := .int (su_B f q i)) (C := RX3) (T := TX3) (N := 9) hx hb ht inA_X3 hown hK.1 hP 0 rfl rfl 5 (by decide) (ht _ iw_246) (fun _ h9 => h9) rfl dX3_sumAfresh_42 ?_
        refine lv_aload_n hx hb dX3_sumAfresh_45 rfl (lv_at hl 0 rfl) ?_
        refine va_get (D := D) (ci := 3) (v := .int ((su_A f q i) + (f (q + i)))) (C := RX3) (T := TX3) (N := 9) hx hb ht inA_X3 hown hK.1 hP 0 rfl rfl 4 (by decide) (ht _ iw_245) (fun _ h9 => h9) rfl dX3_sumAfresh_46 ?_
        refine lv_iadd hx hb dX3_sumAfresh_49 ?_
        refine va_put (D := D) (ci := 3) (v := .int ((su_B f q i) + ((su_A f q i) + (f (q + i))))) (ty := .int) (C := RX3) (T := TX3) (N := 9) hx hb ht inA_X3 tyX3 tyX3_ok nmX3 hown hK.1 hP hD hS 0 rfl rfl 5 (by decide) (ht _ iw_246) (fun _ h9 => h9) rfl (by decide +kernel) rfl rfl (Nat.le_of_ble_eq_true rfl) dX3_sumAfresh_50 (fun H locs hP hD hS => ?_)
        have hP : va_P D vwCl [(w, .inr (3, [.ref r, .int (nI z), .int pl, .int ins, .int ((su_A f q i) + (f (q + i))), .int ((su_B f q i) + ((su_A f q i) + (f (q + i)))), .int wk, .long st, .int ks])), (r, .inr (1, [.ref o, .int (nI n)])), (o, .inl (cI, 1200, .inl f))] H := hP
        have hD : va_D A [(w, .inr (3, [.ref r, .int (nI z), .int pl, .int ins, .int ((su_A f q i) + (f (q + i))), .int ((su_B f q i) + ((su_A f q i) + (f (q + i)))), .int wk, .long st, .int ks])), (r, .inr (1, [.ref o, .int (nI n)])), (o, .inl (cI, 1200, .inl f))] := hD
        refine lv_iinc (k := 2) (v := nI (i + 1)) (lv' := [(2, .int (nI (i + 1))), (0, .ref w), (1, .int (nI q))]) hx hb dX3_sumAfresh_53 hl rfl (by rw [nI_succ]; rfl) (Nat.le_of_ble_eq_true rfl) rfl (fun ls hl => ?_)
        refine lv_goto (tgt := 12) hx hb dX3_sumAfresh_56 (by decide) ?_
        exact ih3 (i + 1) H locs ls (by omega) (by omega) hP hD hS (lv_sub hl [1, 2, 0] rfl)
  exact loop1 _ 0 H locs ls (Nat.zero_le _) (Nat.lt_succ_self _) hP hD hS (lv_sub hl [1, 2, 0] rfl)
end
section
set_option maxHeartbeats 4000000 in
set_option maxRecDepth 100000 in
theorem c_X3_roll (Ll : Launch) (D : va_G) (cI cL : ClassId) (w : Nat) (r : Nat) (z : Nat) (q : Nat) (ins : Int32) (wk : Int32) (st : Int64) (ks : Int32) (o : Nat) (n : Nat) (f : Nat → Int32) (h1 : q + z < 1200) (sz : Nat) : Met Ll yX3_roll wsX3_roll { frames := 0, cells := 0, slots := 0, locals := 0 } (ds_P D cI cL [.ref w] [(w, .inr (3, [.ref r, .int (nI z), .int (nI q), .int ins, .int (su_A f q z), .int (su_B f q z), .int wk, .long st, .int ks])), (r, .inr (1, [.ref o, .int (nI n)])), (o, .inl (cI, 1200, .inl f))] sz) (ds_Qv D (fun (u : Unit) => True) (fun u : Unit => [(w, .inr (3, [.ref r, .int (nI z), .int (nI q), .int ins, .int (su_A f (q + 1) z), .int (su_B f (q + 1) z), .int wk, .long st, .int ks])), (r, .inr (1, [.ref o, .int (nI n)])), (o, .inl (cI, 1200, .inl f))]) (va_A [(w, .inr (3, [.ref r, .int (nI z), .int (nI q), .int ins, .int (su_A f q z), .int (su_B f q z), .int wk, .long st, .int ks])), (r, .inr (1, [.ref o, .int (nI n)])), (o, .inl (cI, 1200, .inl f))] sz)) 0 0 (va_A [(w, .inr (3, [.ref r, .int (nI z), .int (nI q), .int ins, .int (su_A f q z), .int (su_B f q z), .int wk, .long st, .int ks])), (r, .inr (1, [.ref o, .int (nI n)])), (o, .inl (cI, 1200, .inl f))] sz) := by
  refine ds_enter (Qf := (fun A9 => ds_Qv D (fun (u : Unit) => True) (fun u : Unit => [(w, .inr (3, [.ref r, .int (nI z), .int (nI q), .int ins, .int (su_A f (q + 1) z), .int (su_B f (q + 1) z), .int wk, .long st, .int ks])), (r, .inr (1, [.ref o, .int (nI n)])), (o, .inl (cI, 1200, .inl f))]) A9)) (cc := cX3_roll) (maxL := 3) (ret := none) (by decide) rfl (Nat.le_of_ble_eq_true rfl) ?_
  intro Pp Ee Ss Mm Aa Bb Me Cc hx hb hml hr ht hown hlk hnm A H locs hA hP hD hS hK ls hl
  have hl : lv_has ls 3 [(0, .ref w)] := hl
  change Ss.vm.findClass RX3 = some Mm.cls at hown
  refine lv_aload_n hx hb dX3_roll_0 rfl (lv_at hl 0 rfl) ?_
  refine va_get (D := D) (ci := 3) (v := .ref r) (C := RX3) (T := TX3) (N := 9) hx hb ht inA_X3 hown hK.1 hP 0 rfl rfl 0 (by decide) (ht _ iw_232) (fun _ h9 => h9) rfl dX3_roll_1 ?_
  refine va_getN (D := D) (ci := 1) (v := .ref o) (C := RX1) (T := TX1) (N := 2) hx hb ht inA_X1 hown hK.1 hP 1 rfl rfl 0 (by decide) (nfu_12 hK) (fun _ h9 => h9) rfl dX3_roll_4 ?_
  refine lv_aload_n hx hb dX3_roll_7 rfl (lv_at hl 0 rfl) ?_
  refine va_get (D := D) (ci := 3) (v := .int (nI q)) (C := RX3) (T := TX3) (N := 9) hx hb ht inA_X3 hown hK.1 hP 0 rfl rfl 2 (by decide) (ht _ iw_234) (fun _ h9 => h9) rfl dX3_roll_8 ?_
  refine ds_iald (k := q) hx hb hK hP 2 rfl (by omega) (by omega) dX3_roll_11 ?_
  refine lv_istore_n (lv' := [(1, .int (f q)), (0, .ref w)]) hx hb dX3_roll_12 rfl hl (Nat.le_of_ble_eq_true rfl) rfl (fun ls hl => ?_)
  refine lv_aload_n hx hb dX3_roll_13 rfl (lv_at hl 1 rfl) ?_
  refine va_get (D := D) (ci := 3) (v := .ref r) (C := RX3) (T := TX3) (N := 9) hx hb ht inA_X3 hown hK.1 hP 0 rfl rfl 0 (by decide) (ht _ iw_232) (fun _ h9 => h9) rfl dX3_roll_14 ?_
  refine va_getN (D := D) (ci := 1) (v := .ref o) (C := RX1) (T := TX1) (N := 2) hx hb ht inA_X1 hown hK.1 hP 1 rfl rfl 0 (by decide) (nfu_12 hK) (fun _ h9 => h9) rfl dX3_roll_17 ?_
  refine lv_aload_n hx hb dX3_roll_20 rfl (lv_at hl 1 rfl) ?_
  refine va_get (D := D) (ci := 3) (v := .int (nI q)) (C := RX3) (T := TX3) (N := 9) hx hb ht inA_X3 hown hK.1 hP 0 rfl rfl 2 (by decide) (ht _ iw_234) (fun _ h9 => h9) rfl dX3_roll_21 ?_
  refine lv_aload_n hx hb dX3_roll_24 rfl (lv_at hl 1 rfl) ?_
  refine va_get (D := D) (ci := 3) (v := .int (nI z)) (C := RX3) (T := TX3) (N := 9) hx hb ht inA_X3 hown hK.1 hP 0 rfl rfl 1 (by decide) (ht _ iw_233) (fun _ h9 => h9) rfl dX3_roll_25 ?_
  refine lv_iadd hx hb dX3_roll_28 ?_
  refine ds_top (z := nI (q + z)) (nI_add _ _) ?_
  refine ds_iald (k := q + z) hx hb hK hP 2 rfl (by omega) (by omega) dX3_roll_29 ?_
  refine lv_istore_n (lv' := [(2, .int (f (q + z))), (1, .int (f q)), (0, .ref w)]) hx hb dX3_roll_30 rfl hl (Nat.le_of_ble_eq_true rfl) rfl (fun ls hl => ?_)
  refine lv_aload_n hx hb dX3_roll_31 rfl (lv_at hl 2 rfl) ?_
  refine lv_dup hx hb dX3_roll_32 rfl ?_
  refine va_get (D := D) (ci := 3) (v := .int (su_A f q z)) (C := RX3) (T := TX3) (N := 9) hx hb ht inA_X3 hown hK.1 hP 0 rfl rfl 4 (by decide) (ht _ iw_245) (fun _ h9 => h9) rfl dX3_roll_33 ?_
  refine lv_iload_n hx hb dX3_roll_36 rfl (lv_at hl 0 rfl) ?_
  refine lv_iload_n hx hb dX3_roll_37 rfl (lv_at hl 1 rfl) ?_
  refine lv_isub hx hb dX3_roll_38 ?_
  refine lv_iadd hx hb dX3_roll_39 ?_
  refine va_put (D := D) (ci := 3) (v := .int ((su_A f q z) + ((f (q + z)) - (f q)))) (ty := .int) (C := RX3) (T := TX3) (N := 9) hx hb ht inA_X3 tyX3 tyX3_ok nmX3 hown hK.1 hP hD hS 0 rfl rfl 4 (by decide) (ht _ iw_245) (fun _ h9 => h9) rfl (by decide +kernel) rfl rfl (Nat.le_of_ble_eq_true rfl) dX3_roll_40 (fun H locs hP hD hS => ?_)
  have hP : va_P D vwCl [(w, .inr (3, [.ref r, .int (nI z), .int (nI q), .int ins, .int ((su_A f q z) + ((f (q + z)) - (f q))), .int (su_B f q z), .int wk, .long st, .int ks])), (r, .inr (1, [.ref o, .int (nI n)])), (o, .inl (cI, 1200, .inl f))] H := hP
  have hD : va_D A [(w, .inr (3, [.ref r, .int (nI z), .int (nI q), .int ins, .int ((su_A f q z) + ((f (q + z)) - (f q))), .int (su_B f q z), .int wk, .long st, .int ks])), (r, .inr (1, [.ref o, .int (nI n)])), (o, .inl (cI, 1200, .inl f))] := hD
  refine lv_aload_n hx hb dX3_roll_43 rfl (lv_at hl 2 rfl) ?_
  refine lv_dup hx hb dX3_roll_44 rfl ?_
  refine va_get (D := D) (ci := 3) (v := .int (su_B f q z)) (C := RX3) (T := TX3) (N := 9) hx hb ht inA_X3 hown hK.1 hP 0 rfl rfl 5 (by decide) (ht _ iw_246) (fun _ h9 => h9) rfl dX3_roll_45 ?_
  refine lv_aload_n hx hb dX3_roll_48 rfl (lv_at hl 2 rfl) ?_
  refine va_get (D := D) (ci := 3) (v := .int ((su_A f q z) + ((f (q + z)) - (f q)))) (C := RX3) (T := TX3) (N := 9) hx hb ht inA_X3 hown hK.1 hP 0 rfl rfl 4 (by decide) (ht _ iw_245) (fun _ h9 => h9) rfl dX3_roll_49 ?_
  refine lv_aload_n hx hb dX3_roll_52 rfl (lv_at hl 2 rfl) ?_
  refine va_get (D := D) (ci := 3) (v := .int (nI z)) (C := RX3) (T := TX3) (N := 9) hx hb ht inA_X3 hown hK.1 hP 0 rfl rfl 1 (by decide) (ht _ iw_233) (fun _ h9 => h9) rfl dX3_roll_53 ?_
  refine lv_iload_n hx hb dX3_roll_56 rfl (lv_at hl 1 rfl) ?_
  refine lv_imul hx hb dX3_roll_57 ?_
  refine lv_isub hx hb dX3_roll_58 ?_
  refine lv_iadd hx hb dX3_roll_59 ?_
  refine va_put (D := D) (ci := 3) (v := .int ((su_B f q z) + (((su_A f q z) + ((f (q + z)) - (f q))) - ((nI z) * (f q))))) (ty := .int) (C := RX3) (T := TX3) (N := 9) hx hb ht inA_X3 tyX3 tyX3_ok nmX3 hown hK.1 hP hD hS 0 rfl rfl 5 (by decide) (ht _ iw_246) (fun _ h9 => h9) rfl (by decide +kernel) rfl rfl (Nat.le_of_ble_eq_true rfl) dX3_roll_60 (fun H locs hP hD hS => ?_)
  have hP : va_P D vwCl [(w, .inr (3, [.ref r, .int (nI z), .int (nI q), .int ins, .int ((su_A f q z) + ((f (q + z)) - (f q))), .int ((su_B f q z) + (((su_A f q z) + ((f (q + z)) - (f q))) - ((nI z) * (f q)))), .int wk, .long st, .int ks])), (r, .inr (1, [.ref o, .int (nI n)])), (o, .inl (cI, 1200, .inl f))] H := hP
  have hD : va_D A [(w, .inr (3, [.ref r, .int (nI z), .int (nI q), .int ins, .int ((su_A f q z) + ((f (q + z)) - (f q))), .int ((su_B f q z) + (((su_A f q z) + ((f (q + z)) - (f q))) - ((nI z) * (f q)))), .int wk, .long st, .int ks])), (r, .inr (1, [.ref o, .int (nI n)])), (o, .inl (cI, 1200, .inl f))] := hD
  have hP : va_P D vwCl [(w, .inr (3, [.ref r, .int (nI z), .int (nI q), .int ins, .int (su_A f (q + 1) z), .int (su_B f (q + 1) z), .int wk, .long st, .int ks])), (r, .inr (1, [.ref o, .int (nI n)])), (o, .inl (cI, 1200, .inl f))] H := by rw [su_B_roll, su_A_roll]; exact hP
  have hD : va_D A [(w, .inr (3, [.ref r, .int (nI z), .int (nI q), .int ins, .int (su_A f (q + 1) z), .int (su_B f (q + 1) z), .int wk, .long st, .int ks])), (r, .inr (1, [.ref o, .int (nI n)])), (o, .inl (cI, 1200, .inl f))] := by rw [su_B_roll, su_A_roll]; exact hD
  exact ds_vret hx hb hr hlk () trivial hP hD hS (Nat.le_of_ble_eq_true rfl) (Nat.le_of_ble_eq_true rfl) dX3_roll_63
set_option maxHeartbeats 4000000 in
set_option maxRecDepth 100000 in
theorem c_X3_strongSumHere (Ll : Launch) (D : va_G) (cI cL : ClassId) (w : Nat) (r : Nat) (z : Nat) (q : Nat) (ins : Int32) (a : Int32) (b : Int32) (wk : Int32) (st : Int64) (ks : Int32) (o : Nat) (n : Nat) (f : Nat → Int32) (h1 : q + z ≤ 1200) (hk : dw_S f z q ks st) (sz : Nat) : Met Ll yX3_strongSumHere wsX3_strongSumHere { frames := 1, cells := 0, slots := 0, locals := 25 } (ds_P D cI cL [.ref w] [(w, .inr (3, [.ref r, .int (nI z), .int (nI q), .int ins, .int a, .int b, .int wk, .long st, .int ks])), (r, .inr (1, [.ref o, .int (nI n)])), (o, .inl (cI, 1200, .inl f))] sz) (ds_Ql D (fun (r : Int64) (u : Unit) => r = su_S f q z) (fun u : Unit => [(w, .inr (3, [.ref r, .int (nI z), .int (nI q), .int ins, .int a, .int b, .int wk, .long (su_S f q z), .int 1])), (r, .inr (1, [.ref o, .int (nI n)])), (o, .inl (cI, 1200, .inl f))]) (va_A [(w, .inr (3, [.ref r, .int (nI z), .int (nI q), .int ins, .int a, .int b, .int wk, .long st, .int ks])), (r, .inr (1, [.ref o, .int (nI n)])), (o, .inl (cI, 1200, .inl f))] sz)) 0 0 (va_A [(w, .inr (3, [.ref r, .int (nI z), .int (nI q), .int ins, .int a, .int b, .int wk, .long st, .int ks])), (r, .inr (1, [.ref o, .int (nI n)])), (o, .inl (cI, 1200, .inl f))] sz) := by
  refine ds_enter (Qf := (fun A9 => ds_Ql D (fun (r : Int64) (u : Unit) => r = su_S f q z) (fun u : Unit => [(w, .inr (3, [.ref r, .int (nI z), .int (nI q), .int ins, .int a, .int b, .int wk, .long (su_S f q z), .int 1])), (r, .inr (1, [.ref o, .int (nI n)])), (o, .inl (cI, 1200, .inl f))]) A9)) (cc := cX3_strongSumHere) (maxL := 1) (ret := (some .long)) (by decide) rfl (Nat.le_of_ble_eq_true rfl) ?_
  intro Pp Ee Ss Mm Aa Bb Me Cc hx hb hml hr ht hown hlk hnm A H locs hA hP hD hS hK ls hl
  have hl : lv_has ls 1 [(0, .ref w)] := hl
  change Ss.vm.findClass RX3 = some Mm.cls at hown
  by_cases hk0 : ks = 0
  ·
    subst hk0
    refine lv_aload_n hx hb dX3_strongSumHere_0 rfl (lv_at hl 0 rfl) ?_
    refine va_get (D := D) (ci := 3) (v := .int 0) (C := RX3) (T := TX3) (N := 9) hx hb ht inA_X3 hown hK.1 hP 0 rfl rfl 8 (by decide) (ht _ iw_236) (fun _ h9 => h9) rfl dX3_strongSumHere_1 ?_
    refine lv_if_ne (tgt := 31) hx hb dX3_strongSumHere_4 (by decide) (fun h => ?_) (fun h => ?_)
    ·
      exact absurd rfl h
    ·
      refine lv_aload_n hx hb dX3_strongSumHere_7 rfl (lv_at hl 0 rfl) ?_
      refine lv_aload_n hx hb dX3_strongSumHere_8 rfl (lv_at hl 0 rfl) ?_
      refine va_get (D := D) (ci := 3) (v := .ref r) (C := RX3) (T := TX3) (N := 9) hx hb ht inA_X3 hown hK.1 hP 0 rfl rfl 0 (by decide) (ht _ iw_232) (fun _ h9 => h9) rfl dX3_strongSumHere_9 ?_
      refine lv_aload_n hx hb dX3_strongSumHere_12 rfl (lv_at hl 0 rfl) ?_
      refine va_get (D := D) (ci := 3) (v := .int (nI q)) (C := RX3) (T := TX3) (N := 9) hx hb ht inA_X3 hown hK.1 hP 0 rfl rfl 2 (by decide) (ht _ iw_234) (fun _ h9 => h9) rfl dX3_strongSumHere_13 ?_
      refine lv_aload_n hx hb dX3_strongSumHere_16 rfl (lv_at hl 0 rfl) ?_
      refine va_get (D := D) (ci := 3) (v := .int (nI z)) (C := RX3) (T := TX3) (N := 9) hx hb ht inA_X3 hown hK.1 hP 0 rfl rfl 1 (by decide) (ht _ iw_233) (fun _ h9 => h9) rfl dX3_strongSumHere_17 ?_
      refine ds_calll (wc := [(r, .inr (1, [.ref o, .int (nI n)])), (o, .inl (cI, 1200, .inl f))]) (wr := [(w, .inr (3, [.ref r, .int (nI z), .int (nI q), .int ins, .int a, .int b, .int wk, .long st, .int 0]))]) (wo := (fun u2 : Unit => [(r, .inr (1, [.ref o, .int (nI n)])), (o, .inl (cI, 1200, .inl f))])) (wn := (fun u2 : Unit => [(w, .inr (3, [.ref r, .int (nI z), .int (nI q), .int ins, .int a, .int b, .int wk, .long st, .int 0])), (r, .inr (1, [.ref o, .int (nI n)])), (o, .inl (cI, 1200, .inl f))])) (isC := [1, 2]) (isR := [0]) hP hD hS hA ⟨rfl, rfl, by decide, by decide, by decide⟩ [0, 1, 2] (by decide) (fun _ => rfl) (fun hPc hDc => va_runVN (As := [.int (nI q), .int (nI z)]) (rest := [.ref w]) ⟨hx, hb, hml, hown, ht⟩ (c_X1_strongSum Ll D cI cL r o n f q z (by omega) H.size) ⟨(va_cnB 2 ht g_X1_strongSum rfl rfl rfl (nmu_21 hK) (ht _ iw_6) hd_X1_strongSum ⟨Nat.le_of_ble_eq_true rfl, Nat.le_of_ble_eq_true rfl⟩), (ht _ iw_56), (ht _ iw_57)⟩ (ds_pV hPc hDc hK (q0 := 0) rfl rfl) rfl rfl hl.1 rfl (lv_room (Nat.le_of_ble_eq_true rfl)) dX3_strongSumHere_20 ⟨Nat.le_of_ble_eq_true rfl, Nat.le_of_ble_eq_true rfl⟩) (fun r1 u2 H locs hp3 hP hD hS => ?_)
      have hP : va_P D vwCl [(w, .inr (3, [.ref r, .int (nI z), .int (nI q), .int ins, .int a, .int b, .int wk, .long st, .int 0])), (r, .inr (1, [.ref o, .int (nI n)])), (o, .inl (cI, 1200, .inl f))] H := hP
      have hD : va_D A [(w, .inr (3, [.ref r, .int (nI z), .int (nI q), .int ins, .int a, .int b, .int wk, .long st, .int 0])), (r, .inr (1, [.ref o, .int (nI n)])), (o, .inl (cI, 1200, .inl f))] := hD
      have hp3 : r1 = su_S f q z := hp3
      replace hp3 := Eq.symm hp3
      subst hp3
      refine va_put (D := D) (ci := 3) (v := .long (su_S f q z)) (ty := .long) (C := RX3) (T := TX3) (N := 9) hx hb ht inA_X3 tyX3 tyX3_ok nmX3 hown hK.1 hP hD hS 0 rfl rfl 7 (by decide) (ht _ iw_255) (fun _ h9 => h9) rfl (by decide +kernel) rfl rfl (Nat.le_of_ble_eq_true rfl) dX3_strongSumHere_23 (fun H locs hP hD hS => ?_)
      have hP : va_P D vwCl [(w, .inr (3, [.ref r, .int (nI z), .int (nI q), .int ins, .int a, .int b, .int wk, .long (su_S f q z), .int 0])), (r, .inr (1, [.ref o, .int (nI n)])), (o, .inl (cI, 1200, .inl f))] H := hP
      have hD : va_D A [(w, .inr (3, [.ref r, .int (nI z), .int (nI q), .int ins, .int a, .int b, .int wk, .long (su_S f q z), .int 0])), (r, .inr (1, [.ref o, .int (nI n)])), (o, .inl (cI, 1200, .inl f))] := hD
      refine lv_aload_n hx hb dX3_strongSumHere_26 rfl (lv_at hl 0 rfl) ?_
      refine lv_iconst (v := nI 1) hx hb dX3_strongSumHere_27 (by decide +kernel) ?_
      refine va_put (D := D) (ci := 3) (v := .int (nI 1)) (ty := .boolean) (C := RX3) (T := TX3) (N := 9) hx hb ht inA_X3 tyX3 tyX3_ok nmX3 hown hK.1 hP hD hS 0 rfl rfl 8 (by decide) (ht _ iw_236) (fun _ h9 => h9) rfl (by decide +kernel) (by decide +kernel) (by decide +kernel) (Nat.le_of_ble_eq_true rfl) dX3_strongSumHere_28 (fun H locs hP hD hS => ?_)
      have hP : va_P D vwCl [(w, .inr (3, [.ref r, .int (nI z), .int (nI q), .int ins, .int a, .int b, .int wk, .long (su_S f q z), .int (nI 1)])), (r, .inr (1, [.ref o, .int (nI n)])), (o, .inl (cI, 1200, .inl f))] H := hP
      have hD : va_D A [(w, .inr (3, [.ref r, .int (nI z), .int (nI q), .int ins, .int a, .int b, .int wk, .long (su_S f q z), .int (nI 1)])), (r, .inr (1, [.ref o, .int (nI n)])), (o, .inl (cI, 1200, .inl f))] := hD
      refine lv_aload_n hx hb dX3_strongSumHere_31 rfl (lv_at hl 0 rfl) ?_
      refine va_get (D := D) (ci := 3) (v := .long (su_S f q z)) (C := RX3) (T := TX3) (N := 9) hx hb ht inA_X3 hown hK.1 hP 0 rfl rfl 7 (by decide) (ht _ iw_255) (fun _ h9 => h9) rfl dX3_strongSumHere_32 ?_
      exact ds_lret hx hb hr hlk () rfl hP hD hS (Nat.le_of_ble_eq_true rfl) (Nat.le_of_ble_eq_true rfl) dX3_strongSumHere_35
  ·
    have hk1 := hk.resolve_left hk0
    obtain ⟨e1, e2⟩ := hk1
    subst e1 e2
    refine lv_aload_n hx hb dX3_strongSumHere_0 rfl (lv_at hl 0 rfl) ?_
    refine va_get (D := D) (ci := 3) (v := .int 1) (C := RX3) (T := TX3) (N := 9) hx hb ht inA_X3 hown hK.1 hP 0 rfl rfl 8 (by decide) (ht _ iw_236) (fun _ h9 => h9) rfl dX3_strongSumHere_1 ?_
    refine lv_if_ne (tgt := 31) hx hb dX3_strongSumHere_4 (by decide) (fun h => ?_) (fun h => ?_)
    ·
      refine lv_aload_n hx hb dX3_strongSumHere_31 rfl (lv_at hl 0 rfl) ?_
      refine va_get (D := D) (ci := 3) (v := .long (su_S f q z)) (C := RX3) (T := TX3) (N := 9) hx hb ht inA_X3 hown hK.1 hP 0 rfl rfl 7 (by decide) (ht _ iw_255) (fun _ h9 => h9) rfl dX3_strongSumHere_32 ?_
      exact ds_lret hx hb hr hlk () rfl hP hD hS (Nat.le_of_ble_eq_true rfl) (Nat.le_of_ble_eq_true rfl) dX3_strongSumHere_35
    ·
      exact absurd h (by decide)
end
section
set_option maxHeartbeats 4000000 in
set_option maxRecDepth 100000 in
theorem c_X3_moveTo (Ll : Launch) (D : va_G) (cI cL : ClassId) (w : Nat) (r : Nat) (z : Nat) (pl : Int32) (ins : Int32) (a : Int32) (b : Int32) (wk : Int32) (st : Int64) (ks : Int32) (o : Nat) (n : Nat) (f : Nat → Int32) (q : Nat) (h1 : z ≤ 1200) (h2 : n ≤ 1200) (h3 : q < 2 ^ 31) (hi : dw_I f n z ins pl a b) (sz : Nat) : Met Ll yX3_moveTo wsX3_moveTo { frames := 1, cells := 0, slots := 0, locals := 22 } (ds_P D cI cL [.ref w, .int (nI q)] [(w, .inr (3, [.ref r, .int (nI z), .int pl, .int ins, .int a, .int b, .int wk, .long st, .int ks])), (r, .inr (1, [.ref o, .int (nI n)])), (o, .inl (cI, 1200, .inl f))] sz) (ds_Qv D (fun (u : Int32 × Int32 × Int32 × Int32) => (q + z ≤ n ∧ u.1 = 1 ∧ u.2.1 = su_A f q z ∧ u.2.2.1 = su_B f q z ∧ u.2.2.2 = su_W f q z) ∨ (n < q + z ∧ u.1 = 0)) (fun u : Int32 × Int32 × Int32 × Int32 => [(w, .inr (3, [.ref r, .int (nI z), .int (nI q), .int u.1, .int u.2.1, .int u.2.2.1, .int u.2.2.2, .long st, .int 0])), (r, .inr (1, [.ref o, .int (nI n)])), (o, .inl (cI, 1200, .inl f))]) (va_A [(w, .inr (3, [.ref r, .int (nI z), .int pl, .int ins, .int a, .int b, .int wk, .long st, .int ks])), (r, .inr (1, [.ref o, .int (nI n)])), (o, .inl (cI, 1200, .inl f))] sz)) 0 0 (va_A [(w, .inr (3, [.ref r, .int (nI z), .int pl, .int ins, .int a, .int b, .int wk, .long st, .int ks])), (r, .inr (1, [.ref o, .int (nI n)])), (o, .inl (cI, 1200, .inl f))] sz) := by
  refine ds_enter (Qf := (fun A9 => ds_Qv D (fun (u : Int32 × Int32 × Int32 × Int32) => (q + z ≤ n ∧ u.1 = 1 ∧ u.2.1 = su_A f q z ∧ u.2.2.1 = su_B f q z ∧ u.2.2.2 = su_W f q z) ∨ (n < q + z ∧ u.1 = 0)) (fun u : Int32 × Int32 × Int32 × Int32 => [(w, .inr (3, [.ref r, .int (nI z), .int (nI q), .int u.1, .int u.2.1, .int u.2.2.1, .int u.2.2.2, .long st, .int 0])), (r, .inr (1, [.ref o, .int (nI n)])), (o, .inl (cI, 1200, .inl f))]) A9)) (cc := cX3_moveTo) (maxL := 3) (ret := none) (by decide) rfl (Nat.le_of_ble_eq_true rfl) ?_
  intro Pp Ee Ss Mm Aa Bb Me Cc hx hb hml hr ht hown hlk hnm A H locs hA hP hD hS hK ls hl
  have hl : lv_has ls 3 [(0, .ref w), (1, .int (nI q))] := hl
  change Ss.vm.findClass RX3 = some Mm.cls at hown
  by_cases hi0 : ins = 0
  ·
    subst hi0
    refine lv_aload_n hx hb dX3_moveTo_0 rfl (lv_at hl 0 rfl) ?_
    refine va_get (D := D) (ci := 3) (v := .int 0) (C := RX3) (T := TX3) (N := 9) hx hb ht inA_X3 hown hK.1 hP 0 rfl rfl 3 (by decide) (ht _ iw_235) (fun _ h9 => h9) rfl dX3_moveTo_1 ?_
    refine lv_if_eq (tgt := 21) hx hb dX3_moveTo_4 (by decide) (fun h => ?_) (fun h => ?_)
    ·
      refine lv_iconst (v := nI 0) hx hb dX3_moveTo_21 (by decide +kernel) ?_
      refine lv_istore_n (lv' := [(2, .int (nI 0)), (0, .ref w), (1, .int (nI q))]) hx hb dX3_moveTo_22 rfl hl (Nat.le_of_ble_eq_true rfl) rfl (fun ls hl => ?_)
      refine lv_aload_n hx hb dX3_moveTo_23 rfl (lv_at hl 1 rfl) ?_
      refine lv_iload_n hx hb dX3_moveTo_24 rfl (lv_at hl 2 rfl) ?_
      refine lv_aload_n hx hb dX3_moveTo_25 rfl (lv_at hl 1 rfl) ?_
      refine va_get (D := D) (ci := 3) (v := .ref r) (C := RX3) (T := TX3) (N := 9) hx hb ht inA_X3 hown hK.1 hP 0 rfl rfl 0 (by decide) (ht _ iw_232) (fun _ h9 => h9) rfl dX3_moveTo_26 ?_
      refine va_getN (D := D) (ci := 1) (v := .int (nI n)) (C := RX1) (T := TX1) (N := 2) hx hb ht inA_X1 hown hK.1 hP 1 rfl rfl 1 (by decide) (nfu_11 hK) (fun _ h9 => h9) rfl dX3_moveTo_29 ?_
      refine lv_aload_n hx hb dX3_moveTo_32 rfl (lv_at hl 1 rfl) ?_
      refine va_get (D := D) (ci := 3) (v := .int (nI z)) (C := RX3) (T := TX3) (N := 9) hx hb ht inA_X3 hown hK.1 hP 0 rfl rfl 1 (by decide) (ht _ iw_233) (fun _ h9 => h9) rfl dX3_moveTo_33 ?_
      refine lv_isub hx hb dX3_moveTo_36 ?_
      by_cases hc : q + z ≤ n
      ·
        refine lv_icmp_gt (tgt := 44) hx hb dX3_moveTo_37 (by decide) (fun h => ?_) (fun h => ?_)
        ·
          exact absurd ((ds_sublt (by omega) (by omega) (by omega)).mp h) (by omega)
        ·
          refine lv_iconst (v := nI 1) hx hb dX3_moveTo_40 (by decide +kernel) ?_
          refine lv_goto (tgt := 45) hx hb dX3_moveTo_41 (by decide) ?_
          refine va_put (D := D) (ci := 3) (v := .int (nI 1)) (ty := .boolean) (C := RX3) (T := TX3) (N := 9) hx hb ht inA_X3 tyX3 tyX3_ok nmX3 hown hK.1 hP hD hS 0 rfl rfl 3 (by decide) (ht _ iw_235) (fun _ h9 => h9) rfl (by decide +kernel) (by decide +kernel) (by decide +kernel) (Nat.le_of_ble_eq_true rfl) dX3_moveTo_45 (fun H locs hP hD hS => ?_)
          have hP : va_P D vwCl [(w, .inr (3, [.ref r, .int (nI z), .int pl, .int (nI 1), .int a, .int b, .int wk, .long st, .int ks])), (r, .inr (1, [.ref o, .int (nI n)])), (o, .inl (cI, 1200, .inl f))] H := hP
          have hD : va_D A [(w, .inr (3, [.ref r, .int (nI z), .int pl, .int (nI 1), .int a, .int b, .int wk, .long st, .int ks])), (r, .inr (1, [.ref o, .int (nI n)])), (o, .inl (cI, 1200, .inl f))] := hD
          refine lv_aload_n hx hb dX3_moveTo_48 rfl (lv_at hl 1 rfl) ?_
          refine va_get (D := D) (ci := 3) (v := .int (nI 1)) (C := RX3) (T := TX3) (N := 9) hx hb ht inA_X3 hown hK.1 hP 0 rfl rfl 3 (by decide) (ht _ iw_235) (fun _ h9 => h9) rfl dX3_moveTo_49 ?_
          refine lv_if_eq (tgt := 66) hx hb dX3_moveTo_52 (by decide) (fun h => ?_) (fun h => ?_)
          ·
            rw [← nI_0] at h
            have h : 1 = 0 := (nI_eq (a := 1) (b := 0) (by omega) (by omega)).mp h
            exact absurd h (by decide)
          ·
            rw [← nI_0] at h
            have h : ¬ 1 = 0 := fun z9 => h ((nI_eq (a := 1) (b := 0) (by omega) (by omega)).mpr z9)
            refine lv_iload_n hx hb dX3_moveTo_55 rfl (lv_at hl 0 rfl) ?_
            refine lv_if_eq (tgt := 66) hx hb dX3_moveTo_56 (by decide) (fun h => ?_) (fun h => ?_)
            ·
              rw [← nI_0] at h
              have h : 0 = 0 := (nI_eq (a := 0) (b := 0) (by omega) (by omega)).mp h
              refine lv_aload_n hx hb dX3_moveTo_66 rfl (lv_at hl 1 rfl) ?_
              refine va_get (D := D) (ci := 3) (v := .int (nI 1)) (C := RX3) (T := TX3) (N := 9) hx hb ht inA_X3 hown hK.1 hP 0 rfl rfl 3 (by decide) (ht _ iw_235) (fun _ h9 => h9) rfl dX3_moveTo_67 ?_
              refine lv_if_eq (tgt := 78) hx hb dX3_moveTo_70 (by decide) (fun h => ?_) (fun h => ?_)
              ·
                rw [← nI_0] at h
                have h : 1 = 0 := (nI_eq (a := 1) (b := 0) (by omega) (by omega)).mp h
                exact absurd h (by decide)
              ·
                rw [← nI_0] at h
                have h : ¬ 1 = 0 := fun z9 => h ((nI_eq (a := 1) (b := 0) (by omega) (by omega)).mpr z9)
                refine lv_aload_n hx hb dX3_moveTo_73 rfl (lv_at hl 1 rfl) ?_
                refine lv_iload_n hx hb dX3_moveTo_74 rfl (lv_at hl 2 rfl) ?_
                refine ds_callv (wc := [(w, .inr (3, [.ref r, .int (nI z), .int pl, .int (nI 1), .int a, .int b, .int wk, .long st, .int ks])), (r, .inr (1, [.ref o, .int (nI n)])), (o, .inl (cI, 1200, .inl f))]) (wr := []) (wo := (fun u2 : Unit => [(w, .inr (3, [.ref r, .int (nI z), .int pl, .int (nI 1), .int (su_A f q z), .int (su_B f q z), .int wk, .long st, .int ks])), (r, .inr (1, [.ref o, .int (nI n)])), (o, .inl (cI, 1200, .inl f))])) (wn := (fun u2 : Unit => [(w, .inr (3, [.ref r, .int (nI z), .int pl, .int (nI 1), .int (su_A f q z), .int (su_B f q z), .int wk, .long st, .int ks])), (r, .inr (1, [.ref o, .int (nI n)])), (o, .inl (cI, 1200, .inl f))])) (isC := [0, 1, 2]) (isR := []) hP hD hS hA ⟨rfl, rfl, by decide, by decide, by decide⟩ [0, 1, 2] (by decide) (fun _ => rfl) (fun hPc hDc => va_runV (As := [.int (nI q)]) (rest := []) ⟨hx, hb, hml, hown, ht⟩ (c_X3_sumAfresh Ll D cI cL w r z pl (nI 1) a b wk st ks o n f q (by omega) H.size) ⟨(callB_of 1 ht g_X3_sumAfresh rfl rfl rfl (ht _ iw_18) (ht _ iw_242) hd_X3_sumAfresh ⟨Nat.le_of_ble_eq_true rfl, Nat.le_of_ble_eq_true rfl⟩), (ht _ iw_243), (ht _ iw_244)⟩ (ds_pV hPc hDc hK (q0 := 0) rfl rfl) rfl rfl hl.1 rfl (lv_room (Nat.le_of_ble_eq_true rfl)) dX3_moveTo_75 ⟨Nat.le_of_ble_eq_true rfl, Nat.le_of_ble_eq_true rfl⟩) (fun u2 H locs hp3 hP hD hS => ?_)
                have hP : va_P D vwCl [(w, .inr (3, [.ref r, .int (nI z), .int pl, .int (nI 1), .int (su_A f q z), .int (su_B f q z), .int wk, .long st, .int ks])), (r, .inr (1, [.ref o, .int (nI n)])), (o, .inl (cI, 1200, .inl f))] H := hP
                have hD : va_D A [(w, .inr (3, [.ref r, .int (nI z), .int pl, .int (nI 1), .int (su_A f q z), .int (su_B f q z), .int wk, .long st, .int ks])), (r, .inr (1, [.ref o, .int (nI n)])), (o, .inl (cI, 1200, .inl f))] := hD
                have hp3 : True := hp3
                refine lv_aload_n hx hb dX3_moveTo_78 rfl (lv_at hl 1 rfl) ?_
                refine lv_aload_n hx hb dX3_moveTo_79 rfl (lv_at hl 1 rfl) ?_
                refine va_get (D := D) (ci := 3) (v := .int (su_A f q z)) (C := RX3) (T := TX3) (N := 9) hx hb ht inA_X3 hown hK.1 hP 0 rfl rfl 4 (by decide) (ht _ iw_245) (fun _ h9 => h9) rfl dX3_moveTo_80 ?_
                refine lv_aload_n hx hb dX3_moveTo_83 rfl (lv_at hl 1 rfl) ?_
                refine va_get (D := D) (ci := 3) (v := .int (su_B f q z)) (C := RX3) (T := TX3) (N := 9) hx hb ht inA_X3 hown hK.1 hP 0 rfl rfl 5 (by decide) (ht _ iw_246) (fun _ h9 => h9) rfl dX3_moveTo_84 ?_
                refine ds_calli (wc := []) (wr := [(w, .inr (3, [.ref r, .int (nI z), .int pl, .int (nI 1), .int (su_A f q z), .int (su_B f q z), .int wk, .long st, .int ks])), (r, .inr (1, [.ref o, .int (nI n)])), (o, .inl (cI, 1200, .inl f))]) (wo := (fun u5 : Unit => [])) (wn := (fun u5 : Unit => [(w, .inr (3, [.ref r, .int (nI z), .int pl, .int (nI 1), .int (su_A f q z), .int (su_B f q z), .int wk, .long st, .int ks])), (r, .inr (1, [.ref o, .int (nI n)])), (o, .inl (cI, 1200, .inl f))])) (isC := []) (isR := [0, 1, 2]) hP hD hS hA ⟨rfl, rfl, by decide, by decide, by decide⟩ [0, 1, 2] (by decide) (fun _ => rfl) (fun hPc hDc => va_runSN (As := [.int (su_A f q z), .int (su_B f q z)]) (rest := [.ref w]) ⟨hx, hb, hml, hown, ht⟩ (c_X1_joinWeak Ll D cI cL (su_A f q z) (su_B f q z)  H.size) ⟨(va_cnB 2 ht g_X1_joinWeak rfl rfl rfl (nmu_20 hK) (ht _ iw_6) hd_X1_joinWeak ⟨Nat.le_of_ble_eq_true rfl, Nat.le_of_ble_eq_true rfl⟩), (ht _ iw_211), trivial⟩ (ds_pS hPc hDc hK) rfl rfl hl.1 rfl (lv_room (Nat.le_of_ble_eq_true rfl)) dX3_moveTo_87 ⟨Nat.le_of_ble_eq_true rfl, Nat.le_of_ble_eq_true rfl⟩) (fun r4 u5 H locs hp6 hP hD hS => ?_)
                have hP : va_P D vwCl [(w, .inr (3, [.ref r, .int (nI z), .int pl, .int (nI 1), .int (su_A f q z), .int (su_B f q z), .int wk, .long st, .int ks])), (r, .inr (1, [.ref o, .int (nI n)])), (o, .inl (cI, 1200, .inl f))] H := hP
                have hD : va_D A [(w, .inr (3, [.ref r, .int (nI z), .int pl, .int (nI 1), .int (su_A f q z), .int (su_B f q z), .int wk, .long st, .int ks])), (r, .inr (1, [.ref o, .int (nI n)])), (o, .inl (cI, 1200, .inl f))] := hD
                have hp6 : r4 = su_J (su_A f q z) (su_B f q z) := hp6
                replace hp6 := Eq.symm hp6
                subst hp6
                refine va_put (D := D) (ci := 3) (v := .int (su_J (su_A f q z) (su_B f q z))) (ty := .int) (C := RX3) (T := TX3) (N := 9) hx hb ht inA_X3 tyX3 tyX3_ok nmX3 hown hK.1 hP hD hS 0 rfl rfl 6 (by decide) (ht _ iw_247) (fun _ h9 => h9) rfl (by decide +kernel) rfl rfl (Nat.le_of_ble_eq_true rfl) dX3_moveTo_90 (fun H locs hP hD hS => ?_)
                have hP : va_P D vwCl [(w, .inr (3, [.ref r, .int (nI z), .int pl, .int (nI 1), .int (su_A f q z), .int (su_B f q z), .int (su_J (su_A f q z) (su_B f q z)), .long st, .int ks])), (r, .inr (1, [.ref o, .int (nI n)])), (o, .inl (cI, 1200, .inl f))] H := hP
                have hD : va_D A [(w, .inr (3, [.ref r, .int (nI z), .int pl, .int (nI 1), .int (su_A f q z), .int (su_B f q z), .int (su_J (su_A f q z) (su_B f q z)), .long st, .int ks])), (r, .inr (1, [.ref o, .int (nI n)])), (o, .inl (cI, 1200, .inl f))] := hD
                refine lv_aload_n hx hb dX3_moveTo_93 rfl (lv_at hl 1 rfl) ?_
                refine lv_iload_n hx hb dX3_moveTo_94 rfl (lv_at hl 2 rfl) ?_
                refine va_put (D := D) (ci := 3) (v := .int (nI q)) (ty := .int) (C := RX3) (T := TX3) (N := 9) hx hb ht inA_X3 tyX3 tyX3_ok nmX3 hown hK.1 hP hD hS 0 rfl rfl 2 (by decide) (ht _ iw_234) (fun _ h9 => h9) rfl (by decide +kernel) rfl rfl (Nat.le_of_ble_eq_true rfl) dX3_moveTo_95 (fun H locs hP hD hS => ?_)
                have hP : va_P D vwCl [(w, .inr (3, [.ref r, .int (nI z), .int (nI q), .int (nI 1), .int (su_A f q z), .int (su_B f q z), .int (su_J (su_A f q z) (su_B f q z)), .long st, .int ks])), (r, .inr (1, [.ref o, .int (nI n)])), (o, .inl (cI, 1200, .inl f))] H := hP
                have hD : va_D A [(w, .inr (3, [.ref r, .int (nI z), .int (nI q), .int (nI 1), .int (su_A f q z), .int (su_B f q z), .int (su_J (su_A f q z) (su_B f q z)), .long st, .int ks])), (r, .inr (1, [.ref o, .int (nI n)])), (o, .inl (cI, 1200, .inl f))] := hD
                refine lv_aload_n hx hb dX3_moveTo_98 rfl (lv_at hl 1 rfl) ?_
                refine lv_iconst (v := nI 0) hx hb dX3_moveTo_99 (by decide +kernel) ?_
                refine va_put (D := D) (ci := 3) (v := .int (nI 0)) (ty := .boolean) (C := RX3) (T := TX3) (N := 9) hx hb ht inA_X3 tyX3 tyX3_ok nmX3 hown hK.1 hP hD hS 0 rfl rfl 8 (by decide) (ht _ iw_236) (fun _ h9 => h9) rfl (by decide +kernel) (by decide +kernel) (by decide +kernel) (Nat.le_of_ble_eq_true rfl) dX3_moveTo_100 (fun H locs hP hD hS => ?_)
                have hP : va_P D vwCl [(w, .inr (3, [.ref r, .int (nI z), .int (nI q), .int (nI 1), .int (su_A f q z), .int (su_B f q z), .int (su_J (su_A f q z) (su_B f q z)), .long st, .int (nI 0)])), (r, .inr (1, [.ref o, .int (nI n)])), (o, .inl (cI, 1200, .inl f))] H := hP
                have hD : va_D A [(w, .inr (3, [.ref r, .int (nI z), .int (nI q), .int (nI 1), .int (su_A f q z), .int (su_B f q z), .int (su_J (su_A f q z) (su_B f q z)), .long st, .int (nI 0)])), (r, .inr (1, [.ref o, .int (nI n)])), (o, .inl (cI, 1200, .inl f))] := hD
                exact ds_vret hx hb hr hlk (nI 1, su_A f q z, su_B f q z, su_W f q z) (Or.inl ⟨hc, rfl, rfl, rfl, rfl⟩) hP hD hS (Nat.le_of_ble_eq_true rfl) (Nat.le_of_ble_eq_true rfl) dX3_moveTo_103
            ·
              rw [← nI_0] at h
              have h : ¬ 0 = 0 := fun z9 => h ((nI_eq (a := 0) (b := 0) (by omega) (by omega)).mpr z9)
              exact absurd rfl h
      ·
        refine lv_icmp_gt (tgt := 44) hx hb dX3_moveTo_37 (by decide) (fun h => ?_) (fun h => ?_)
        ·
          refine lv_iconst (v := nI 0) hx hb dX3_moveTo_44 (by decide +kernel) ?_
          refine va_put (D := D) (ci := 3) (v := .int (nI 0)) (ty := .boolean) (C := RX3) (T := TX3) (N := 9) hx hb ht inA_X3 tyX3 tyX3_ok nmX3 hown hK.1 hP hD hS 0 rfl rfl 3 (by decide) (ht _ iw_235) (fun _ h9 => h9) rfl (by decide +kernel) (by decide +kernel) (by decide +kernel) (Nat.le_of_ble_eq_true rfl) dX3_moveTo_45 (fun H locs hP hD hS => ?_)
          have hP : va_P D vwCl [(w, .inr (3, [.ref r, .int (nI z), .int pl, .int (nI 0), .int a, .int b, .int wk, .long st, .int ks])), (r, .inr (1, [.ref o, .int (nI n)])), (o, .inl (cI, 1200, .inl f))] H := hP
          have hD : va_D A [(w, .inr (3, [.ref r, .int (nI z), .int pl, .int (nI 0), .int a, .int b, .int wk, .long st, .int ks])), (r, .inr (1, [.ref o, .int (nI n)])), (o, .inl (cI, 1200, .inl f))] := hD
          refine lv_aload_n hx hb dX3_moveTo_48 rfl (lv_at hl 1 rfl) ?_
          refine va_get (D := D) (ci := 3) (v := .int (nI 0)) (C := RX3) (T := TX3) (N := 9) hx hb ht inA_X3 hown hK.1 hP 0 rfl rfl 3 (by decide) (ht _ iw_235) (fun _ h9 => h9) rfl dX3_moveTo_49 ?_
          refine lv_if_eq (tgt := 66) hx hb dX3_moveTo_52 (by decide) (fun h => ?_) (fun h => ?_)
          ·
            rw [← nI_0] at h
            have h : 0 = 0 := (nI_eq (a := 0) (b := 0) (by omega) (by omega)).mp h
            refine lv_aload_n hx hb dX3_moveTo_66 rfl (lv_at hl 1 rfl) ?_
            refine va_get (D := D) (ci := 3) (v := .int (nI 0)) (C := RX3) (T := TX3) (N := 9) hx hb ht inA_X3 hown hK.1 hP 0 rfl rfl 3 (by decide) (ht _ iw_235) (fun _ h9 => h9) rfl dX3_moveTo_67 ?_
            refine lv_if_eq (tgt := 78) hx hb dX3_moveTo_70 (by decide) (fun h => ?_) (fun h => ?_)
            ·
              rw [← nI_0] at h
              have h : 0 = 0 := (nI_eq (a := 0) (b := 0) (by omega) (by omega)).mp h
              refine lv_aload_n hx hb dX3_moveTo_78 rfl (lv_at hl 1 rfl) ?_
              refine lv_aload_n hx hb dX3_moveTo_79 rfl (lv_at hl 1 rfl) ?_
              refine va_get (D := D) (ci := 3) (v := .int a) (C := RX3) (T := TX3) (N := 9) hx hb ht inA_X3 hown hK.1 hP 0 rfl rfl 4 (by decide) (ht _ iw_245) (fun _ h9 => h9) rfl dX3_moveTo_80 ?_
              refine lv_aload_n hx hb dX3_moveTo_83 rfl (lv_at hl 1 rfl) ?_
              refine va_get (D := D) (ci := 3) (v := .int b) (C := RX3) (T := TX3) (N := 9) hx hb ht inA_X3 hown hK.1 hP 0 rfl rfl 5 (by decide) (ht _ iw_246) (fun _ h9 => h9) rfl dX3_moveTo_84 ?_
              refine ds_calli (wc := []) (wr := [(w, .inr (3, [.ref r, .int (nI z), .int pl, .int (nI 0), .int a, .int b, .int wk, .long st, .int ks])), (r, .inr (1, [.ref o, .int (nI n)])), (o, .inl (cI, 1200, .inl f))]) (wo := (fun u8 : Unit => [])) (wn := (fun u8 : Unit => [(w, .inr (3, [.ref r, .int (nI z), .int pl, .int (nI 0), .int a, .int b, .int wk, .long st, .int ks])), (r, .inr (1, [.ref o, .int (nI n)])), (o, .inl (cI, 1200, .inl f))])) (isC := []) (isR := [0, 1, 2]) hP hD hS hA ⟨rfl, rfl, by decide, by decide, by decide⟩ [0, 1, 2] (by decide) (fun _ => rfl) (fun hPc hDc => va_runSN (As := [.int a, .int b]) (rest := [.ref w]) ⟨hx, hb, hml, hown, ht⟩ (c_X1_joinWeak Ll D cI cL a b  H.size) ⟨(va_cnB 2 ht g_X1_joinWeak rfl rfl rfl (nmu_20 hK) (ht _ iw_6) hd_X1_joinWeak ⟨Nat.le_of_ble_eq_true rfl, Nat.le_of_ble_eq_true rfl⟩), (ht _ iw_211), trivial⟩ (ds_pS hPc hDc hK) rfl rfl hl.1 rfl (lv_room (Nat.le_of_ble_eq_true rfl)) dX3_moveTo_87 ⟨Nat.le_of_ble_eq_true rfl, Nat.le_of_ble_eq_true rfl⟩) (fun r7 u8 H locs hp9 hP hD hS => ?_)
              have hP : va_P D vwCl [(w, .inr (3, [.ref r, .int (nI z), .int pl, .int (nI 0), .int a, .int b, .int wk, .long st, .int ks])), (r, .inr (1, [.ref o, .int (nI n)])), (o, .inl (cI, 1200, .inl f))] H := hP
              have hD : va_D A [(w, .inr (3, [.ref r, .int (nI z), .int pl, .int (nI 0), .int a, .int b, .int wk, .long st, .int ks])), (r, .inr (1, [.ref o, .int (nI n)])), (o, .inl (cI, 1200, .inl f))] := hD
              have hp9 : r7 = su_J a b := hp9
              replace hp9 := Eq.symm hp9
              subst hp9
              refine va_put (D := D) (ci := 3) (v := .int (su_J a b)) (ty := .int) (C := RX3) (T := TX3) (N := 9) hx hb ht inA_X3 tyX3 tyX3_ok nmX3 hown hK.1 hP hD hS 0 rfl rfl 6 (by decide) (ht _ iw_247) (fun _ h9 => h9) rfl (by decide +kernel) rfl rfl (Nat.le_of_ble_eq_true rfl) dX3_moveTo_90 (fun H locs hP hD hS => ?_)
              have hP : va_P D vwCl [(w, .inr (3, [.ref r, .int (nI z), .int pl, .int (nI 0), .int a, .int b, .int (su_J a b), .long st, .int ks])), (r, .inr (1, [.ref o, .int (nI n)])), (o, .inl (cI, 1200, .inl f))] H := hP
              have hD : va_D A [(w, .inr (3, [.ref r, .int (nI z), .int pl, .int (nI 0), .int a, .int b, .int (su_J a b), .long st, .int ks])), (r, .inr (1, [.ref o, .int (nI n)])), (o, .inl (cI, 1200, .inl f))] := hD
              refine lv_aload_n hx hb dX3_moveTo_93 rfl (lv_at hl 1 rfl) ?_
              refine lv_iload_n hx hb dX3_moveTo_94 rfl (lv_at hl 2 rfl) ?_
              refine va_put (D := D) (ci := 3) (v := .int (nI q)) (ty := .int) (C := RX3) (T := TX3) (N := 9) hx hb ht inA_X3 tyX3 tyX3_ok nmX3 hown hK.1 hP hD hS 0 rfl rfl 2 (by decide) (ht _ iw_234) (fun _ h9 => h9) rfl (by decide +kernel) rfl rfl (Nat.le_of_ble_eq_true rfl) dX3_moveTo_95 (fun H locs hP hD hS => ?_)
              have hP : va_P D vwCl [(w, .inr (3, [.ref r, .int (nI z), .int (nI q), .int (nI 0), .int a, .int b, .int (su_J a b), .long st, .int ks])), (r, .inr (1, [.ref o, .int (nI n)])), (o, .inl (cI, 1200, .inl f))] H := hP
              have hD : va_D A [(w, .inr (3, [.ref r, .int (nI z), .int (nI q), .int (nI 0), .int a, .int b, .int (su_J a b), .long st, .int ks])), (r, .inr (1, [.ref o, .int (nI n)])), (o, .inl (cI, 1200, .inl f))] := hD
              refine lv_aload_n hx hb dX3_moveTo_98 rfl (lv_at hl 1 rfl) ?_
              refine lv_iconst (v := nI 0) hx hb dX3_moveTo_99 (by decide +kernel) ?_
              refine va_put (D := D) (ci := 3) (v := .int (nI 0)) (ty := .boolean) (C := RX3) (T := TX3) (N := 9) hx hb ht inA_X3 tyX3 tyX3_ok nmX3 hown hK.1 hP hD hS 0 rfl rfl 8 (by decide) (ht _ iw_236) (fun _ h9 => h9) rfl (by decide +kernel) (by decide +kernel) (by decide +kernel) (Nat.le_of_ble_eq_true rfl) dX3_moveTo_100 (fun H locs hP hD hS => ?_)
              have hP : va_P D vwCl [(w, .inr (3, [.ref r, .int (nI z), .int (nI q), .int (nI 0), .int a, .int b, .int (su_J a b), .long st, .int (nI 0)])), (r, .inr (1, [.ref o, .int (nI n)])), (o, .inl (cI, 1200, .inl f))] H := hP
              have hD : va_D A [(w, .inr (3, [.ref r, .int (nI z), .int (nI q), .int (nI 0), .int a, .int b, .int (su_J a b), .long st, .int (nI 0)])), (r, .inr (1, [.ref o, .int (nI n)])), (o, .inl (cI, 1200, .inl f))] := hD
              exact ds_vret hx hb hr hlk (nI 0, a, b, su_J (a) (b)) (Or.inr ⟨by omega, rfl⟩) hP hD hS (Nat.le_of_ble_eq_true rfl) (Nat.le_of_ble_eq_true rfl) dX3_moveTo_103
            ·
              rw [← nI_0] at h
              have h : ¬ 0 = 0 := fun z9 => h ((nI_eq (a := 0) (b := 0) (by omega) (by omega)).mpr z9)
              exact absurd rfl h
          ·
            rw [← nI_0] at h
            have h : ¬ 0 = 0 := fun z9 => h ((nI_eq (a := 0) (b := 0) (by omega) (by omega)).mpr z9)
            exact absurd rfl h
        ·
          exact absurd ((ds_sublt (by omega) (by omega) (by omega)).mpr (by omega)) h
    ·
      exact absurd rfl h
  ·
    obtain ⟨e1, q0, e2, hq, e3, e4⟩ := hi.resolve_left hi0
    subst e1 e2 e3 e4
    refine lv_aload_n hx hb dX3_moveTo_0 rfl (lv_at hl 0 rfl) ?_
    refine va_get (D := D) (ci := 3) (v := .int 1) (C := RX3) (T := TX3) (N := 9) hx hb ht inA_X3 hown hK.1 hP 0 rfl rfl 3 (by decide) (ht _ iw_235) (fun _ h9 => h9) rfl dX3_moveTo_1 ?_
    refine lv_if_eq (tgt := 21) hx hb dX3_moveTo_4 (by decide) (fun h => ?_) (fun h => ?_)
    ·
      exact absurd h (by decide)
    ·
      refine lv_iload_n hx hb dX3_moveTo_7 rfl (lv_at hl 1 rfl) ?_
      refine lv_aload_n hx hb dX3_moveTo_8 rfl (lv_at hl 0 rfl) ?_
      refine va_get (D := D) (ci := 3) (v := .int (nI q0)) (C := RX3) (T := TX3) (N := 9) hx hb ht inA_X3 hown hK.1 hP 0 rfl rfl 2 (by decide) (ht _ iw_234) (fun _ h9 => h9) rfl dX3_moveTo_9 ?_
      refine lv_iconst (v := nI 1) hx hb dX3_moveTo_12 (by decide +kernel) ?_
      refine lv_iadd hx hb dX3_moveTo_13 ?_
      refine ds_top (z := nI (q0 + 1)) (nI_add _ _) ?_
      refine lv_icmp_ne (tgt := 21) hx hb dX3_moveTo_14 (by decide) (fun h => ?_) (fun h => ?_)
      ·
        have h : ¬ q = (q0 + 1) := fun z9 => h ((nI_eq (a := q) (b := (q0 + 1)) (by omega) (by omega)).mpr z9)
        refine lv_iconst (v := nI 0) hx hb dX3_moveTo_21 (by decide +kernel) ?_
        refine lv_istore_n (lv' := [(2, .int (nI 0)), (0, .ref w), (1, .int (nI q))]) hx hb dX3_moveTo_22 rfl hl (Nat.le_of_ble_eq_true rfl) rfl (fun ls hl => ?_)
        refine lv_aload_n hx hb dX3_moveTo_23 rfl (lv_at hl 1 rfl) ?_
        refine lv_iload_n hx hb dX3_moveTo_24 rfl (lv_at hl 2 rfl) ?_
        refine lv_aload_n hx hb dX3_moveTo_25 rfl (lv_at hl 1 rfl) ?_
        refine va_get (D := D) (ci := 3) (v := .ref r) (C := RX3) (T := TX3) (N := 9) hx hb ht inA_X3 hown hK.1 hP 0 rfl rfl 0 (by decide) (ht _ iw_232) (fun _ h9 => h9) rfl dX3_moveTo_26 ?_
        refine va_getN (D := D) (ci := 1) (v := .int (nI n)) (C := RX1) (T := TX1) (N := 2) hx hb ht inA_X1 hown hK.1 hP 1 rfl rfl 1 (by decide) (nfu_11 hK) (fun _ h9 => h9) rfl dX3_moveTo_29 ?_
        refine lv_aload_n hx hb dX3_moveTo_32 rfl (lv_at hl 1 rfl) ?_
        refine va_get (D := D) (ci := 3) (v := .int (nI z)) (C := RX3) (T := TX3) (N := 9) hx hb ht inA_X3 hown hK.1 hP 0 rfl rfl 1 (by decide) (ht _ iw_233) (fun _ h9 => h9) rfl dX3_moveTo_33 ?_
        refine lv_isub hx hb dX3_moveTo_36 ?_
        by_cases hc : q + z ≤ n
        ·
          refine lv_icmp_gt (tgt := 44) hx hb dX3_moveTo_37 (by decide) (fun h => ?_) (fun h => ?_)
          ·
            exact absurd ((ds_sublt (by omega) (by omega) (by omega)).mp h) (by omega)
          ·
            refine lv_iconst (v := nI 1) hx hb dX3_moveTo_40 (by decide +kernel) ?_
            refine lv_goto (tgt := 45) hx hb dX3_moveTo_41 (by decide) ?_
            refine va_put (D := D) (ci := 3) (v := .int (nI 1)) (ty := .boolean) (C := RX3) (T := TX3) (N := 9) hx hb ht inA_X3 tyX3 tyX3_ok nmX3 hown hK.1 hP hD hS 0 rfl rfl 3 (by decide) (ht _ iw_235) (fun _ h9 => h9) rfl (by decide +kernel) (by decide +kernel) (by decide +kernel) (Nat.le_of_ble_eq_true rfl) dX3_moveTo_45 (fun H locs hP hD hS => ?_)
            have hP : va_P D vwCl [(w, .inr (3, [.ref r, .int (nI z), .int (nI q0), .int (nI 1), .int (su_A f q0 z), .int (su_B f q0 z), .int wk, .long st, .int ks])), (r, .inr (1, [.ref o, .int (nI n)])), (o, .inl (cI, 1200, .inl f))] H := hP
            have hD : va_D A [(w, .inr (3, [.ref r, .int (nI z), .int (nI q0), .int (nI 1), .int (su_A f q0 z), .int (su_B f q0 z), .int wk, .long st, .int ks])), (r, .inr (1, [.ref o, .int (nI n)])), (o, .inl (cI, 1200, .inl f))] := hD
            refine lv_aload_n hx hb dX3_moveTo_48 rfl (lv_at hl 1 rfl) ?_
            refine va_get (D := D) (ci := 3) (v := .int (nI 1)) (C := RX3) (T := TX3) (N := 9) hx hb ht inA_X3 hown hK.1 hP 0 rfl rfl 3 (by decide) (ht _ iw_235) (fun _ h9 => h9) rfl dX3_moveTo_49 ?_
            refine lv_if_eq (tgt := 66) hx hb dX3_moveTo_52 (by decide) (fun h => ?_) (fun h => ?_)
            ·
              rw [← nI_0] at h
              have h : 1 = 0 := (nI_eq (a := 1) (b := 0) (by omega) (by omega)).mp h
              exact absurd h (by decide)
            ·
              rw [← nI_0] at h
              have h : ¬ 1 = 0 := fun z9 => h ((nI_eq (a := 1) (b := 0) (by omega) (by omega)).mpr z9)
              refine lv_iload_n hx hb dX3_moveTo_55 rfl (lv_at hl 0 rfl) ?_
              refine lv_if_eq (tgt := 66) hx hb dX3_moveTo_56 (by decide) (fun h => ?_) (fun h => ?_)
              ·
                rw [← nI_0] at h
                have h : 0 = 0 := (nI_eq (a := 0) (b := 0) (by omega) (by omega)).mp h
                refine lv_aload_n hx hb dX3_moveTo_66 rfl (lv_at hl 1 rfl) ?_
                refine va_get (D := D) (ci := 3) (v := .int (nI 1)) (C := RX3) (T := TX3) (N := 9) hx hb ht inA_X3 hown hK.1 hP 0 rfl rfl 3 (by decide) (ht _ iw_235) (fun _ h9 => h9) rfl dX3_moveTo_67 ?_
                refine lv_if_eq (tgt := 78) hx hb dX3_moveTo_70 (by decide) (fun h => ?_) (fun h => ?_)
                ·
                  rw [← nI_0] at h
                  have h : 1 = 0 := (nI_eq (a := 1) (b := 0) (by omega) (by omega)).mp h
                  exact absurd h (by decide)
                ·
                  rw [← nI_0] at h
                  have h : ¬ 1 = 0 := fun z9 => h ((nI_eq (a := 1) (b := 0) (by omega) (by omega)).mpr z9)
                  refine lv_aload_n hx hb dX3_moveTo_73 rfl (lv_at hl 1 rfl) ?_
                  refine lv_iload_n hx hb dX3_moveTo_74 rfl (lv_at hl 2 rfl) ?_
                  refine ds_callv (wc := [(w, .inr (3, [.ref r, .int (nI z), .int (nI q0), .int (nI 1), .int (su_A f q0 z), .int (su_B f q0 z), .int wk, .long st, .int ks])), (r, .inr (1, [.ref o, .int (nI n)])), (o, .inl (cI, 1200, .inl f))]) (wr := []) (wo := (fun u11 : Unit => [(w, .inr (3, [.ref r, .int (nI z), .int (nI q0), .int (nI 1), .int (su_A f q z), .int (su_B f q z), .int wk, .long st, .int ks])), (r, .inr (1, [.ref o, .int (nI n)])), (o, .inl (cI, 1200, .inl f))])) (wn := (fun u11 : Unit => [(w, .inr (3, [.ref r, .int (nI z), .int (nI q0), .int (nI 1), .int (su_A f q z), .int (su_B f q z), .int wk, .long st, .int ks])), (r, .inr (1, [.ref o, .int (nI n)])), (o, .inl (cI, 1200, .inl f))])) (isC := [0, 1, 2]) (isR := []) hP hD hS hA ⟨rfl, rfl, by decide, by decide, by decide⟩ [0, 1, 2] (by decide) (fun _ => rfl) (fun hPc hDc => va_runV (As := [.int (nI q)]) (rest := []) ⟨hx, hb, hml, hown, ht⟩ (c_X3_sumAfresh Ll D cI cL w r z (nI q0) (nI 1) (su_A f q0 z) (su_B f q0 z) wk st ks o n f q (by omega) H.size) ⟨(callB_of 1 ht g_X3_sumAfresh rfl rfl rfl (ht _ iw_18) (ht _ iw_242) hd_X3_sumAfresh ⟨Nat.le_of_ble_eq_true rfl, Nat.le_of_ble_eq_true rfl⟩), (ht _ iw_243), (ht _ iw_244)⟩ (ds_pV hPc hDc hK (q0 := 0) rfl rfl) rfl rfl hl.1 rfl (lv_room (Nat.le_of_ble_eq_true rfl)) dX3_moveTo_75 ⟨Nat.le_of_ble_eq_true rfl, Nat.le_of_ble_eq_true rfl⟩) (fun u11 H locs hp12 hP hD hS => ?_)
                  have hP : va_P D vwCl [(w, .inr (3, [.ref r, .int (nI z), .int (nI q0), .int (nI 1), .int (su_A f q z), .int (su_B f q z), .int wk, .long st, .int ks])), (r, .inr (1, [.ref o, .int (nI n)])), (o, .inl (cI, 1200, .inl f))] H := hP
                  have hD : va_D A [(w, .inr (3, [.ref r, .int (nI z), .int (nI q0), .int (nI 1), .int (su_A f q z), .int (su_B f q z), .int wk, .long st, .int ks])), (r, .inr (1, [.ref o, .int (nI n)])), (o, .inl (cI, 1200, .inl f))] := hD
                  have hp12 : True := hp12
                  refine lv_aload_n hx hb dX3_moveTo_78 rfl (lv_at hl 1 rfl) ?_
                  refine lv_aload_n hx hb dX3_moveTo_79 rfl (lv_at hl 1 rfl) ?_
                  refine va_get (D := D) (ci := 3) (v := .int (su_A f q z)) (C := RX3) (T := TX3) (N := 9) hx hb ht inA_X3 hown hK.1 hP 0 rfl rfl 4 (by decide) (ht _ iw_245) (fun _ h9 => h9) rfl dX3_moveTo_80 ?_
                  refine lv_aload_n hx hb dX3_moveTo_83 rfl (lv_at hl 1 rfl) ?_
                  refine va_get (D := D) (ci := 3) (v := .int (su_B f q z)) (C := RX3) (T := TX3) (N := 9) hx hb ht inA_X3 hown hK.1 hP 0 rfl rfl 5 (by decide) (ht _ iw_246) (fun _ h9 => h9) rfl dX3_moveTo_84 ?_
                  refine ds_calli (wc := []) (wr := [(w, .inr (3, [.ref r, .int (nI z), .int (nI q0), .int (nI 1), .int (su_A f q z), .int (su_B f q z), .int wk, .long st, .int ks])), (r, .inr (1, [.ref o, .int (nI n)])), (o, .inl (cI, 1200, .inl f))]) (wo := (fun u14 : Unit => [])) (wn := (fun u14 : Unit => [(w, .inr (3, [.ref r, .int (nI z), .int (nI q0), .int (nI 1), .int (su_A f q z), .int (su_B f q z), .int wk, .long st, .int ks])), (r, .inr (1, [.ref o, .int (nI n)])), (o, .inl (cI, 1200, .inl f))])) (isC := []) (isR := [0, 1, 2]) hP hD hS hA ⟨rfl, rfl, by decide, by decide, by decide⟩ [0, 1, 2] (by decide) (fun _ => rfl) (fun hPc hDc => va_runSN (As := [.int (su_A f q z), .int (su_B f q z)]) (rest := [.ref w]) ⟨hx, hb, hml, hown, ht⟩ (c_X1_joinWeak Ll D cI cL (su_A f q z) (su_B f q z)  H.size) ⟨(va_cnB 2 ht g_X1_joinWeak rfl rfl rfl (nmu_20 hK) (ht _ iw_6) hd_X1_joinWeak ⟨Nat.le_of_ble_eq_true rfl, Nat.le_of_ble_eq_true rfl⟩), (ht _ iw_211), trivial⟩ (ds_pS hPc hDc hK) rfl rfl hl.1 rfl (lv_room (Nat.le_of_ble_eq_true rfl)) dX3_moveTo_87 ⟨Nat.le_of_ble_eq_true rfl, Nat.le_of_ble_eq_true rfl⟩) (fun r13 u14 H locs hp15 hP hD hS => ?_)
                  have hP : va_P D vwCl [(w, .inr (3, [.ref r, .int (nI z), .int (nI q0), .int (nI 1), .int (su_A f q z), .int (su_B f q z), .int wk, .long st, .int ks])), (r, .inr (1, [.ref o, .int (nI n)])), (o, .inl (cI, 1200, .inl f))] H := hP
                  have hD : va_D A [(w, .inr (3, [.ref r, .int (nI z), .int (nI q0), .int (nI 1), .int (su_A f q z), .int (su_B f q z), .int wk, .long st, .int ks])), (r, .inr (1, [.ref o, .int (nI n)])), (o, .inl (cI, 1200, .inl f))] := hD
                  have hp15 : r13 = su_J (su_A f q z) (su_B f q z) := hp15
                  replace hp15 := Eq.symm hp15
                  subst hp15
                  refine va_put (D := D) (ci := 3) (v := .int (su_J (su_A f q z) (su_B f q z))) (ty := .int) (C := RX3) (T := TX3) (N := 9) hx hb ht inA_X3 tyX3 tyX3_ok nmX3 hown hK.1 hP hD hS 0 rfl rfl 6 (by decide) (ht _ iw_247) (fun _ h9 => h9) rfl (by decide +kernel) rfl rfl (Nat.le_of_ble_eq_true rfl) dX3_moveTo_90 (fun H locs hP hD hS => ?_)
                  have hP : va_P D vwCl [(w, .inr (3, [.ref r, .int (nI z), .int (nI q0), .int (nI 1), .int (su_A f q z), .int (su_B f q z), .int (su_J (su_A f q z) (su_B f q z)), .long st, .int ks])), (r, .inr (1, [.ref o, .int (nI n)])), (o, .inl (cI, 1200, .inl f))] H := hP
                  have hD : va_D A [(w, .inr (3, [.ref r, .int (nI z), .int (nI q0), .int (nI 1), .int (su_A f q z), .int (su_B f q z), .int (su_J (su_A f q z) (su_B f q z)), .long st, .int ks])), (r, .inr (1, [.ref o, .int (nI n)])), (o, .inl (cI, 1200, .inl f))] := hD
                  refine lv_aload_n hx hb dX3_moveTo_93 rfl (lv_at hl 1 rfl) ?_
                  refine lv_iload_n hx hb dX3_moveTo_94 rfl (lv_at hl 2 rfl) ?_
                  refine va_put (D := D) (ci := 3) (v := .int (nI q)) (ty := .int) (C := RX3) (T := TX3) (N := 9) hx hb ht inA_X3 tyX3 tyX3_ok nmX3 hown hK.1 hP hD hS 0 rfl rfl 2 (by decide) (ht _ iw_234) (fun _ h9 => h9) rfl (by decide +kernel) rfl rfl (Nat.le_of_ble_eq_true rfl) dX3_moveTo_95 (fun H locs hP hD hS => ?_)
                  have hP : va_P D vwCl [(w, .inr (3, [.ref r, .int (nI z), .int (nI q), .int (nI 1), .int (su_A f q z), .int (su_B f q z), .int (su_J (su_A f q z) (su_B f q z)), .long st, .int ks])), (r, .inr (1, [.ref o, .int (nI n)])), (o, .inl (cI, 1200, .inl f))] H := hP
                  have hD : va_D A [(w, .inr (3, [.ref r, .int (nI z), .int (nI q), .int (nI 1), .int (su_A f q z), .int (su_B f q z), .int (su_J (su_A f q z) (su_B f q z)), .long st, .int ks])), (r, .inr (1, [.ref o, .int (nI n)])), (o, .inl (cI, 1200, .inl f))] := hD
                  refine lv_aload_n hx hb dX3_moveTo_98 rfl (lv_at hl 1 rfl) ?_
                  refine lv_iconst (v := nI 0) hx hb dX3_moveTo_99 (by decide +kernel) ?_
                  refine va_put (D := D) (ci := 3) (v := .int (nI 0)) (ty := .boolean) (C := RX3) (T := TX3) (N := 9) hx hb ht inA_X3 tyX3 tyX3_ok nmX3 hown hK.1 hP hD hS 0 rfl rfl 8 (by decide) (ht _ iw_236) (fun _ h9 => h9) rfl (by decide +kernel) (by decide +kernel) (by decide +kernel) (Nat.le_of_ble_eq_true rfl) dX3_moveTo_100 (fun H locs hP hD hS => ?_)
                  have hP : va_P D vwCl [(w, .inr (3, [.ref r, .int (nI z), .int (nI q), .int (nI 1), .int (su_A f q z), .int (su_B f q z), .int (su_J (su_A f q z) (su_B f q z)), .long st, .int (nI 0)])), (r, .inr (1, [.ref o, .int (nI n)])), (o, .inl (cI, 1200, .inl f))] H := hP
                  have hD : va_D A [(w, .inr (3, [.ref r, .int (nI z), .int (nI q), .int (nI 1), .int (su_A f q z), .int (su_B f q z), .int (su_J (su_A f q z) (su_B f q z)), .long st, .int (nI 0)])), (r, .inr (1, [.ref o, .int (nI n)])), (o, .inl (cI, 1200, .inl f))] := hD
                  exact ds_vret hx hb hr hlk (nI 1, su_A f q z, su_B f q z, su_W f q z) (Or.inl ⟨hc, rfl, rfl, rfl, rfl⟩) hP hD hS (Nat.le_of_ble_eq_true rfl) (Nat.le_of_ble_eq_true rfl) dX3_moveTo_103
              ·
                rw [← nI_0] at h
                have h : ¬ 0 = 0 := fun z9 => h ((nI_eq (a := 0) (b := 0) (by omega) (by omega)).mpr z9)
                exact absurd rfl h
        ·
          refine lv_icmp_gt (tgt := 44) hx hb dX3_moveTo_37 (by decide) (fun h => ?_) (fun h => ?_)
          ·
            refine lv_iconst (v := nI 0) hx hb dX3_moveTo_44 (by decide +kernel) ?_
            refine va_put (D := D) (ci := 3) (v := .int (nI 0)) (ty := .boolean) (C := RX3) (T := TX3) (N := 9) hx hb ht inA_X3 tyX3 tyX3_ok nmX3 hown hK.1 hP hD hS 0 rfl rfl 3 (by decide) (ht _ iw_235) (fun _ h9 => h9) rfl (by decide +kernel) (by decide +kernel) (by decide +kernel) (Nat.le_of_ble_eq_true rfl) dX3_moveTo_45 (fun H locs hP hD hS => ?_)
            have hP : va_P D vwCl [(w, .inr (3, [.ref r, .int (nI z), .int (nI q0), .int (nI 0), .int (su_A f q0 z), .int (su_B f q0 z), .int wk, .long st, .int ks])), (r, .inr (1, [.ref o, .int (nI n)])), (o, .inl (cI, 1200, .inl f))] H := hP
            have hD : va_D A [(w, .inr (3, [.ref r, .int (nI z), .int (nI q0), .int (nI 0), .int (su_A f q0 z), .int (su_B f q0 z), .int wk, .long st, .int ks])), (r, .inr (1, [.ref o, .int (nI n)])), (o, .inl (cI, 1200, .inl f))] := hD
            refine lv_aload_n hx hb dX3_moveTo_48 rfl (lv_at hl 1 rfl) ?_
            refine va_get (D := D) (ci := 3) (v := .int (nI 0)) (C := RX3) (T := TX3) (N := 9) hx hb ht inA_X3 hown hK.1 hP 0 rfl rfl 3 (by decide) (ht _ iw_235) (fun _ h9 => h9) rfl dX3_moveTo_49 ?_
            refine lv_if_eq (tgt := 66) hx hb dX3_moveTo_52 (by decide) (fun h => ?_) (fun h => ?_)
            ·
              rw [← nI_0] at h
              have h : 0 = 0 := (nI_eq (a := 0) (b := 0) (by omega) (by omega)).mp h
              refine lv_aload_n hx hb dX3_moveTo_66 rfl (lv_at hl 1 rfl) ?_
              refine va_get (D := D) (ci := 3) (v := .int (nI 0)) (C := RX3) (T := TX3) (N := 9) hx hb ht inA_X3 hown hK.1 hP 0 rfl rfl 3 (by decide) (ht _ iw_235) (fun _ h9 => h9) rfl dX3_moveTo_67 ?_
              refine lv_if_eq (tgt := 78) hx hb dX3_moveTo_70 (by decide) (fun h => ?_) (fun h => ?_)
              ·
                rw [← nI_0] at h
                have h : 0 = 0 := (nI_eq (a := 0) (b := 0) (by omega) (by omega)).mp h
                refine lv_aload_n hx hb dX3_moveTo_78 rfl (lv_at hl 1 rfl) ?_
                refine lv_aload_n hx hb dX3_moveTo_79 rfl (lv_at hl 1 rfl) ?_
                refine va_get (D := D) (ci := 3) (v := .int (su_A f q0 z)) (C := RX3) (T := TX3) (N := 9) hx hb ht inA_X3 hown hK.1 hP 0 rfl rfl 4 (by decide) (ht _ iw_245) (fun _ h9 => h9) rfl dX3_moveTo_80 ?_
                refine lv_aload_n hx hb dX3_moveTo_83 rfl (lv_at hl 1 rfl) ?_
                refine va_get (D := D) (ci := 3) (v := .int (su_B f q0 z)) (C := RX3) (T := TX3) (N := 9) hx hb ht inA_X3 hown hK.1 hP 0 rfl rfl 5 (by decide) (ht _ iw_246) (fun _ h9 => h9) rfl dX3_moveTo_84 ?_
                refine ds_calli (wc := []) (wr := [(w, .inr (3, [.ref r, .int (nI z), .int (nI q0), .int (nI 0), .int (su_A f q0 z), .int (su_B f q0 z), .int wk, .long st, .int ks])), (r, .inr (1, [.ref o, .int (nI n)])), (o, .inl (cI, 1200, .inl f))]) (wo := (fun u17 : Unit => [])) (wn := (fun u17 : Unit => [(w, .inr (3, [.ref r, .int (nI z), .int (nI q0), .int (nI 0), .int (su_A f q0 z), .int (su_B f q0 z), .int wk, .long st, .int ks])), (r, .inr (1, [.ref o, .int (nI n)])), (o, .inl (cI, 1200, .inl f))])) (isC := []) (isR := [0, 1, 2]) hP hD hS hA ⟨rfl, rfl, by decide, by decide, by decide⟩ [0, 1, 2] (by decide) (fun _ => rfl) (fun hPc hDc => va_runSN (As := [.int (su_A f q0 z), .int (su_B f q0 z)]) (rest := [.ref w]) ⟨hx, hb, hml, hown, ht⟩ (c_X1_joinWeak Ll D cI cL (su_A f q0 z) (su_B f q0 z)  H.size) ⟨(va_cnB 2 ht g_X1_joinWeak rfl rfl rfl (nmu_20 hK) (ht _ iw_6) hd_X1_joinWeak ⟨Nat.le_of_ble_eq_true rfl, Nat.le_of_ble_eq_true rfl⟩), (ht _ iw_211), trivial⟩ (ds_pS hPc hDc hK) rfl rfl hl.1 rfl (lv_room (Nat.le_of_ble_eq_true rfl)) dX3_moveTo_87 ⟨Nat.le_of_ble_eq_true rfl, Nat.le_of_ble_eq_true rfl⟩) (fun r16 u17 H locs hp18 hP hD hS => ?_)
                have hP : va_P D vwCl [(w, .inr (3, [.ref r, .int (nI z), .int (nI q0), .int (nI 0), .int (su_A f q0 z), .int (su_B f q0 z), .int wk, .long st, .int ks])), (r, .inr (1, [.ref o, .int (nI n)])), (o, .inl (cI, 1200, .inl f))] H := hP
                have hD : va_D A [(w, .inr (3, [.ref r, .int (nI z), .int (nI q0), .int (nI 0), .int (su_A f q0 z), .int (su_B f q0 z), .int wk, .long st, .int ks])), (r, .inr (1, [.ref o, .int (nI n)])), (o, .inl (cI, 1200, .inl f))] := hD
                have hp18 : r16 = su_J (su_A f q0 z) (su_B f q0 z) := hp18
                replace hp18 := Eq.symm hp18
                subst hp18
                refine va_put (D := D) (ci := 3) (v := .int (su_J (su_A f q0 z) (su_B f q0 z))) (ty := .int) (C := RX3) (T := TX3) (N := 9) hx hb ht inA_X3 tyX3 tyX3_ok nmX3 hown hK.1 hP hD hS 0 rfl rfl 6 (by decide) (ht _ iw_247) (fun _ h9 => h9) rfl (by decide +kernel) rfl rfl (Nat.le_of_ble_eq_true rfl) dX3_moveTo_90 (fun H locs hP hD hS => ?_)
                have hP : va_P D vwCl [(w, .inr (3, [.ref r, .int (nI z), .int (nI q0), .int (nI 0), .int (su_A f q0 z), .int (su_B f q0 z), .int (su_J (su_A f q0 z) (su_B f q0 z)), .long st, .int ks])), (r, .inr (1, [.ref o, .int (nI n)])), (o, .inl (cI, 1200, .inl f))] H := hP
                have hD : va_D A [(w, .inr (3, [.ref r, .int (nI z), .int (nI q0), .int (nI 0), .int (su_A f q0 z), .int (su_B f q0 z), .int (su_J (su_A f q0 z) (su_B f q0 z)), .long st, .int ks])), (r, .inr (1, [.ref o, .int (nI n)])), (o, .inl (cI, 1200, .inl f))] := hD
                refine lv_aload_n hx hb dX3_moveTo_93 rfl (lv_at hl 1 rfl) ?_
                refine lv_iload_n hx hb dX3_moveTo_94 rfl (lv_at hl 2 rfl) ?_
                refine va_put (D := D) (ci := 3) (v := .int (nI q)) (ty := .int) (C := RX3) (T := TX3) (N := 9) hx hb ht inA_X3 tyX3 tyX3_ok nmX3 hown hK.1 hP hD hS 0 rfl rfl 2 (by decide) (ht _ iw_234) (fun _ h9 => h9) rfl (by decide +kernel) rfl rfl (Nat.le_of_ble_eq_true rfl) dX3_moveTo_95 (fun H locs hP hD hS => ?_)
                have hP : va_P D vwCl [(w, .inr (3, [.ref r, .int (nI z), .int (nI q), .int (nI 0), .int (su_A f q0 z), .int (su_B f q0 z), .int (su_J (su_A f q0 z) (su_B f q0 z)), .long st, .int ks])), (r, .inr (1, [.ref o, .int (nI n)])), (o, .inl (cI, 1200, .inl f))] H := hP
                have hD : va_D A [(w, .inr (3, [.ref r, .int (nI z), .int (nI q), .int (nI 0), .int (su_A f q0 z), .int (su_B f q0 z), .int (su_J (su_A f q0 z) (su_B f q0 z)), .long st, .int ks])), (r, .inr (1, [.ref o, .int (nI n)])), (o, .inl (cI, 1200, .inl f))] := hD
                refine lv_aload_n hx hb dX3_moveTo_98 rfl (lv_at hl 1 rfl) ?_
                refine lv_iconst (v := nI 0) hx hb dX3_moveTo_99 (by decide +kernel) ?_
                refine va_put (D := D) (ci := 3) (v := .int (nI 0)) (ty := .boolean) (C := RX3) (T := TX3) (N := 9) hx hb ht inA_X3 tyX3 tyX3_ok nmX3 hown hK.1 hP hD hS 0 rfl rfl 8 (by decide) (ht _ iw_236) (fun _ h9 => h9) rfl (by decide +kernel) (by decide +kernel) (by decide +kernel) (Nat.le_of_ble_eq_true rfl) dX3_moveTo_100 (fun H locs hP hD hS => ?_)
                have hP : va_P D vwCl [(w, .inr (3, [.ref r, .int (nI z), .int (nI q), .int (nI 0), .int (su_A f q0 z), .int (su_B f q0 z), .int (su_J (su_A f q0 z) (su_B f q0 z)), .long st, .int (nI 0)])), (r, .inr (1, [.ref o, .int (nI n)])), (o, .inl (cI, 1200, .inl f))] H := hP
                have hD : va_D A [(w, .inr (3, [.ref r, .int (nI z), .int (nI q), .int (nI 0), .int (su_A f q0 z), .int (su_B f q0 z), .int (su_J (su_A f q0 z) (su_B f q0 z)), .long st, .int (nI 0)])), (r, .inr (1, [.ref o, .int (nI n)])), (o, .inl (cI, 1200, .inl f))] := hD
                exact ds_vret hx hb hr hlk (nI 0, (su_A f q0 z), (su_B f q0 z), su_J ((su_A f q0 z)) ((su_B f q0 z))) (Or.inr ⟨by omega, rfl⟩) hP hD hS (Nat.le_of_ble_eq_true rfl) (Nat.le_of_ble_eq_true rfl) dX3_moveTo_103
              ·
                rw [← nI_0] at h
                have h : ¬ 0 = 0 := fun z9 => h ((nI_eq (a := 0) (b := 0) (by omega) (by omega)).mpr z9)
                exact absurd rfl h
            ·
              rw [← nI_0] at h
              have h : ¬ 0 = 0 := fun z9 => h ((nI_eq (a := 0) (b := 0) (by omega) (by omega)).mpr z9)
              exact absurd rfl h
          ·
            exact absurd ((ds_sublt (by omega) (by omega) (by omega)).mpr (by omega)) h
      ·
        have h : q = (q0 + 1) := (nI_eq (a := q) (b := (q0 + 1)) (by omega) (by omega)).mp h
        subst h
        refine lv_iconst (v := nI 1) hx hb dX3_moveTo_17 (by decide +kernel) ?_
        refine lv_goto (tgt := 22) hx hb dX3_moveTo_18 (by decide) ?_
        refine lv_istore_n (lv' := [(2, .int (nI 1)), (0, .ref w), (1, .int (nI (q0 + 1)))]) hx hb dX3_moveTo_22 rfl hl (Nat.le_of_ble_eq_true rfl) rfl (fun ls hl => ?_)
        refine lv_aload_n hx hb dX3_moveTo_23 rfl (lv_at hl 1 rfl) ?_
        refine lv_iload_n hx hb dX3_moveTo_24 rfl (lv_at hl 2 rfl) ?_
        refine lv_aload_n hx hb dX3_moveTo_25 rfl (lv_at hl 1 rfl) ?_
        refine va_get (D := D) (ci := 3) (v := .ref r) (C := RX3) (T := TX3) (N := 9) hx hb ht inA_X3 hown hK.1 hP 0 rfl rfl 0 (by decide) (ht _ iw_232) (fun _ h9 => h9) rfl dX3_moveTo_26 ?_
        refine va_getN (D := D) (ci := 1) (v := .int (nI n)) (C := RX1) (T := TX1) (N := 2) hx hb ht inA_X1 hown hK.1 hP 1 rfl rfl 1 (by decide) (nfu_11 hK) (fun _ h9 => h9) rfl dX3_moveTo_29 ?_
        refine lv_aload_n hx hb dX3_moveTo_32 rfl (lv_at hl 1 rfl) ?_
        refine va_get (D := D) (ci := 3) (v := .int (nI z)) (C := RX3) (T := TX3) (N := 9) hx hb ht inA_X3 hown hK.1 hP 0 rfl rfl 1 (by decide) (ht _ iw_233) (fun _ h9 => h9) rfl dX3_moveTo_33 ?_
        refine lv_isub hx hb dX3_moveTo_36 ?_
        by_cases hc : q0 + 1 + z ≤ n
        ·
          refine lv_icmp_gt (tgt := 44) hx hb dX3_moveTo_37 (by decide) (fun h => ?_) (fun h => ?_)
          ·
            exact absurd ((ds_sublt (by omega) (by omega) (by omega)).mp h) (by omega)
          ·
            refine lv_iconst (v := nI 1) hx hb dX3_moveTo_40 (by decide +kernel) ?_
            refine lv_goto (tgt := 45) hx hb dX3_moveTo_41 (by decide) ?_
            refine va_put (D := D) (ci := 3) (v := .int (nI 1)) (ty := .boolean) (C := RX3) (T := TX3) (N := 9) hx hb ht inA_X3 tyX3 tyX3_ok nmX3 hown hK.1 hP hD hS 0 rfl rfl 3 (by decide) (ht _ iw_235) (fun _ h9 => h9) rfl (by decide +kernel) (by decide +kernel) (by decide +kernel) (Nat.le_of_ble_eq_true rfl) dX3_moveTo_45 (fun H locs hP hD hS => ?_)
            have hP : va_P D vwCl [(w, .inr (3, [.ref r, .int (nI z), .int (nI q0), .int (nI 1), .int (su_A f q0 z), .int (su_B f q0 z), .int wk, .long st, .int ks])), (r, .inr (1, [.ref o, .int (nI n)])), (o, .inl (cI, 1200, .inl f))] H := hP
            have hD : va_D A [(w, .inr (3, [.ref r, .int (nI z), .int (nI q0), .int (nI 1), .int (su_A f q0 z), .int (su_B f q0 z), .int wk, .long st, .int ks])), (r, .inr (1, [.ref o, .int (nI n)])), (o, .inl (cI, 1200, .inl f))] := hD
            refine lv_aload_n hx hb dX3_moveTo_48 rfl (lv_at hl 1 rfl) ?_
            refine va_get (D := D) (ci := 3) (v := .int (nI 1)) (C := RX3) (T := TX3) (N := 9) hx hb ht inA_X3 hown hK.1 hP 0 rfl rfl 3 (by decide) (ht _ iw_235) (fun _ h9 => h9) rfl dX3_moveTo_49 ?_
            refine lv_if_eq (tgt := 66) hx hb dX3_moveTo_52 (by decide) (fun h => ?_) (fun h => ?_)
            ·
              rw [← nI_0] at h
              have h : 1 = 0 := (nI_eq (a := 1) (b := 0) (by omega) (by omega)).mp h
              exact absurd h (by decide)
            ·
              rw [← nI_0] at h
              have h : ¬ 1 = 0 := fun z9 => h ((nI_eq (a := 1) (b := 0) (by omega) (by omega)).mpr z9)
              refine lv_iload_n hx hb dX3_moveTo_55 rfl (lv_at hl 0 rfl) ?_
              refine lv_if_eq (tgt := 66) hx hb dX3_moveTo_56 (by decide) (fun h => ?_) (fun h => ?_)
              ·
                rw [← nI_0] at h
                have h : 1 = 0 := (nI_eq (a := 1) (b := 0) (by omega) (by omega)).mp h
                exact absurd h (by decide)
              ·
                rw [← nI_0] at h
                have h : ¬ 1 = 0 := fun z9 => h ((nI_eq (a := 1) (b := 0) (by omega) (by omega)).mpr z9)
                refine lv_aload_n hx hb dX3_moveTo_59 rfl (lv_at hl 1 rfl) ?_
                refine ds_callv (wc := [(w, .inr (3, [.ref r, .int (nI z), .int (nI q0), .int (nI 1), .int (su_A f q0 z), .int (su_B f q0 z), .int wk, .long st, .int ks])), (r, .inr (1, [.ref o, .int (nI n)])), (o, .inl (cI, 1200, .inl f))]) (wr := []) (wo := (fun u20 : Unit => [(w, .inr (3, [.ref r, .int (nI z), .int (nI q0), .int (nI 1), .int (su_A f (q0 + 1) z), .int (su_B f (q0 + 1) z), .int wk, .long st, .int ks])), (r, .inr (1, [.ref o, .int (nI n)])), (o, .inl (cI, 1200, .inl f))])) (wn := (fun u20 : Unit => [(w, .inr (3, [.ref r, .int (nI z), .int (nI q0), .int (nI 1), .int (su_A f (q0 + 1) z), .int (su_B f (q0 + 1) z), .int wk, .long st, .int ks])), (r, .inr (1, [.ref o, .int (nI n)])), (o, .inl (cI, 1200, .inl f))])) (isC := [0, 1, 2]) (isR := []) hP hD hS hA ⟨rfl, rfl, by decide, by decide, by decide⟩ [0, 1, 2] (by decide) (fun _ => rfl) (fun hPc hDc => va_runV (As := []) (rest := []) ⟨hx, hb, hml, hown, ht⟩ (c_X3_roll Ll D cI cL w r z q0 (nI 1) wk st ks o n f (by omega) H.size) ⟨(callB_of 0 ht g_X3_roll rfl rfl rfl (ht _ iw_18) (ht _ iw_239) hd_X3_roll ⟨Nat.le_of_ble_eq_true rfl, Nat.le_of_ble_eq_true rfl⟩), (ht _ iw_240), (ht _ iw_241)⟩ (ds_pV hPc hDc hK (q0 := 0) rfl rfl) rfl rfl hl.1 rfl (lv_room (Nat.le_of_ble_eq_true rfl)) dX3_moveTo_60 ⟨Nat.le_of_ble_eq_true rfl, Nat.le_of_ble_eq_true rfl⟩) (fun u20 H locs hp21 hP hD hS => ?_)
                have hP : va_P D vwCl [(w, .inr (3, [.ref r, .int (nI z), .int (nI q0), .int (nI 1), .int (su_A f (q0 + 1) z), .int (su_B f (q0 + 1) z), .int wk, .long st, .int ks])), (r, .inr (1, [.ref o, .int (nI n)])), (o, .inl (cI, 1200, .inl f))] H := hP
                have hD : va_D A [(w, .inr (3, [.ref r, .int (nI z), .int (nI q0), .int (nI 1), .int (su_A f (q0 + 1) z), .int (su_B f (q0 + 1) z), .int wk, .long st, .int ks])), (r, .inr (1, [.ref o, .int (nI n)])), (o, .inl (cI, 1200, .inl f))] := hD
                have hp21 : True := hp21
                refine lv_goto (tgt := 78) hx hb dX3_moveTo_63 (by decide) ?_
                refine lv_aload_n hx hb dX3_moveTo_78 rfl (lv_at hl 1 rfl) ?_
                refine lv_aload_n hx hb dX3_moveTo_79 rfl (lv_at hl 1 rfl) ?_
                refine va_get (D := D) (ci := 3) (v := .int (su_A f (q0 + 1) z)) (C := RX3) (T := TX3) (N := 9) hx hb ht inA_X3 hown hK.1 hP 0 rfl rfl 4 (by decide) (ht _ iw_245) (fun _ h9 => h9) rfl dX3_moveTo_80 ?_
                refine lv_aload_n hx hb dX3_moveTo_83 rfl (lv_at hl 1 rfl) ?_
                refine va_get (D := D) (ci := 3) (v := .int (su_B f (q0 + 1) z)) (C := RX3) (T := TX3) (N := 9) hx hb ht inA_X3 hown hK.1 hP 0 rfl rfl 5 (by decide) (ht _ iw_246) (fun _ h9 => h9) rfl dX3_moveTo_84 ?_
                refine ds_calli (wc := []) (wr := [(w, .inr (3, [.ref r, .int (nI z), .int (nI q0), .int (nI 1), .int (su_A f (q0 + 1) z), .int (su_B f (q0 + 1) z), .int wk, .long st, .int ks])), (r, .inr (1, [.ref o, .int (nI n)])), (o, .inl (cI, 1200, .inl f))]) (wo := (fun u23 : Unit => [])) (wn := (fun u23 : Unit => [(w, .inr (3, [.ref r, .int (nI z), .int (nI q0), .int (nI 1), .int (su_A f (q0 + 1) z), .int (su_B f (q0 + 1) z), .int wk, .long st, .int ks])), (r, .inr (1, [.ref o, .int (nI n)])), (o, .inl (cI, 1200, .inl f))])) (isC := []) (isR := [0, 1, 2]) hP hD hS hA ⟨rfl, rfl, by decide, by decide, by decide⟩ [0, 1, 2] (by decide) (fun _ => rfl) (fun hPc hDc => va_runSN (As := [.int (su_A f (q0 + 1) z), .int (su_B f (q0 + 1) z)]) (rest := [.ref w]) ⟨hx, hb, hml, hown, ht⟩ (c_X1_joinWeak Ll D cI cL (su_A f (q0 + 1) z) (su_B f (q0 + 1) z)  H.size) ⟨(va_cnB 2 ht g_X1_joinWeak rfl rfl rfl (nmu_20 hK) (ht _ iw_6) hd_X1_joinWeak ⟨Nat.le_of_ble_eq_true rfl, Nat.le_of_ble_eq_true rfl⟩), (ht _ iw_211), trivial⟩ (ds_pS hPc hDc hK) rfl rfl hl.1 rfl (lv_room (Nat.le_of_ble_eq_true rfl)) dX3_moveTo_87 ⟨Nat.le_of_ble_eq_true rfl, Nat.le_of_ble_eq_true rfl⟩) (fun r22 u23 H locs hp24 hP hD hS => ?_)
                have hP : va_P D vwCl [(w, .inr (3, [.ref r, .int (nI z), .int (nI q0), .int (nI 1), .int (su_A f (q0 + 1) z), .int (su_B f (q0 + 1) z), .int wk, .long st, .int ks])), (r, .inr (1, [.ref o, .int (nI n)])), (o, .inl (cI, 1200, .inl f))] H := hP
                have hD : va_D A [(w, .inr (3, [.ref r, .int (nI z), .int (nI q0), .int (nI 1), .int (su_A f (q0 + 1) z), .int (su_B f (q0 + 1) z), .int wk, .long st, .int ks])), (r, .inr (1, [.ref o, .int (nI n)])), (o, .inl (cI, 1200, .inl f))] := hD
                have hp24 : r22 = su_J (su_A f (q0 + 1) z) (su_B f (q0 + 1) z) := hp24
                replace hp24 := Eq.symm hp24
                subst hp24
                refine va_put (D := D) (ci := 3) (v := .int (su_J (su_A f (q0 + 1) z) (su_B f (q0 + 1) z))) (ty := .int) (C := RX3) (T := TX3) (N := 9) hx hb ht inA_X3 tyX3 tyX3_ok nmX3 hown hK.1 hP hD hS 0 rfl rfl 6 (by decide) (ht _ iw_247) (fun _ h9 => h9) rfl (by decide +kernel) rfl rfl (Nat.le_of_ble_eq_true rfl) dX3_moveTo_90 (fun H locs hP hD hS => ?_)
                have hP : va_P D vwCl [(w, .inr (3, [.ref r, .int (nI z), .int (nI q0), .int (nI 1), .int (su_A f (q0 + 1) z), .int (su_B f (q0 + 1) z), .int (su_J (su_A f (q0 + 1) z) (su_B f (q0 + 1) z)), .long st, .int ks])), (r, .inr (1, [.ref o, .int (nI n)])), (o, .inl (cI, 1200, .inl f))] H := hP
                have hD : va_D A [(w, .inr (3, [.ref r, .int (nI z), .int (nI q0), .int (nI 1), .int (su_A f (q0 + 1) z), .int (su_B f (q0 + 1) z), .int (su_J (su_A f (q0 + 1) z) (su_B f (q0 + 1) z)), .long st, .int ks])), (r, .inr (1, [.ref o, .int (nI n)])), (o, .inl (cI, 1200, .inl f))] := hD
                refine lv_aload_n hx hb dX3_moveTo_93 rfl (lv_at hl 1 rfl) ?_
                refine lv_iload_n hx hb dX3_moveTo_94 rfl (lv_at hl 2 rfl) ?_
                refine va_put (D := D) (ci := 3) (v := .int (nI (q0 + 1))) (ty := .int) (C := RX3) (T := TX3) (N := 9) hx hb ht inA_X3 tyX3 tyX3_ok nmX3 hown hK.1 hP hD hS 0 rfl rfl 2 (by decide) (ht _ iw_234) (fun _ h9 => h9) rfl (by decide +kernel) rfl rfl (Nat.le_of_ble_eq_true rfl) dX3_moveTo_95 (fun H locs hP hD hS => ?_)
                have hP : va_P D vwCl [(w, .inr (3, [.ref r, .int (nI z), .int (nI (q0 + 1)), .int (nI 1), .int (su_A f (q0 + 1) z), .int (su_B f (q0 + 1) z), .int (su_J (su_A f (q0 + 1) z) (su_B f (q0 + 1) z)), .long st, .int ks])), (r, .inr (1, [.ref o, .int (nI n)])), (o, .inl (cI, 1200, .inl f))] H := hP
                have hD : va_D A [(w, .inr (3, [.ref r, .int (nI z), .int (nI (q0 + 1)), .int (nI 1), .int (su_A f (q0 + 1) z), .int (su_B f (q0 + 1) z), .int (su_J (su_A f (q0 + 1) z) (su_B f (q0 + 1) z)), .long st, .int ks])), (r, .inr (1, [.ref o, .int (nI n)])), (o, .inl (cI, 1200, .inl f))] := hD
                refine lv_aload_n hx hb dX3_moveTo_98 rfl (lv_at hl 1 rfl) ?_
                refine lv_iconst (v := nI 0) hx hb dX3_moveTo_99 (by decide +kernel) ?_
                refine va_put (D := D) (ci := 3) (v := .int (nI 0)) (ty := .boolean) (C := RX3) (T := TX3) (N := 9) hx hb ht inA_X3 tyX3 tyX3_ok nmX3 hown hK.1 hP hD hS 0 rfl rfl 8 (by decide) (ht _ iw_236) (fun _ h9 => h9) rfl (by decide +kernel) (by decide +kernel) (by decide +kernel) (Nat.le_of_ble_eq_true rfl) dX3_moveTo_100 (fun H locs hP hD hS => ?_)
                have hP : va_P D vwCl [(w, .inr (3, [.ref r, .int (nI z), .int (nI (q0 + 1)), .int (nI 1), .int (su_A f (q0 + 1) z), .int (su_B f (q0 + 1) z), .int (su_J (su_A f (q0 + 1) z) (su_B f (q0 + 1) z)), .long st, .int (nI 0)])), (r, .inr (1, [.ref o, .int (nI n)])), (o, .inl (cI, 1200, .inl f))] H := hP
                have hD : va_D A [(w, .inr (3, [.ref r, .int (nI z), .int (nI (q0 + 1)), .int (nI 1), .int (su_A f (q0 + 1) z), .int (su_B f (q0 + 1) z), .int (su_J (su_A f (q0 + 1) z) (su_B f (q0 + 1) z)), .long st, .int (nI 0)])), (r, .inr (1, [.ref o, .int (nI n)])), (o, .inl (cI, 1200, .inl f))] := hD
                exact ds_vret hx hb hr hlk (nI 1, su_A f (q0 + 1) z, su_B f (q0 + 1) z, su_W f (q0 + 1) z) (Or.inl ⟨hc, rfl, rfl, rfl, rfl⟩) hP hD hS (Nat.le_of_ble_eq_true rfl) (Nat.le_of_ble_eq_true rfl) dX3_moveTo_103
        ·
          refine lv_icmp_gt (tgt := 44) hx hb dX3_moveTo_37 (by decide) (fun h => ?_) (fun h => ?_)
          ·
            refine lv_iconst (v := nI 0) hx hb dX3_moveTo_44 (by decide +kernel) ?_
            refine va_put (D := D) (ci := 3) (v := .int (nI 0)) (ty := .boolean) (C := RX3) (T := TX3) (N := 9) hx hb ht inA_X3 tyX3 tyX3_ok nmX3 hown hK.1 hP hD hS 0 rfl rfl 3 (by decide) (ht _ iw_235) (fun _ h9 => h9) rfl (by decide +kernel) (by decide +kernel) (by decide +kernel) (Nat.le_of_ble_eq_true rfl) dX3_moveTo_45 (fun H locs hP hD hS => ?_)
            have hP : va_P D vwCl [(w, .inr (3, [.ref r, .int (nI z), .int (nI q0), .int (nI 0), .int (su_A f q0 z), .int (su_B f q0 z), .int wk, .long st, .int ks])), (r, .inr (1, [.ref o, .int (nI n)])), (o, .inl (cI, 1200, .inl f))] H := hP
            have hD : va_D A [(w, .inr (3, [.ref r, .int (nI z), .int (nI q0), .int (nI 0), .int (su_A f q0 z), .int (su_B f q0 z), .int wk, .long st, .int ks])), (r, .inr (1, [.ref o, .int (nI n)])), (o, .inl (cI, 1200, .inl f))] := hD
            refine lv_aload_n hx hb dX3_moveTo_48 rfl (lv_at hl 1 rfl) ?_
            refine va_get (D := D) (ci := 3) (v := .int (nI 0)) (C := RX3) (T := TX3) (N := 9) hx hb ht inA_X3 hown hK.1 hP 0 rfl rfl 3 (by decide) (ht _ iw_235) (fun _ h9 => h9) rfl dX3_moveTo_49 ?_
            refine lv_if_eq (tgt := 66) hx hb dX3_moveTo_52 (by decide) (fun h => ?_) (fun h => ?_)
            ·
              rw [← nI_0] at h
              have h : 0 = 0 := (nI_eq (a := 0) (b := 0) (by omega) (by omega)).mp h
              refine lv_aload_n hx hb dX3_moveTo_66 rfl (lv_at hl 1 rfl) ?_
              refine va_get (D := D) (ci := 3) (v := .int (nI 0)) (C := RX3) (T := TX3) (N := 9) hx hb ht inA_X3 hown hK.1 hP 0 rfl rfl 3 (by decide) (ht _ iw_235) (fun _ h9 => h9) rfl dX3_moveTo_67 ?_
              refine lv_if_eq (tgt := 78) hx hb dX3_moveTo_70 (by decide) (fun h => ?_) (fun h => ?_)
              ·
                rw [← nI_0] at h
                have h : 0 = 0 := (nI_eq (a := 0) (b := 0) (by omega) (by omega)).mp h
                refine lv_aload_n hx hb dX3_moveTo_78 rfl (lv_at hl 1 rfl) ?_
                refine lv_aload_n hx hb dX3_moveTo_79 rfl (lv_at hl 1 rfl) ?_
                refine va_get (D := D) (ci := 3) (v := .int (su_A f q0 z)) (C := RX3) (T := TX3) (N := 9) hx hb ht inA_X3 hown hK.1 hP 0 rfl rfl 4 (by decide) (ht _ iw_245) (fun _ h9 => h9) rfl dX3_moveTo_80 ?_
                refine lv_aload_n hx hb dX3_moveTo_83 rfl (lv_at hl 1 rfl) ?_
                refine va_get (D := D) (ci := 3) (v := .int (su_B f q0 z)) (C := RX3) (T := TX3) (N := 9) hx hb ht inA_X3 hown hK.1 hP 0 rfl rfl 5 (by decide) (ht _ iw_246) (fun _ h9 => h9) rfl dX3_moveTo_84 ?_
                refine ds_calli (wc := []) (wr := [(w, .inr (3, [.ref r, .int (nI z), .int (nI q0), .int (nI 0), .int (su_A f q0 z), .int (su_B f q0 z), .int wk, .long st, .int ks])), (r, .inr (1, [.ref o, .int (nI n)])), (o, .inl (cI, 1200, .inl f))]) (wo := (fun u26 : Unit => [])) (wn := (fun u26 : Unit => [(w, .inr (3, [.ref r, .int (nI z), .int (nI q0), .int (nI 0), .int (su_A f q0 z), .int (su_B f q0 z), .int wk, .long st, .int ks])), (r, .inr (1, [.ref o, .int (nI n)])), (o, .inl (cI, 1200, .inl f))])) (isC := []) (isR := [0, 1, 2]) hP hD hS hA ⟨rfl, rfl, by decide, by decide, by decide⟩ [0, 1, 2] (by decide) (fun _ => rfl) (fun hPc hDc => va_runSN (As := [.int (su_A f q0 z), .int (su_B f q0 z)]) (rest := [.ref w]) ⟨hx, hb, hml, hown, ht⟩ (c_X1_joinWeak Ll D cI cL (su_A f q0 z) (su_B f q0 z)  H.size) ⟨(va_cnB 2 ht g_X1_joinWeak rfl rfl rfl (nmu_20 hK) (ht _ iw_6) hd_X1_joinWeak ⟨Nat.le_of_ble_eq_true rfl, Nat.le_of_ble_eq_true rfl⟩), (ht _ iw_211), trivial⟩ (ds_pS hPc hDc hK) rfl rfl hl.1 rfl (lv_room (Nat.le_of_ble_eq_true rfl)) dX3_moveTo_87 ⟨Nat.le_of_ble_eq_true rfl, Nat.le_of_ble_eq_true rfl⟩) (fun r25 u26 H locs hp27 hP hD hS => ?_)
                have hP : va_P D vwCl [(w, .inr (3, [.ref r, .int (nI z), .int (nI q0), .int (nI 0), .int (su_A f q0 z), .int (su_B f q0 z), .int wk, .long st, .int ks])), (r, .inr (1, [.ref o, .int (nI n)])), (o, .inl (cI, 1200, .inl f))] H := hP
                have hD : va_D A [(w, .inr (3, [.ref r, .int (nI z), .int (nI q0), .int (nI 0), .int (su_A f q0 z), .int (su_B f q0 z), .int wk, .long st, .int ks])), (r, .inr (1, [.ref o, .int (nI n)])), (o, .inl (cI, 1200, .inl f))] := hD
                have hp27 : r25 = su_J (su_A f q0 z) (su_B f q0 z) := hp27
                replace hp27 := Eq.symm hp27
                subst hp27
                refine va_put (D := D) (ci := 3) (v := .int (su_J (su_A f q0 z) (su_B f q0 z))) (ty := .int) (C := RX3) (T := TX3) (N := 9) hx hb ht inA_X3 tyX3 tyX3_ok nmX3 hown hK.1 hP hD hS 0 rfl rfl 6 (by decide) (ht _ iw_247) (fun _ h9 => h9) rfl (by decide +kernel) rfl rfl (Nat.le_of_ble_eq_true rfl) dX3_moveTo_90 (fun H locs hP hD hS => ?_)
                have hP : va_P D vwCl [(w, .inr (3, [.ref r, .int (nI z), .int (nI q0), .int (nI 0), .int (su_A f q0 z), .int (su_B f q0 z), .int (su_J (su_A f q0 z) (su_B f q0 z)), .long st, .int ks])), (r, .inr (1, [.ref o, .int (nI n)])), (o, .inl (cI, 1200, .inl f))] H := hP
                have hD : va_D A [(w, .inr (3, [.ref r, .int (nI z), .int (nI q0), .int (nI 0), .int (su_A f q0 z), .int (su_B f q0 z), .int (su_J (su_A f q0 z) (su_B f q0 z)), .long st, .int ks])), (r, .inr (1, [.ref o, .int (nI n)])), (o, .inl (cI, 1200, .inl f))] := hD
                refine lv_aload_n hx hb dX3_moveTo_93 rfl (lv_at hl 1 rfl) ?_
                refine lv_iload_n hx hb dX3_moveTo_94 rfl (lv_at hl 2 rfl) ?_
                refine va_put (D := D) (ci := 3) (v := .int (nI (q0 + 1))) (ty := .int) (C := RX3) (T := TX3) (N := 9) hx hb ht inA_X3 tyX3 tyX3_ok nmX3 hown hK.1 hP hD hS 0 rfl rfl 2 (by decide) (ht _ iw_234) (fun _ h9 => h9) rfl (by decide +kernel) rfl rfl (Nat.le_of_ble_eq_true rfl) dX3_moveTo_95 (fun H locs hP hD hS => ?_)
                have hP : va_P D vwCl [(w, .inr (3, [.ref r, .int (nI z), .int (nI (q0 + 1)), .int (nI 0), .int (su_A f q0 z), .int (su_B f q0 z), .int (su_J (su_A f q0 z) (su_B f q0 z)), .long st, .int ks])), (r, .inr (1, [.ref o, .int (nI n)])), (o, .inl (cI, 1200, .inl f))] H := hP
                have hD : va_D A [(w, .inr (3, [.ref r, .int (nI z), .int (nI (q0 + 1)), .int (nI 0), .int (su_A f q0 z), .int (su_B f q0 z), .int (su_J (su_A f q0 z) (su_B f q0 z)), .long st, .int ks])), (r, .inr (1, [.ref o, .int (nI n)])), (o, .inl (cI, 1200, .inl f))] := hD
                refine lv_aload_n hx hb dX3_moveTo_98 rfl (lv_at hl 1 rfl) ?_
                refine lv_iconst (v := nI 0) hx hb dX3_moveTo_99 (by decide +kernel) ?_
                refine va_put (D := D) (ci := 3) (v := .int (nI 0)) (ty := .boolean) (C := RX3) (T := TX3) (N := 9) hx hb ht inA_X3 tyX3 tyX3_ok nmX3 hown hK.1 hP hD hS 0 rfl rfl 8 (by decide) (ht _ iw_236) (fun _ h9 => h9) rfl (by decide +kernel) (by decide +kernel) (by decide +kernel) (Nat.le_of_ble_eq_true rfl) dX3_moveTo_100 (fun H locs hP hD hS => ?_)
                have hP : va_P D vwCl [(w, .inr (3, [.ref r, .int (nI z), .int (nI (q0 + 1)), .int (nI 0), .int (su_A f q0 z), .int (su_B f q0 z), .int (su_J (su_A f q0 z) (su_B f q0 z)), .long st, .int (nI 0)])), (r, .inr (1, [.ref o, .int (nI n)])), (o, .inl (cI, 1200, .inl f))] H := hP
                have hD : va_D A [(w, .inr (3, [.ref r, .int (nI z), .int (nI (q0 + 1)), .int (nI 0), .int (su_A f q0 z), .int (su_B f q0 z), .int (su_J (su_A f q0 z) (su_B f q0 z)), .long st, .int (nI 0)])), (r, .inr (1, [.ref o, .int (nI n)])), (o, .inl (cI, 1200, .inl f))] := hD
                exact ds_vret hx hb hr hlk (nI 0, (su_A f q0 z), (su_B f q0 z), su_J ((su_A f q0 z)) ((su_B f q0 z))) (Or.inr ⟨by omega, rfl⟩) hP hD hS (Nat.le_of_ble_eq_true rfl) (Nat.le_of_ble_eq_true rfl) dX3_moveTo_103
              ·
                rw [← nI_0] at h
                have h : ¬ 0 = 0 := fun z9 => h ((nI_eq (a := 0) (b := 0) (by omega) (by omega)).mpr z9)
                exact absurd rfl h
            ·
              rw [← nI_0] at h
              have h : ¬ 0 = 0 := fun z9 => h ((nI_eq (a := 0) (b := 0) (by omega) (by omega)).mpr z9)
              exact absurd rfl h
          ·
            exact absurd ((ds_sublt (by omega) (by omega) (by omega)).mpr (by omega)) h
end
section
set_option maxHeartbeats 4000000 in
set_option maxRecDepth 100000 in
theorem c_X3_shows (Ll : Launch) (D : va_G) (cI cL : ClassId) (w : Nat) (r : Nat) (z : Nat) (q : Nat) (ins : Int32) (a : Int32) (b : Int32) (wk : Int32) (st : Int64) (ks : Int32) (o : Nat) (n : Nat) (f : Nat → Int32) (wv : Int32) (sv : Int64) (mk : Int64) (hz : ins = 0 ∨ (ins = 1 ∧ q + z ≤ 1200)) (hk : dw_S f z q ks st) (sz : Nat) : Met Ll yX3_shows wsX3_shows { frames := 2, cells := 0, slots := 0, locals := 45 } (ds_P D cI cL [.ref w, .int wv, .long sv, .long mk] [(w, .inr (3, [.ref r, .int (nI z), .int (nI q), .int ins, .int a, .int b, .int wk, .long st, .int ks])), (r, .inr (1, [.ref o, .int (nI n)])), (o, .inl (cI, 1200, .inl f))] sz) (ds_Qi D (fun (r : Int32) (u : Int64 × Int32) => ((r = 1 ∧ ins = 1 ∧ wk = wv ∧ (su_S f q z ^^^ sv) &&& mk = 0) ∨ (r = 0 ∧ ¬ (ins = 1 ∧ wk = wv ∧ (su_S f q z ^^^ sv) &&& mk = 0))) ∧ dw_S f z q u.2 u.1) (fun u : Int64 × Int32 => [(w, .inr (3, [.ref r, .int (nI z), .int (nI q), .int ins, .int a, .int b, .int wk, .long u.1, .int u.2])), (r, .inr (1, [.ref o, .int (nI n)])), (o, .inl (cI, 1200, .inl f))]) (va_A [(w, .inr (3, [.ref r, .int (nI z), .int (nI q), .int ins, .int a, .int b, .int wk, .long st, .int ks])), (r, .inr (1, [.ref o, .int (nI n)])), (o, .inl (cI, 1200, .inl f))] sz)) 0 0 (va_A [(w, .inr (3, [.ref r, .int (nI z), .int (nI q), .int ins, .int a, .int b, .int wk, .long st, .int ks])), (r, .inr (1, [.ref o, .int (nI n)])), (o, .inl (cI, 1200, .inl f))] sz) := by
  refine ds_enter (Qf := (fun A9 => ds_Qi D (fun (r : Int32) (u : Int64 × Int32) => ((r = 1 ∧ ins = 1 ∧ wk = wv ∧ (su_S f q z ^^^ sv) &&& mk = 0) ∨ (r = 0 ∧ ¬ (ins = 1 ∧ wk = wv ∧ (su_S f q z ^^^ sv) &&& mk = 0))) ∧ dw_S f z q u.2 u.1) (fun u : Int64 × Int32 => [(w, .inr (3, [.ref r, .int (nI z), .int (nI q), .int ins, .int a, .int b, .int wk, .long u.1, .int u.2])), (r, .inr (1, [.ref o, .int (nI n)])), (o, .inl (cI, 1200, .inl f))]) A9)) (cc := cX3_shows) (maxL := 6) (ret := (some .boolean)) (by decide) rfl (Nat.le_of_ble_eq_true rfl) ?_
  intro Pp Ee Ss Mm Aa Bb Me Cc hx hb hml hr ht hown hlk hnm A H locs hA hP hD hS hK ls hl
  have hl : lv_has ls 6 [(0, .ref w), (1, .int wv), (2, .long sv), (4, .long mk)] := hl
  change Ss.vm.findClass RX3 = some Mm.cls at hown
  by_cases hi0 : ins = 0
  ·
    subst hi0
    refine lv_aload_n hx hb dX3_shows_0 rfl (lv_at hl 0 rfl) ?_
    refine va_get (D := D) (ci := 3) (v := .int 0) (C := RX3) (T := TX3) (N := 9) hx hb ht inA_X3 hown hK.1 hP 0 rfl rfl 3 (by decide) (ht _ iw_235) (fun _ h9 => h9) rfl dX3_shows_1 ?_
    refine lv_if_eq (tgt := 33) hx hb dX3_shows_4 (by decide) (fun h => ?_) (fun h => ?_)
    ·
      refine lv_iconst (v := nI 0) hx hb dX3_shows_33 (by decide +kernel) ?_
      exact ds_iret hx hb hr hlk (by decide +kernel) (st, ks) ⟨Or.inr ⟨rfl, fun z => absurd z.1 (by decide)⟩, hk⟩ hP hD hS (Nat.le_of_ble_eq_true rfl) (Nat.le_of_ble_eq_true rfl) dX3_shows_34
    ·
      exact absurd rfl h
  ·
    obtain ⟨e1, hq⟩ := hz.resolve_left hi0
    subst e1
    refine lv_aload_n hx hb dX3_shows_0 rfl (lv_at hl 0 rfl) ?_
    refine va_get (D := D) (ci := 3) (v := .int 1) (C := RX3) (T := TX3) (N := 9) hx hb ht inA_X3 hown hK.1 hP 0 rfl rfl 3 (by decide) (ht _ iw_235) (fun _ h9 => h9) rfl dX3_shows_1 ?_
    refine lv_if_eq (tgt := 33) hx hb dX3_shows_4 (by decide) (fun h => ?_) (fun h => ?_)
    ·
      exact absurd h (by decide)
    ·
      refine lv_aload_n hx hb dX3_shows_7 rfl (lv_at hl 0 rfl) ?_
      refine va_get (D := D) (ci := 3) (v := .int wk) (C := RX3) (T := TX3) (N := 9) hx hb ht inA_X3 hown hK.1 hP 0 rfl rfl 6 (by decide) (ht _ iw_247) (fun _ h9 => h9) rfl dX3_shows_8 ?_
      refine lv_iload_n hx hb dX3_shows_11 rfl (lv_at hl 1 rfl) ?_
      refine lv_icmp_ne (tgt := 33) hx hb dX3_shows_12 (by decide) (fun h1 => ?_) (fun h1 => ?_)
      ·
        refine lv_iconst (v := nI 0) hx hb dX3_shows_33 (by decide +kernel) ?_
        exact ds_iret hx hb hr hlk (by decide +kernel) (st, ks) ⟨Or.inr ⟨rfl, fun z => h1 z.2.1⟩, hk⟩ hP hD hS (Nat.le_of_ble_eq_true rfl) (Nat.le_of_ble_eq_true rfl) dX3_shows_34
      ·
        refine lv_aload_n hx hb dX3_shows_15 rfl (lv_at hl 0 rfl) ?_
        refine ds_calll (wc := [(w, .inr (3, [.ref r, .int (nI z), .int (nI q), .int 1, .int a, .int b, .int wk, .long st, .int ks])), (r, .inr (1, [.ref o, .int (nI n)])), (o, .inl (cI, 1200, .inl f))]) (wr := []) (wo := (fun u2 : Unit => [(w, .inr (3, [.ref r, .int (nI z), .int (nI q), .int 1, .int a, .int b, .int wk, .long (su_S f q z), .int 1])), (r, .inr (1, [.ref o, .int (nI n)])), (o, .inl (cI, 1200, .inl f))])) (wn := (fun u2 : Unit => [(w, .inr (3, [.ref r, .int (nI z), .int (nI q), .int 1, .int a, .int b, .int wk, .long (su_S f q z), .int 1])), (r, .inr (1, [.ref o, .int (nI n)])), (o, .inl (cI, 1200, .inl f))])) (isC := [0, 1, 2]) (isR := []) hP hD hS hA ⟨rfl, rfl, by decide, by decide, by decide⟩ [0, 1, 2] (by decide) (fun _ => rfl) (fun hPc hDc => va_runV (As := []) (rest := []) ⟨hx, hb, hml, hown, ht⟩ (c_X3_strongSumHere Ll D cI cL w r z q 1 a b wk st ks o n f hq hk H.size) ⟨(callB_of 0 ht g_X3_strongSumHere rfl rfl rfl (ht _ iw_18) (ht _ iw_251) hd_X3_strongSumHere ⟨Nat.le_of_ble_eq_true rfl, Nat.le_of_ble_eq_true rfl⟩), (ht _ iw_252), (ht _ iw_253)⟩ (ds_pV hPc hDc hK (q0 := 0) rfl rfl) rfl rfl hl.1 rfl (lv_room (Nat.le_of_ble_eq_true rfl)) dX3_shows_16 ⟨Nat.le_of_ble_eq_true rfl, Nat.le_of_ble_eq_true rfl⟩) (fun r1 u2 H locs hp3 hP hD hS => ?_)
        have hP : va_P D vwCl [(w, .inr (3, [.ref r, .int (nI z), .int (nI q), .int 1, .int a, .int b, .int wk, .long (su_S f q z), .int 1])), (r, .inr (1, [.ref o, .int (nI n)])), (o, .inl (cI, 1200, .inl f))] H := hP
        have hD : va_D A [(w, .inr (3, [.ref r, .int (nI z), .int (nI q), .int 1, .int a, .int b, .int wk, .long (su_S f q z), .int 1])), (r, .inr (1, [.ref o, .int (nI n)])), (o, .inl (cI, 1200, .inl f))] := hD
        have hp3 : r1 = su_S f q z := hp3
        replace hp3 := Eq.symm hp3
        subst hp3
        refine lv_lload_n hx hb dX3_shows_19 rfl (lv_at hl 2 rfl) ?_
        refine lv_lxor hx hb dX3_shows_20 ?_
        refine lv_lload hx hb dX3_shows_21 (lv_at hl 3 rfl) ?_
        refine lv_land hx hb dX3_shows_23 ?_
        refine lv_lconst (v := 0) hx hb dX3_shows_24 (by decide +kernel) ?_
        refine W.lcmp hx hb dX3_shows_25 ?_
        refine lv_if_ne (tgt := 33) hx hb dX3_shows_26 (by decide) (fun h2 => ?_) (fun h2 => ?_)
        ·
          refine lv_iconst (v := nI 0) hx hb dX3_shows_33 (by decide +kernel) ?_
          exact ds_iret hx hb hr hlk (by decide +kernel) (su_S f q z, 1) ⟨Or.inr ⟨rfl, fun z => h2 ((lg_cmp_eq _ _).mpr z.2.2)⟩, Or.inr ⟨rfl, rfl⟩⟩ hP hD hS (Nat.le_of_ble_eq_true rfl) (Nat.le_of_ble_eq_true rfl) dX3_shows_34
        ·
          refine lv_iconst (v := nI 1) hx hb dX3_shows_29 (by decide +kernel) ?_
          refine lv_goto (tgt := 34) hx hb dX3_shows_30 (by decide) ?_
          exact ds_iret hx hb hr hlk (by decide +kernel) (su_S f q z, 1) ⟨Or.inl ⟨rfl, rfl, h1, (lg_cmp_eq _ _).mp h2⟩, Or.inr ⟨rfl, rfl⟩⟩ hP hD hS (Nat.le_of_ble_eq_true rfl) (Nat.le_of_ble_eq_true rfl) dX3_shows_34
end
section
set_option maxHeartbeats 4000000 in
set_option maxRecDepth 100000 in
theorem c_X4_row0 (Ll : Launch) (D : va_G) (cI cL : ClassId) (d : Nat) (ro : Nat) (rn : Nat) (rm : Nat) (bk : Nat) (uw : Nat) (lw : Nat) (tk : Nat) (hd : Int32) (sz : Nat) : Met Ll yX4_row wsX4_row { frames := 0, cells := 0, slots := 0, locals := 0 } (ds_P D cI cL [.ref d, .int (nI 0)] [(d, .inr (4, [.ref ro, .ref rn, .ref rm, .ref bk, .ref uw, .ref lw, .ref tk, .int hd]))] sz) (ds_Qr D (fun (u : Unit) (r : Nat) => r = ro) (fun u : Unit => [(d, .inr (4, [.ref ro, .ref rn, .ref rm, .ref bk, .ref uw, .ref lw, .ref tk, .int hd]))]) (va_A [(d, .inr (4, [.ref ro, .ref rn, .ref rm, .ref bk, .ref uw, .ref lw, .ref tk, .int hd]))] sz)) 0 0 (va_A [(d, .inr (4, [.ref ro, .ref rn, .ref rm, .ref bk, .ref uw, .ref lw, .ref tk, .int hd]))] sz) := by
  refine ds_enter (Qf := (fun A9 => ds_Qr D (fun (u : Unit) (r : Nat) => r = ro) (fun u : Unit => [(d, .inr (4, [.ref ro, .ref rn, .ref rm, .ref bk, .ref uw, .ref lw, .ref tk, .int hd]))]) A9)) (cc := cX4_row) (maxL := 2) (ret := (some (.object "DeltaDesk$Row"))) (by decide) rfl (Nat.le_of_ble_eq_true rfl) ?_
  intro Pp Ee Ss Mm Aa Bb Me Cc hx hb hml hr ht hown hlk hnm A H locs hA hP hD hS hK ls hl
  have hl : lv_has ls 2 [(0, .ref d), (1, .int (nI 0))] := hl
  change Ss.vm.findClass RX4 = some Mm.cls at hown
  refine lv_iload_n hx hb dX4_row_0 rfl (lv_at hl 1 rfl) ?_
  refine lv_if_ne (tgt := 11) hx hb dX4_row_1 (by decide) (fun h => ?_) (fun h => ?_)
  ·
    rw [← nI_0] at h
    have h : ¬ 0 = 0 := fun z9 => h ((nI_eq (a := 0) (b := 0) (by omega) (by omega)).mpr z9)
    exact absurd rfl h
  ·
    rw [← nI_0] at h
    have h : 0 = 0 := (nI_eq (a := 0) (b := 0) (by omega) (by omega)).mp h
    refine lv_aload_n hx hb dX4_row_4 rfl (lv_at hl 0 rfl) ?_
    refine va_get (D := D) (ci := 4) (v := .ref ro) (C := RX4) (T := TX4) (N := 8) hx hb ht inA_X4 hown hK.1 hP 0 rfl rfl 0 (by decide) (ht _ iw_8) (fun _ h9 => h9) rfl dX4_row_5 ?_
    refine lv_goto (tgt := 15) hx hb dX4_row_8 (by decide) ?_
    exact ds_aret hx hb hr hlk () rfl hP hD hS (Nat.le_of_ble_eq_true rfl) (Nat.le_of_ble_eq_true rfl) dX4_row_15
set_option maxHeartbeats 4000000 in
set_option maxRecDepth 100000 in
theorem c_X4_row1 (Ll : Launch) (D : va_G) (cI cL : ClassId) (d : Nat) (ro : Nat) (rn : Nat) (rm : Nat) (bk : Nat) (uw : Nat) (lw : Nat) (tk : Nat) (hd : Int32) (sz : Nat) : Met Ll yX4_row wsX4_row { frames := 0, cells := 0, slots := 0, locals := 0 } (ds_P D cI cL [.ref d, .int (nI 1)] [(d, .inr (4, [.ref ro, .ref rn, .ref rm, .ref bk, .ref uw, .ref lw, .ref tk, .int hd]))] sz) (ds_Qr D (fun (u : Unit) (r : Nat) => r = rn) (fun u : Unit => [(d, .inr (4, [.ref ro, .ref rn, .ref rm, .ref bk, .ref uw, .ref lw, .ref tk, .int hd]))]) (va_A [(d, .inr (4, [.ref ro, .ref rn, .ref rm, .ref bk, .ref uw, .ref lw, .ref tk, .int hd]))] sz)) 0 0 (va_A [(d, .inr (4, [.ref ro, .ref rn, .ref rm, .ref bk, .ref uw, .ref lw, .ref tk, .int hd]))] sz) := by
  refine ds_enter (Qf := (fun A9 => ds_Qr D (fun (u : Unit) (r : Nat) => r = rn) (fun u : Unit => [(d, .inr (4, [.ref ro, .ref rn, .ref rm, .ref bk, .ref uw, .ref lw, .ref tk, .int hd]))]) A9)) (cc := cX4_row) (maxL := 2) (ret := (some (.object "DeltaDesk$Row"))) (by decide) rfl (Nat.le_of_ble_eq_true rfl) ?_
  intro Pp Ee Ss Mm Aa Bb Me Cc hx hb hml hr ht hown hlk hnm A H locs hA hP hD hS hK ls hl
  have hl : lv_has ls 2 [(0, .ref d), (1, .int (nI 1))] := hl
  change Ss.vm.findClass RX4 = some Mm.cls at hown
  refine lv_iload_n hx hb dX4_row_0 rfl (lv_at hl 1 rfl) ?_
  refine lv_if_ne (tgt := 11) hx hb dX4_row_1 (by decide) (fun h => ?_) (fun h => ?_)
  ·
    rw [← nI_0] at h
    have h : ¬ 1 = 0 := fun z9 => h ((nI_eq (a := 1) (b := 0) (by omega) (by omega)).mpr z9)
    refine lv_aload_n hx hb dX4_row_11 rfl (lv_at hl 0 rfl) ?_
    refine va_get (D := D) (ci := 4) (v := .ref rn) (C := RX4) (T := TX4) (N := 8) hx hb ht inA_X4 hown hK.1 hP 0 rfl rfl 1 (by decide) (ht _ iw_9) (fun _ h9 => h9) rfl dX4_row_12 ?_
    exact ds_aret hx hb hr hlk () rfl hP hD hS (Nat.le_of_ble_eq_true rfl) (Nat.le_of_ble_eq_true rfl) dX4_row_15
  ·
    rw [← nI_0] at h
    have h : 1 = 0 := (nI_eq (a := 1) (b := 0) (by omega) (by omega)).mp h
    exact absurd h (by decide)
set_option maxHeartbeats 4000000 in
set_option maxRecDepth 100000 in
theorem c_X4_checkRow (Ll : Launch) (D : va_G) (cI cL : ClassId) (k : Nat) (h1 : k ≤ 1) (sz : Nat) : Met Ll yX4_checkRow wsX4_checkRow { frames := 0, cells := 0, slots := 0, locals := 0 } (ds_P D cI cL [.int (nI k)] [] sz) (ds_Qv D (fun (u : Unit) => True) (fun u : Unit => []) (va_A [] sz)) 0 0 (va_A [] sz) := by
  refine ds_enter (Qf := (fun A9 => ds_Qv D (fun (u : Unit) => True) (fun u : Unit => []) A9)) (cc := cX4_checkRow) (maxL := 1) (ret := none) (by decide) rfl (Nat.le_of_ble_eq_true rfl) ?_
  intro Pp Ee Ss Mm Aa Bb Me Cc hx hb hml hr ht hown hlk hnm A H locs hA hP hD hS hK ls hl
  have hl : lv_has ls 1 [(0, .int (nI k))] := hl
  change Ss.vm.findClass RX4 = some Mm.cls at hown
  refine lv_iload_n hx hb dX4_checkRow_0 rfl (lv_at hl 0 rfl) ?_
  refine lv_if_eq (tgt := 19) hx hb dX4_checkRow_1 (by decide) (fun h0 => ?_) (fun h0 => ?_)
  ·
    rw [← nI_0] at h0
    have h0 : k = 0 := (nI_eq (a := k) (b := 0) (by omega) (by omega)).mp h0
    exact ds_vret hx hb hr hlk () trivial hP hD hS (Nat.le_of_ble_eq_true rfl) (Nat.le_of_ble_eq_true rfl) dX4_checkRow_19
  ·
    rw [← nI_0] at h0
    have h0 : ¬ k = 0 := fun z9 => h0 ((nI_eq (a := k) (b := 0) (by omega) (by omega)).mpr z9)
    refine lv_iload_n hx hb dX4_checkRow_4 rfl (lv_at hl 0 rfl) ?_
    refine lv_iconst (v := nI 1) hx hb dX4_checkRow_5 (by decide +kernel) ?_
    refine lv_icmp_eq (tgt := 19) hx hb dX4_checkRow_6 (by decide) (fun h => ?_) (fun h => ?_)
    ·
      have h : k = 1 := (nI_eq (a := k) (b := 1) (by omega) (by omega)).mp h
      exact ds_vret hx hb hr hlk () trivial hP hD hS (Nat.le_of_ble_eq_true rfl) (Nat.le_of_ble_eq_true rfl) dX4_checkRow_19
    ·
      have h : ¬ k = 1 := fun z9 => h ((nI_eq (a := k) (b := 1) (by omega) (by omega)).mpr z9)
      exfalso; omega
end
section
set_option maxHeartbeats 4000000 in
set_option maxRecDepth 100000 in
theorem x_X4_checkRow (Ll : Launch) (hlst : Ll.stackTraces = false) (D : va_G) (cI cL : ClassId) (x : Int32) (h1 : ¬ x = 0) (h2 : ¬ x = nI 1) (sz : Nat) : vx_Met Ll yX4_checkRow wsX4_checkRow { frames := 6, cells := 1, slots := 6, locals := 90 } (ds_PX D cI cL [.int x] [] sz) (ds_Qv D (fun (u : Unit) => False) (fun u : Unit => []) (va_A [] sz)) (ds_X D ((fun E => E = "java/lang/IllegalArgumentException")) [] (va_A [] sz)) 1 6 (va_A [] sz) := by
  refine ds_enterX (Qf := (fun A9 => ds_Qv D (fun (u : Unit) => False) (fun u : Unit => []) A9)) (XC := fun A9 => ds_X D ((fun E => E = "java/lang/IllegalArgumentException")) [] A9) (cc := cX4_checkRow) (maxL := 1) (ret := none) (by decide) rfl (Nat.le_of_ble_eq_true rfl) ?_
  intro Pp Ee Ss Mm Aa Bb Me Cc hx hb hml hr ht hown hlk hnm A H locs hA hP hD hS hK hZ hno ls hl
  have hl : lv_has ls 1 [(0, .int x)] := hl
  change Ss.vm.findClass RX4 = some Mm.cls at hown
  refine lv_iload_n hx hb dX4_checkRow_0 rfl (lv_at hl 0 rfl) ?_
  refine lv_if_eq (tgt := 19) hx hb dX4_checkRow_1 (by decide) (fun h => ?_) (fun h => ?_)
  ·
    exact absurd h h1
  ·
    refine lv_iload_n hx hb dX4_checkRow_4 rfl (lv_at hl 0 rfl) ?_
    refine lv_iconst (v := nI 1) hx hb dX4_checkRow_5 (by decide +kernel) ?_
    refine lv_icmp_eq (tgt := 19) hx hb dX4_checkRow_6 (by decide) (fun h => ?_) (fun h => ?_)
    ·
      exact absurd h h2
    ·
      exact ds_throwI hx hb hlst hown (ht _ iw_32) (ht _ iw_33) ht hK tx_6 hZ hP hS (by rw [hml]; exact hl.1) dX4_checkRow_9 dX4_checkRow_12 dX4_checkRow_13 dX4_checkRow_15 dX4_checkRow_18 hno hlk (Nat.le_of_ble_eq_true rfl) (Nat.le_of_ble_eq_true rfl) (Nat.le_of_ble_eq_true rfl) (Nat.le_of_ble_eq_true rfl) (Nat.le_of_ble_eq_true rfl) (Nat.le_of_ble_eq_true rfl) rfl
set_option maxHeartbeats 4000000 in
set_option maxRecDepth 100000 in
theorem c_X4_checkOctet (Ll : Launch) (D : va_G) (cI cL : ClassId) (r : Nat) (o : Nat) (n : Nat) (k : Nat) (h1 : k < n) (h2 : n ≤ 1200) (sz : Nat) : Met Ll yX4_checkOctet wsX4_checkOctet { frames := 0, cells := 0, slots := 0, locals := 0 } (ds_P D cI cL [.ref r, .int (nI k)] [(r, .inr (1, [.ref o, .int (nI n)]))] sz) (ds_Qv D (fun (u : Unit) => True) (fun u : Unit => [(r, .inr (1, [.ref o, .int (nI n)]))]) (va_A [(r, .inr (1, [.ref o, .int (nI n)]))] sz)) 0 0 (va_A [(r, .inr (1, [.ref o, .int (nI n)]))] sz) := by
  refine ds_enter (Qf := (fun A9 => ds_Qv D (fun (u : Unit) => True) (fun u : Unit => [(r, .inr (1, [.ref o, .int (nI n)]))]) A9)) (cc := cX4_checkOctet) (maxL := 2) (ret := none) (by decide) rfl (Nat.le_of_ble_eq_true rfl) ?_
  intro Pp Ee Ss Mm Aa Bb Me Cc hx hb hml hr ht hown hlk hnm A H locs hA hP hD hS hK ls hl
  have hl : lv_has ls 2 [(0, .ref r), (1, .int (nI k))] := hl
  change Ss.vm.findClass RX4 = some Mm.cls at hown
  refine lv_iload_n hx hb dX4_checkOctet_0 rfl (lv_at hl 1 rfl) ?_
  refine lv_if_lt (tgt := 12) hx hb dX4_checkOctet_1 (by decide) (fun h0 => ?_) (fun h0 => ?_)
  ·
    rw [← nI_0] at h0
    have h0 : k < 0 := (nI_ltI (a := k) (b := 0) (by omega) (by omega)).mp h0
    exfalso; omega
  ·
    rw [← nI_0] at h0
    have h0 : ¬ k < 0 := fun z9 => h0 ((nI_ltI (a := k) (b := 0) (by omega) (by omega)).mpr z9)
    refine lv_iload_n hx hb dX4_checkOctet_4 rfl (lv_at hl 1 rfl) ?_
    refine lv_aload_n hx hb dX4_checkOctet_5 rfl (lv_at hl 0 rfl) ?_
    refine va_getN (D := D) (ci := 1) (v := .int (nI n)) (C := RX1) (T := TX1) (N := 2) hx hb ht inA_X1 hown hK.1 hP 0 rfl rfl 1 (by decide) (nfu_1 hK) (fun _ h9 => h9) rfl dX4_checkOctet_6 ?_
    refine lv_icmp_lt (tgt := 22) hx hb dX4_checkOctet_9 (by decide) (fun h => ?_) (fun h => ?_)
    ·
      have h : k < n := (nI_ltI (a := k) (b := n) (by omega) (by omega)).mp h
      exact ds_vret hx hb hr hlk () trivial hP hD hS (Nat.le_of_ble_eq_true rfl) (Nat.le_of_ble_eq_true rfl) dX4_checkOctet_22
    ·
      have h : ¬ k < n := fun z9 => h ((nI_ltI (a := k) (b := n) (by omega) (by omega)).mpr z9)
      exfalso; omega
set_option maxHeartbeats 4000000 in
set_option maxRecDepth 100000 in
theorem x_X4_checkOctet (Ll : Launch) (hlst : Ll.stackTraces = false) (D : va_G) (cI cL : ClassId) (r : Nat) (o : Nat) (n : Nat) (x : Int32) (h1 : x < 0 ∨ nI n ≤ x) (sz : Nat) : vx_Met Ll yX4_checkOctet wsX4_checkOctet { frames := 6, cells := 1, slots := 6, locals := 90 } (ds_PX D cI cL [.ref r, .int x] [(r, .inr (1, [.ref o, .int (nI n)]))] sz) (ds_Qv D (fun (u : Unit) => False) (fun u : Unit => [(r, .inr (1, [.ref o, .int (nI n)]))]) (va_A [(r, .inr (1, [.ref o, .int (nI n)]))] sz)) (ds_X D ((fun E => E = "java/lang/IndexOutOfBoundsException")) [(r, .inr (1, [.ref o, .int (nI n)]))] (va_A [(r, .inr (1, [.ref o, .int (nI n)]))] sz)) 1 6 (va_A [(r, .inr (1, [.ref o, .int (nI n)]))] sz) := by
  refine ds_enterX (Qf := (fun A9 => ds_Qv D (fun (u : Unit) => False) (fun u : Unit => [(r, .inr (1, [.ref o, .int (nI n)]))]) A9)) (XC := fun A9 => ds_X D ((fun E => E = "java/lang/IndexOutOfBoundsException")) [(r, .inr (1, [.ref o, .int (nI n)]))] A9) (cc := cX4_checkOctet) (maxL := 2) (ret := none) (by decide) rfl (Nat.le_of_ble_eq_true rfl) ?_
  intro Pp Ee Ss Mm Aa Bb Me Cc hx hb hml hr ht hown hlk hnm A H locs hA hP hD hS hK hZ hno ls hl
  have hl : lv_has ls 2 [(0, .ref r), (1, .int x)] := hl
  change Ss.vm.findClass RX4 = some Mm.cls at hown
  refine lv_iload_n hx hb dX4_checkOctet_0 rfl (lv_at hl 1 rfl) ?_
  refine lv_if_lt (tgt := 12) hx hb dX4_checkOctet_1 (by decide) (fun h0 => ?_) (fun h0 => ?_)
  ·
    exact ds_throwO hx hb hlst hown (ht _ iw_63) (ht _ iw_64) ht hK tx_7 hZ hP hS (by rw [hml]; exact hl.1) dX4_checkOctet_12 dX4_checkOctet_15 dX4_checkOctet_16 dX4_checkOctet_18 dX4_checkOctet_21 hno hlk (Nat.le_of_ble_eq_true rfl) (Nat.le_of_ble_eq_true rfl) (Nat.le_of_ble_eq_true rfl) (Nat.le_of_ble_eq_true rfl) (Nat.le_of_ble_eq_true rfl) (Nat.le_of_ble_eq_true rfl) rfl
  ·
    refine lv_iload_n hx hb dX4_checkOctet_4 rfl (lv_at hl 1 rfl) ?_
    refine lv_aload_n hx hb dX4_checkOctet_5 rfl (lv_at hl 0 rfl) ?_
    refine va_getN (D := D) (ci := 1) (v := .int (nI n)) (C := RX1) (T := TX1) (N := 2) hx hb ht inA_X1 hown hK.1 hP 0 rfl rfl 1 (by decide) (nfu_1 hK) (fun _ h9 => h9) rfl dX4_checkOctet_6 ?_
    refine lv_icmp_lt (tgt := 22) hx hb dX4_checkOctet_9 (by decide) (fun h => ?_) (fun h => ?_)
    ·
      rcases h1 with h9 | h9
      · exact absurd h9 h0
      · exact absurd h9 (Int32.not_le.mpr h)
    ·
      exact ds_throwO hx hb hlst hown (ht _ iw_63) (ht _ iw_64) ht hK tx_7 hZ hP hS (by rw [hml]; exact hl.1) dX4_checkOctet_12 dX4_checkOctet_15 dX4_checkOctet_16 dX4_checkOctet_18 dX4_checkOctet_21 hno hlk (Nat.le_of_ble_eq_true rfl) (Nat.le_of_ble_eq_true rfl) (Nat.le_of_ble_eq_true rfl) (Nat.le_of_ble_eq_true rfl) (Nat.le_of_ble_eq_true rfl) (Nat.le_of_ble_eq_true rfl) rfl
end
section
set_option maxHeartbeats 4000000 in
set_option maxRecDepth 100000 in
theorem c_X4_checkRange (Ll : Launch) (D : va_G) (cI cL : ClassId) (r : Nat) (o : Nat) (n : Nat) (p : Nat) (k : Nat) (h1 : p + k ≤ n) (h2 : n ≤ 1200) (sz : Nat) : Met Ll yX4_checkRange wsX4_checkRange { frames := 0, cells := 0, slots := 0, locals := 0 } (ds_P D cI cL [.ref r, .int (nI p), .int (nI k)] [(r, .inr (1, [.ref o, .int (nI n)]))] sz) (ds_Qv D (fun (u : Unit) => True) (fun u : Unit => [(r, .inr (1, [.ref o, .int (nI n)]))]) (va_A [(r, .inr (1, [.ref o, .int (nI n)]))] sz)) 0 0 (va_A [(r, .inr (1, [.ref o, .int (nI n)]))] sz) := by
  refine ds_enter (Qf := (fun A9 => ds_Qv D (fun (u : Unit) => True) (fun u : Unit => [(r, .inr (1, [.ref o, .int (nI n)]))]) A9)) (cc := cX4_checkRange) (maxL := 3) (ret := none) (by decide) rfl (Nat.le_of_ble_eq_true rfl) ?_
  intro Pp Ee Ss Mm Aa Bb Me Cc hx hb hml hr ht hown hlk hnm A H locs hA hP hD hS hK ls hl
  have hl : lv_has ls 3 [(0, .ref r), (1, .int (nI p)), (2, .int (nI k))] := hl
  change Ss.vm.findClass RX4 = some Mm.cls at hown
  refine lv_iload_n hx hb dX4_checkRange_0 rfl (lv_at hl 1 rfl) ?_
  refine lv_if_lt (tgt := 18) hx hb dX4_checkRange_1 (by decide) (fun h0 => ?_) (fun h0 => ?_)
  ·
    rw [← nI_0] at h0
    have h0 : p < 0 := (nI_ltI (a := p) (b := 0) (by omega) (by omega)).mp h0
    exfalso; omega
  ·
    rw [← nI_0] at h0
    have h0 : ¬ p < 0 := fun z9 => h0 ((nI_ltI (a := p) (b := 0) (by omega) (by omega)).mpr z9)
    refine lv_iload_n hx hb dX4_checkRange_4 rfl (lv_at hl 2 rfl) ?_
    refine lv_if_lt (tgt := 18) hx hb dX4_checkRange_5 (by decide) (fun h9 => ?_) (fun h9 => ?_)
    ·
      rw [← nI_0] at h9
      have h9 : k < 0 := (nI_ltI (a := k) (b := 0) (by omega) (by omega)).mp h9
      exfalso; omega
    ·
      rw [← nI_0] at h9
      have h9 : ¬ k < 0 := fun z9 => h9 ((nI_ltI (a := k) (b := 0) (by omega) (by omega)).mpr z9)
      refine lv_iload_n hx hb dX4_checkRange_8 rfl (lv_at hl 1 rfl) ?_
      refine lv_aload_n hx hb dX4_checkRange_9 rfl (lv_at hl 0 rfl) ?_
      refine va_getN (D := D) (ci := 1) (v := .int (nI n)) (C := RX1) (T := TX1) (N := 2) hx hb ht inA_X1 hown hK.1 hP 0 rfl rfl 1 (by decide) (nfu_1 hK) (fun _ h9 => h9) rfl dX4_checkRange_10 ?_
      refine lv_iload_n hx hb dX4_checkRange_13 rfl (lv_at hl 2 rfl) ?_
      refine lv_isub hx hb dX4_checkRange_14 ?_
      refine ds_top (z := nI (n - k)) (pk_sub (by omega)) ?_
      refine lv_icmp_le (tgt := 28) hx hb dX4_checkRange_15 (by decide) (fun h => ?_) (fun h => ?_)
      ·
        have h : p ≤ (n - k) := (nI_leI (a := p) (b := (n - k)) (by omega) (by omega)).mp h
        exact ds_vret hx hb hr hlk () trivial hP hD hS (Nat.le_of_ble_eq_true rfl) (Nat.le_of_ble_eq_true rfl) dX4_checkRange_28
      ·
        have h : ¬ p ≤ (n - k) := fun z9 => h ((nI_leI (a := p) (b := (n - k)) (by omega) (by omega)).mpr z9)
        exfalso; omega
set_option maxHeartbeats 4000000 in
set_option maxRecDepth 100000 in
theorem x_X4_checkRange (Ll : Launch) (hlst : Ll.stackTraces = false) (D : va_G) (cI cL : ClassId) (r : Nat) (o : Nat) (n : Nat) (x : Int32) (y : Int32) (h1 : x < 0 ∨ y < 0 ∨ nI n - y < x) (sz : Nat) : vx_Met Ll yX4_checkRange wsX4_checkRange { frames := 6, cells := 1, slots := 6, locals := 90 } (ds_PX D cI cL [.ref r, .int x, .int y] [(r, .inr (1, [.ref o, .int (nI n)]))] sz) (ds_Qv D (fun (u : Unit) => False) (fun u : Unit => [(r, .inr (1, [.ref o, .int (nI n)]))]) (va_A [(r, .inr (1, [.ref o, .int (nI n)]))] sz)) (ds_X D ((fun E => E = "java/lang/IndexOutOfBoundsException")) [(r, .inr (1, [.ref o, .int (nI n)]))] (va_A [(r, .inr (1, [.ref o, .int (nI n)]))] sz)) 1 6 (va_A [(r, .inr (1, [.ref o, .int (nI n)]))] sz) := by
  refine ds_enterX (Qf := (fun A9 => ds_Qv D (fun (u : Unit) => False) (fun u : Unit => [(r, .inr (1, [.ref o, .int (nI n)]))]) A9)) (XC := fun A9 => ds_X D ((fun E => E = "java/lang/IndexOutOfBoundsException")) [(r, .inr (1, [.ref o, .int (nI n)]))] A9) (cc := cX4_checkRange) (maxL := 3) (ret := none) (by decide) rfl (Nat.le_of_ble_eq_true rfl) ?_
  intro Pp Ee Ss Mm Aa Bb Me Cc hx hb hml hr ht hown hlk hnm A H locs hA hP hD hS hK hZ hno ls hl
  have hl : lv_has ls 3 [(0, .ref r), (1, .int x), (2, .int y)] := hl
  change Ss.vm.findClass RX4 = some Mm.cls at hown
  refine lv_iload_n hx hb dX4_checkRange_0 rfl (lv_at hl 1 rfl) ?_
  refine lv_if_lt (tgt := 18) hx hb dX4_checkRange_1 (by decide) (fun h0 => ?_) (fun h0 => ?_)
  ·
    exact ds_throwO hx hb hlst hown (ht _ iw_63) (ht _ iw_64) ht hK tx_8 hZ hP hS (by rw [hml]; exact hl.1) dX4_checkRange_18 dX4_checkRange_21 dX4_checkRange_22 dX4_checkRange_24 dX4_checkRange_27 hno hlk (Nat.le_of_ble_eq_true rfl) (Nat.le_of_ble_eq_true rfl) (Nat.le_of_ble_eq_true rfl) (Nat.le_of_ble_eq_true rfl) (Nat.le_of_ble_eq_true rfl) (Nat.le_of_ble_eq_true rfl) rfl
  ·
    refine lv_iload_n hx hb dX4_checkRange_4 rfl (lv_at hl 2 rfl) ?_
    refine lv_if_lt (tgt := 18) hx hb dX4_checkRange_5 (by decide) (fun h8 => ?_) (fun h8 => ?_)
    ·
      exact ds_throwO hx hb hlst hown (ht _ iw_63) (ht _ iw_64) ht hK tx_8 hZ hP hS (by rw [hml]; exact hl.1) dX4_checkRange_18 dX4_checkRange_21 dX4_checkRange_22 dX4_checkRange_24 dX4_checkRange_27 hno hlk (Nat.le_of_ble_eq_true rfl) (Nat.le_of_ble_eq_true rfl) (Nat.le_of_ble_eq_true rfl) (Nat.le_of_ble_eq_true rfl) (Nat.le_of_ble_eq_true rfl) (Nat.le_of_ble_eq_true rfl) rfl
    ·
      refine lv_iload_n hx hb dX4_checkRange_8 rfl (lv_at hl 1 rfl) ?_
      refine lv_aload_n hx hb dX4_checkRange_9 rfl (lv_at hl 0 rfl) ?_
      refine va_getN (D := D) (ci := 1) (v := .int (nI n)) (C := RX1) (T := TX1) (N := 2) hx hb ht inA_X1 hown hK.1 hP 0 rfl rfl 1 (by decide) (nfu_1 hK) (fun _ h9 => h9) rfl dX4_checkRange_10 ?_
      refine lv_iload_n hx hb dX4_checkRange_13 rfl (lv_at hl 2 rfl) ?_
      refine lv_isub hx hb dX4_checkRange_14 ?_
      refine lv_icmp_le (tgt := 28) hx hb dX4_checkRange_15 (by decide) (fun h => ?_) (fun h => ?_)
      ·
        rcases h1 with h9 | h9 | h9
        · exact absurd h9 h0
        · exact absurd h9 h8
        · exact absurd h9 (Int32.not_lt.mpr h)
      ·
        exact ds_throwO hx hb hlst hown (ht _ iw_63) (ht _ iw_64) ht hK tx_8 hZ hP hS (by rw [hml]; exact hl.1) dX4_checkRange_18 dX4_checkRange_21 dX4_checkRange_22 dX4_checkRange_24 dX4_checkRange_27 hno hlk (Nat.le_of_ble_eq_true rfl) (Nat.le_of_ble_eq_true rfl) (Nat.le_of_ble_eq_true rfl) (Nat.le_of_ble_eq_true rfl) (Nat.le_of_ble_eq_true rfl) (Nat.le_of_ble_eq_true rfl) rfl
end
section
set_option maxHeartbeats 4000000 in
set_option maxRecDepth 100000 in
theorem c_X4_checkBlocks (Ll : Launch) (D : va_G) (cI cL : ClassId) (s : Nat) (b : Nat) (h1 : 4 ≤ s) (h2 : s ≤ 256) (h3 : b ≤ 64) (sz : Nat) : Met Ll yX4_checkBlocks wsX4_checkBlocks { frames := 0, cells := 0, slots := 0, locals := 0 } (ds_P D cI cL [.int (nI s), .int (nI b)] [] sz) (ds_Qv D (fun (u : Unit) => True) (fun u : Unit => []) (va_A [] sz)) 0 0 (va_A [] sz) := by
  refine ds_enter (Qf := (fun A9 => ds_Qv D (fun (u : Unit) => True) (fun u : Unit => []) A9)) (cc := cX4_checkBlocks) (maxL := 2) (ret := none) (by decide) rfl (Nat.le_of_ble_eq_true rfl) ?_
  intro Pp Ee Ss Mm Aa Bb Me Cc hx hb hml hr ht hown hlk hnm A H locs hA hP hD hS hK ls hl
  have hl : lv_has ls 2 [(0, .int (nI s)), (1, .int (nI b))] := hl
  change Ss.vm.findClass RX4 = some Mm.cls at hown
  refine lv_iload_n hx hb dX4_checkBlocks_0 rfl (lv_at hl 0 rfl) ?_
  refine lv_iconst (v := nI 4) hx hb dX4_checkBlocks_1 (by decide +kernel) ?_
  refine lv_icmp_lt (tgt := 12) hx hb dX4_checkBlocks_2 (by decide) (fun h7 => ?_) (fun h7 => ?_)
  ·
    have h7 : s < 4 := (nI_ltI (a := s) (b := 4) (by omega) (by omega)).mp h7
    exfalso; omega
  ·
    have h7 : ¬ s < 4 := fun z9 => h7 ((nI_ltI (a := s) (b := 4) (by omega) (by omega)).mpr z9)
    refine lv_iload_n hx hb dX4_checkBlocks_5 rfl (lv_at hl 0 rfl) ?_
    refine lv_sipush (v := nI 256) hx hb dX4_checkBlocks_6 (by decide +kernel) ?_
    refine lv_icmp_le (tgt := 22) hx hb dX4_checkBlocks_9 (by decide) (fun h8 => ?_) (fun h8 => ?_)
    ·
      have h8 : s ≤ 256 := (nI_leI (a := s) (b := 256) (by omega) (by omega)).mp h8
      refine lv_iload_n hx hb dX4_checkBlocks_22 rfl (lv_at hl 1 rfl) ?_
      refine lv_if_lt (tgt := 32) hx hb dX4_checkBlocks_23 (by decide) (fun h9 => ?_) (fun h9 => ?_)
      ·
        rw [← nI_0] at h9
        have h9 : b < 0 := (nI_ltI (a := b) (b := 0) (by omega) (by omega)).mp h9
        exfalso; omega
      ·
        rw [← nI_0] at h9
        have h9 : ¬ b < 0 := fun z9 => h9 ((nI_ltI (a := b) (b := 0) (by omega) (by omega)).mpr z9)
        refine lv_iload_n hx hb dX4_checkBlocks_26 rfl (lv_at hl 1 rfl) ?_
        refine lv_bipush (v := nI 64) hx hb dX4_checkBlocks_27 (by decide +kernel) ?_
        refine lv_icmp_le (tgt := 42) hx hb dX4_checkBlocks_29 (by decide) (fun h => ?_) (fun h => ?_)
        ·
          have h : b ≤ 64 := (nI_leI (a := b) (b := 64) (by omega) (by omega)).mp h
          exact ds_vret hx hb hr hlk () trivial hP hD hS (Nat.le_of_ble_eq_true rfl) (Nat.le_of_ble_eq_true rfl) dX4_checkBlocks_42
        ·
          have h : ¬ b ≤ 64 := fun z9 => h ((nI_leI (a := b) (b := 64) (by omega) (by omega)).mpr z9)
          exfalso; omega
    ·
      have h8 : ¬ s ≤ 256 := fun z9 => h8 ((nI_leI (a := s) (b := 256) (by omega) (by omega)).mpr z9)
      exfalso; omega
set_option maxHeartbeats 4000000 in
set_option maxRecDepth 100000 in
theorem x_X4_checkBlocks (Ll : Launch) (hlst : Ll.stackTraces = false) (D : va_G) (cI cL : ClassId) (x : Int32) (y : Int32) (h1 : x < nI 4 ∨ nI 256 < x ∨ y < 0 ∨ nI 64 < y) (sz : Nat) : vx_Met Ll yX4_checkBlocks wsX4_checkBlocks { frames := 6, cells := 1, slots := 6, locals := 90 } (ds_PX D cI cL [.int x, .int y] [] sz) (ds_Qv D (fun (u : Unit) => False) (fun u : Unit => []) (va_A [] sz)) (ds_X D ((fun E => E = "java/lang/IllegalArgumentException")) [] (va_A [] sz)) 1 6 (va_A [] sz) := by
  refine ds_enterX (Qf := (fun A9 => ds_Qv D (fun (u : Unit) => False) (fun u : Unit => []) A9)) (XC := fun A9 => ds_X D ((fun E => E = "java/lang/IllegalArgumentException")) [] A9) (cc := cX4_checkBlocks) (maxL := 2) (ret := none) (by decide) rfl (Nat.le_of_ble_eq_true rfl) ?_
  intro Pp Ee Ss Mm Aa Bb Me Cc hx hb hml hr ht hown hlk hnm A H locs hA hP hD hS hK hZ hno ls hl
  have hl : lv_has ls 2 [(0, .int x), (1, .int y)] := hl
  change Ss.vm.findClass RX4 = some Mm.cls at hown
  refine lv_iload_n hx hb dX4_checkBlocks_0 rfl (lv_at hl 0 rfl) ?_
  refine lv_iconst (v := nI 4) hx hb dX4_checkBlocks_1 (by decide +kernel) ?_
  refine lv_icmp_lt (tgt := 12) hx hb dX4_checkBlocks_2 (by decide) (fun h5 => ?_) (fun h5 => ?_)
  ·
    exact ds_throwI hx hb hlst hown (ht _ iw_32) (ht _ iw_33) ht hK tx_9 hZ hP hS (by rw [hml]; exact hl.1) dX4_checkBlocks_12 dX4_checkBlocks_15 dX4_checkBlocks_16 dX4_checkBlocks_18 dX4_checkBlocks_21 hno hlk (Nat.le_of_ble_eq_true rfl) (Nat.le_of_ble_eq_true rfl) (Nat.le_of_ble_eq_true rfl) (Nat.le_of_ble_eq_true rfl) (Nat.le_of_ble_eq_true rfl) (Nat.le_of_ble_eq_true rfl) rfl
  ·
    refine lv_iload_n hx hb dX4_checkBlocks_5 rfl (lv_at hl 0 rfl) ?_
    refine lv_sipush (v := nI 256) hx hb dX4_checkBlocks_6 (by decide +kernel) ?_
    refine lv_icmp_le (tgt := 22) hx hb dX4_checkBlocks_9 (by decide) (fun h6 => ?_) (fun h6 => ?_)
    ·
      refine lv_iload_n hx hb dX4_checkBlocks_22 rfl (lv_at hl 1 rfl) ?_
      refine lv_if_lt (tgt := 32) hx hb dX4_checkBlocks_23 (by decide) (fun h7 => ?_) (fun h7 => ?_)
      ·
        exact ds_throwI hx hb hlst hown (ht _ iw_32) (ht _ iw_33) ht hK tx_10 hZ hP hS (by rw [hml]; exact hl.1) dX4_checkBlocks_32 dX4_checkBlocks_35 dX4_checkBlocks_36 dX4_checkBlocks_38 dX4_checkBlocks_41 hno hlk (Nat.le_of_ble_eq_true rfl) (Nat.le_of_ble_eq_true rfl) (Nat.le_of_ble_eq_true rfl) (Nat.le_of_ble_eq_true rfl) (Nat.le_of_ble_eq_true rfl) (Nat.le_of_ble_eq_true rfl) rfl
      ·
        refine lv_iload_n hx hb dX4_checkBlocks_26 rfl (lv_at hl 1 rfl) ?_
        refine lv_bipush (v := nI 64) hx hb dX4_checkBlocks_27 (by decide +kernel) ?_
        refine lv_icmp_le (tgt := 42) hx hb dX4_checkBlocks_29 (by decide) (fun h8 => ?_) (fun h8 => ?_)
        ·
          rcases h1 with h9 | h9 | h9 | h9
          · exact absurd h9 h5
          · exact absurd h9 (Int32.not_lt.mpr h6)
          · exact absurd h9 h7
          · exact absurd h9 (Int32.not_lt.mpr h8)
        ·
          exact ds_throwI hx hb hlst hown (ht _ iw_32) (ht _ iw_33) ht hK tx_10 hZ hP hS (by rw [hml]; exact hl.1) dX4_checkBlocks_32 dX4_checkBlocks_35 dX4_checkBlocks_36 dX4_checkBlocks_38 dX4_checkBlocks_41 hno hlk (Nat.le_of_ble_eq_true rfl) (Nat.le_of_ble_eq_true rfl) (Nat.le_of_ble_eq_true rfl) (Nat.le_of_ble_eq_true rfl) (Nat.le_of_ble_eq_true rfl) (Nat.le_of_ble_eq_true rfl) rfl
    ·
      exact ds_throwI hx hb hlst hown (ht _ iw_32) (ht _ iw_33) ht hK tx_9 hZ hP hS (by rw [hml]; exact hl.1) dX4_checkBlocks_12 dX4_checkBlocks_15 dX4_checkBlocks_16 dX4_checkBlocks_18 dX4_checkBlocks_21 hno hlk (Nat.le_of_ble_eq_true rfl) (Nat.le_of_ble_eq_true rfl) (Nat.le_of_ble_eq_true rfl) (Nat.le_of_ble_eq_true rfl) (Nat.le_of_ble_eq_true rfl) (Nat.le_of_ble_eq_true rfl) rfl
end
section
set_option maxHeartbeats 4000000 in
set_option maxRecDepth 100000 in
theorem c_X4_strongMask (Ll : Launch) (D : va_G) (cI cL : ClassId) (b : Nat) (h1 : b ≤ 64) (sz : Nat) : Met Ll yX4_strongMask wsX4_strongMask { frames := 0, cells := 0, slots := 0, locals := 0 } (ds_P D cI cL [.int (nI b)] [] sz) (ds_Ql D (fun (r : Int64) (u : Unit) => r = ds_mask b) (fun u : Unit => []) (va_A [] sz)) 0 0 (va_A [] sz) := by
  refine ds_enter (Qf := (fun A9 => ds_Ql D (fun (r : Int64) (u : Unit) => r = ds_mask b) (fun u : Unit => []) A9)) (cc := cX4_strongMask) (maxL := 1) (ret := (some .long)) (by decide) rfl (Nat.le_of_ble_eq_true rfl) ?_
  intro Pp Ee Ss Mm Aa Bb Me Cc hx hb hml hr ht hown hlk hnm A H locs hA hP hD hS hK ls hl
  have hl : lv_has ls 1 [(0, .int (nI b))] := hl
  change Ss.vm.findClass RX4 = some Mm.cls at hown
  refine lv_iload_n hx hb dX4_strongMask_0 rfl (lv_at hl 0 rfl) ?_
  refine lv_bipush (v := nI 64) hx hb dX4_strongMask_1 (by decide +kernel) ?_
  refine lv_icmp_ne (tgt := 12) hx hb dX4_strongMask_3 (by decide) (fun h => ?_) (fun h => ?_)
  ·
    have h : ¬ b = 64 := fun z9 => h ((nI_eq (a := b) (b := 64) (by omega) (by omega)).mpr z9)
    refine lv_lconst (v := 1) hx hb dX4_strongMask_12 (by decide +kernel) ?_
    refine lv_iload_n hx hb dX4_strongMask_13 rfl (lv_at hl 0 rfl) ?_
    refine lv_lshl (v := 1 <<< ((nI b).toInt64 &&& 63)) hx hb dX4_strongMask_14 rfl ?_
    refine lv_lconst (v := 1) hx hb dX4_strongMask_15 (by decide +kernel) ?_
    refine lv_lsub hx hb dX4_strongMask_16 ?_
    exact ds_lret hx hb hr hlk () (by unfold ds_mask; rw [if_neg h]) hP hD hS (Nat.le_of_ble_eq_true rfl) (Nat.le_of_ble_eq_true rfl) dX4_strongMask_17
  ·
    have h : b = 64 := (nI_eq (a := b) (b := 64) (by omega) (by omega)).mp h
    refine lv_ldc2 (v := -1) hx hb hown (ht _ iw_98) dX4_strongMask_6 ?_
    refine lv_goto (tgt := 17) hx hb dX4_strongMask_9 (by decide) ?_
    exact ds_lret hx hb hr hlk () (by unfold ds_mask; rw [if_pos h]) hP hD hS (Nat.le_of_ble_eq_true rfl) (Nat.le_of_ble_eq_true rfl) dX4_strongMask_17
end
section
set_option maxHeartbeats 4000000 in
set_option maxRecDepth 100000 in
theorem c_X4_fits (Ll : Launch) (D : va_G) (cI cL : ClassId) (d : Nat) (ro : Nat) (rn : Nat) (rm : Nat) (bk : Nat) (uw : Nat) (lw : Nat) (tk : Nat) (hd : Int32) (bw : Nat) (bs : Nat) (s : Nat) (lo : Nat) (fw : Nat → Int32) (fs : Nat → Int64) (ui : Int32) (ua : Int32) (ub : Int32) (uk : Int32) (ut : Int64) (uy : Int32) (li : Int32) (la : Int32) (lb : Int32) (lk : Int32) (lt : Int64) (ly : Int32) (p : Nat) (qn : Nat) (ln : Nat) (fn : Nat → Int32) (fo : Nat → Int32) (k : Nat) (mk : Int64) (h1 : lo ≤ 1200) (h2 : 4 ≤ s) (h3 : s ≤ 256) (h4 : ln ≤ 1200) (hv : ∀ j, j < bn lo s → fw j = su_W fo (j * s) (bl lo s j) ∧ fs j = su_S fo (j * s) (bl lo s j)) (hk : k < bn lo s) (hu : dw_P fn ln s p ui uk) (hus : dw_S fn s p uy ut) (hq : dw_P fn ln (bL lo s) p li lk) (hqs : dw_S fn (bL lo s) p ly lt) (sz : Nat) : Met Ll yX4_fits wsX4_fits { frames := 3, cells := 0, slots := 0, locals := 70 } (ds_P D cI cL [.ref d, .int (nI k), .long mk] [(d, .inr (4, [.ref ro, .ref rn, .ref rm, .ref bk, .ref uw, .ref lw, .ref tk, .int hd])), (bk, .inr (0, [.ref ro, .ref bw, .ref bs, .int (nI s), .int (nI (bL lo s)), .int (nI (bn lo s))])), (bw, .inl (cI, 300, .inl fw)), (bs, .inl (cL, 300, .inr (.inl fs))), (uw, .inr (3, [.ref rn, .int (nI s), .int (nI p), .int ui, .int ua, .int ub, .int uk, .long ut, .int uy])), (lw, .inr (3, [.ref rn, .int (nI (bL lo s)), .int (nI p), .int li, .int la, .int lb, .int lk, .long lt, .int ly])), (rn, .inr (1, [.ref qn, .int (nI ln)])), (qn, .inl (cI, 1200, .inl fn))] sz) (ds_Qi D (fun (r : Int32) (u : Int64 × Int32 × Int64 × Int32) => ((r = 1 ∧ ft fo fn ln mk (k * s) p (bl lo s k)) ∨ (r = 0 ∧ ¬ ft fo fn ln mk (k * s) p (bl lo s k))) ∧ dw_S fn s p u.2.1 u.1 ∧ dw_S fn (bL lo s) p u.2.2.2 u.2.2.1) (fun u : Int64 × Int32 × Int64 × Int32 => [(d, .inr (4, [.ref ro, .ref rn, .ref rm, .ref bk, .ref uw, .ref lw, .ref tk, .int hd])), (bk, .inr (0, [.ref ro, .ref bw, .ref bs, .int (nI s), .int (nI (bL lo s)), .int (nI (bn lo s))])), (bw, .inl (cI, 300, .inl fw)), (bs, .inl (cL, 300, .inr (.inl fs))), (uw, .inr (3, [.ref rn, .int (nI s), .int (nI p), .int ui, .int ua, .int ub, .int uk, .long u.1, .int u.2.1])), (lw, .inr (3, [.ref rn, .int (nI (bL lo s)), .int (nI p), .int li, .int la, .int lb, .int lk, .long u.2.2.1, .int u.2.2.2])), (rn, .inr (1, [.ref qn, .int (nI ln)])), (qn, .inl (cI, 1200, .inl fn))]) (va_A [(d, .inr (4, [.ref ro, .ref rn, .ref rm, .ref bk, .ref uw, .ref lw, .ref tk, .int hd])), (bk, .inr (0, [.ref ro, .ref bw, .ref bs, .int (nI s), .int (nI (bL lo s)), .int (nI (bn lo s))])), (bw, .inl (cI, 300, .inl fw)), (bs, .inl (cL, 300, .inr (.inl fs))), (uw, .inr (3, [.ref rn, .int (nI s), .int (nI p), .int ui, .int ua, .int ub, .int uk, .long ut, .int uy])), (lw, .inr (3, [.ref rn, .int (nI (bL lo s)), .int (nI p), .int li, .int la, .int lb, .int lk, .long lt, .int ly])), (rn, .inr (1, [.ref qn, .int (nI ln)])), (qn, .inl (cI, 1200, .inl fn))] sz)) 0 0 (va_A [(d, .inr (4, [.ref ro, .ref rn, .ref rm, .ref bk, .ref uw, .ref lw, .ref tk, .int hd])), (bk, .inr (0, [.ref ro, .ref bw, .ref bs, .int (nI s), .int (nI (bL lo s)), .int (nI (bn lo s))])), (bw, .inl (cI, 300, .inl fw)), (bs, .inl (cL, 300, .inr (.inl fs))), (uw, .inr (3, [.ref rn, .int (nI s), .int (nI p), .int ui, .int ua, .int ub, .int uk, .long ut, .int uy])), (lw, .inr (3, [.ref rn, .int (nI (bL lo s)), .int (nI p), .int li, .int la, .int lb, .int lk, .long lt, .int ly])), (rn, .inr (1, [.ref qn, .int (nI ln)])), (qn, .inl (cI, 1200, .inl fn))] sz) := by
  refine ds_enter (Qf := (fun A9 => ds_Qi D (fun (r : Int32) (u : Int64 × Int32 × Int64 × Int32) => ((r = 1 ∧ ft fo fn ln mk (k * s) p (bl lo s k)) ∨ (r = 0 ∧ ¬ ft fo fn ln mk (k * s) p (bl lo s k))) ∧ dw_S fn s p u.2.1 u.1 ∧ dw_S fn (bL lo s) p u.2.2.2 u.2.2.1) (fun u : Int64 × Int32 × Int64 × Int32 => [(d, .inr (4, [.ref ro, .ref rn, .ref rm, .ref bk, .ref uw, .ref lw, .ref tk, .int hd])), (bk, .inr (0, [.ref ro, .ref bw, .ref bs, .int (nI s), .int (nI (bL lo s)), .int (nI (bn lo s))])), (bw, .inl (cI, 300, .inl fw)), (bs, .inl (cL, 300, .inr (.inl fs))), (uw, .inr (3, [.ref rn, .int (nI s), .int (nI p), .int ui, .int ua, .int ub, .int uk, .long u.1, .int u.2.1])), (lw, .inr (3, [.ref rn, .int (nI (bL lo s)), .int (nI p), .int li, .int la, .int lb, .int lk, .long u.2.2.1, .int u.2.2.2])), (rn, .inr (1, [.ref qn, .int (nI ln)])), (qn, .inl (cI, 1200, .inl fn))]) A9)) (cc := cX4_fits) (maxL := 5) (ret := (some .boolean)) (by decide) rfl (Nat.le_of_ble_eq_true rfl) ?_
  intro Pp Ee Ss Mm Aa Bb Me Cc hx hb hml hr ht hown hlk hnm A H locs hA hP hD hS hK ls hl
  have hl : lv_has ls 5 [(0, .ref d), (1, .int (nI k)), (2, .long mk)] := hl
  change Ss.vm.findClass RX4 = some Mm.cls at hown
  have hb3 := bn_300 h1 h2
  refine lv_iload_n hx hb dX4_fits_0 rfl (lv_at hl 1 rfl) ?_
  refine lv_aload_n hx hb dX4_fits_1 rfl (lv_at hl 0 rfl) ?_
  refine va_get (D := D) (ci := 4) (v := .ref bk) (C := RX4) (T := TX4) (N := 8) hx hb ht inA_X4 hown hK.1 hP 0 rfl rfl 3 (by decide) (ht _ iw_15) (fun _ h9 => h9) rfl dX4_fits_2 ?_
  refine va_getN (D := D) (ci := 0) (v := .int (nI (bn lo s))) (C := RX0) (T := TX0) (N := 6) hx hb ht inA_X0 hown hK.1 hP 1 rfl rfl 5 (by decide) (nfu_7 hK) (fun _ h9 => h9) rfl dX4_fits_5 ?_
  refine lv_iconst (v := nI 1) hx hb dX4_fits_8 (by decide +kernel) ?_
  refine lv_isub hx hb dX4_fits_9 ?_
  refine ds_top (z := nI (bn lo s - 1)) (pk_sub (by omega)) ?_
  refine lv_icmp_ne (tgt := 20) hx hb dX4_fits_10 (by decide) (fun h => ?_) (fun h => ?_)
  ·
    have h : ¬ k = (bn lo s - 1) := fun z9 => h ((nI_eq (a := k) (b := (bn lo s - 1)) (by omega) (by omega)).mpr z9)
    have hbl : bl lo s k = s := if_neg (by omega)
    have hv9 := hv k hk
    rw [hbl] at hv9
    refine lv_aload_n hx hb dX4_fits_20 rfl (lv_at hl 0 rfl) ?_
    refine va_get (D := D) (ci := 4) (v := .ref uw) (C := RX4) (T := TX4) (N := 8) hx hb ht inA_X4 hown hK.1 hP 0 rfl rfl 4 (by decide) (ht _ iw_20) (fun _ h9 => h9) rfl dX4_fits_21 ?_
    refine lv_astore (lv' := [(4, .ref uw), (0, .ref d), (1, .int (nI k)), (2, .long mk)]) hx hb dX4_fits_24 hl (Nat.le_of_ble_eq_true rfl) rfl (fun ls hl => ?_)
    refine lv_aload hx hb dX4_fits_26 (lv_at hl 0 rfl) ?_
    refine lv_aload_n hx hb dX4_fits_28 rfl (lv_at hl 1 rfl) ?_
    refine va_get (D := D) (ci := 4) (v := .ref bk) (C := RX4) (T := TX4) (N := 8) hx hb ht inA_X4 hown hK.1 hP 0 rfl rfl 3 (by decide) (ht _ iw_15) (fun _ h9 => h9) rfl dX4_fits_29 ?_
    refine va_getN (D := D) (ci := 0) (v := .ref bw) (C := RX0) (T := TX0) (N := 6) hx hb ht inA_X0 hown hK.1 hP 1 rfl rfl 1 (by decide) (nfu_8 hK) (fun _ h9 => h9) rfl dX4_fits_32 ?_
    refine lv_iload_n hx hb dX4_fits_35 rfl (lv_at hl 2 rfl) ?_
    refine ds_iald (k := k) hx hb hK hP 2 rfl (by omega) (by omega) dX4_fits_36 ?_
    refine lv_aload_n hx hb dX4_fits_37 rfl (lv_at hl 1 rfl) ?_
    refine va_get (D := D) (ci := 4) (v := .ref bk) (C := RX4) (T := TX4) (N := 8) hx hb ht inA_X4 hown hK.1 hP 0 rfl rfl 3 (by decide) (ht _ iw_15) (fun _ h9 => h9) rfl dX4_fits_38 ?_
    refine va_getN (D := D) (ci := 0) (v := .ref bs) (C := RX0) (T := TX0) (N := 6) hx hb ht inA_X0 hown hK.1 hP 1 rfl rfl 2 (by decide) (nfu_9 hK) (fun _ h9 => h9) rfl dX4_fits_41 ?_
    refine lv_iload_n hx hb dX4_fits_44 rfl (lv_at hl 2 rfl) ?_
    refine ds_lald (k := k) hx hb hK hP 3 rfl (by omega) (by omega) dX4_fits_45 ?_
    refine lv_lload_n hx hb dX4_fits_46 rfl (lv_at hl 3 rfl) ?_
    refine ds_calli (wc := [(uw, .inr (3, [.ref rn, .int (nI s), .int (nI p), .int ui, .int ua, .int ub, .int uk, .long ut, .int uy])), (rn, .inr (1, [.ref qn, .int (nI ln)])), (qn, .inl (cI, 1200, .inl fn))]) (wr := [(d, .inr (4, [.ref ro, .ref rn, .ref rm, .ref bk, .ref uw, .ref lw, .ref tk, .int hd])), (bk, .inr (0, [.ref ro, .ref bw, .ref bs, .int (nI s), .int (nI (bL lo s)), .int (nI (bn lo s))])), (bw, .inl (cI, 300, .inl fw)), (bs, .inl (cL, 300, .inr (.inl fs))), (lw, .inr (3, [.ref rn, .int (nI (bL lo s)), .int (nI p), .int li, .int la, .int lb, .int lk, .long lt, .int ly]))]) (wo := (fun u2 : Int64 × Int32 => [(uw, .inr (3, [.ref rn, .int (nI s), .int (nI p), .int ui, .int ua, .int ub, .int uk, .long u2.1, .int u2.2])), (rn, .inr (1, [.ref qn, .int (nI ln)])), (qn, .inl (cI, 1200, .inl fn))])) (wn := (fun u2 : Int64 × Int32 => [(d, .inr (4, [.ref ro, .ref rn, .ref rm, .ref bk, .ref uw, .ref lw, .ref tk, .int hd])), (bk, .inr (0, [.ref ro, .ref bw, .ref bs, .int (nI s), .int (nI (bL lo s)), .int (nI (bn lo s))])), (bw, .inl (cI, 300, .inl fw)), (bs, .inl (cL, 300, .inr (.inl fs))), (uw, .inr (3, [.ref rn, .int (nI s), .int (nI p), .int ui, .int ua, .int ub, .int uk, .long u2.1, .int u2.2])), (lw, .inr (3, [.ref rn, .int (nI (bL lo s)), .int (nI p), .int li, .int la, .int lb, .int lk, .long lt, .int ly])), (rn, .inr (1, [.ref qn, .int (nI ln)])), (qn, .inl (cI, 1200, .inl fn))])) (isC := [4, 6, 7]) (isR := [0, 1, 2, 3, 5]) hP hD hS hA ⟨rfl, rfl, by decide, by decide, by decide⟩ [0, 1, 2, 3, 5, 4, 6, 7] (by decide) (fun _ => rfl) (fun hPc hDc => va_runVN (As := [.int (fw k), .long (fs k), .long mk]) (rest := []) ⟨hx, hb, hml, hown, ht⟩ (c_X3_shows Ll D cI cL uw rn s p ui ua ub uk ut uy qn ln fn (fw k) (fs k) mk (hu.sh h4) hus H.size) ⟨(va_cnB 3 ht g_X3_shows rfl rfl rfl (nmu_13 hK) (ht _ iw_18) hd_X3_shows ⟨Nat.le_of_ble_eq_true rfl, Nat.le_of_ble_eq_true rfl⟩), (ht _ iw_102), (ht _ iw_103)⟩ (ds_pV hPc hDc hK (q0 := 0) rfl rfl) rfl rfl hl.1 rfl (lv_room (Nat.le_of_ble_eq_true rfl)) dX4_fits_47 ⟨Nat.le_of_ble_eq_true rfl, Nat.le_of_ble_eq_true rfl⟩) (fun r1 u2 H locs hp3 hP hD hS => ?_)
    have hP : va_P D vwCl [(d, .inr (4, [.ref ro, .ref rn, .ref rm, .ref bk, .ref uw, .ref lw, .ref tk, .int hd])), (bk, .inr (0, [.ref ro, .ref bw, .ref bs, .int (nI s), .int (nI (bL lo s)), .int (nI (bn lo s))])), (bw, .inl (cI, 300, .inl fw)), (bs, .inl (cL, 300, .inr (.inl fs))), (uw, .inr (3, [.ref rn, .int (nI s), .int (nI p), .int ui, .int ua, .int ub, .int uk, .long u2.1, .int u2.2])), (lw, .inr (3, [.ref rn, .int (nI (bL lo s)), .int (nI p), .int li, .int la, .int lb, .int lk, .long lt, .int ly])), (rn, .inr (1, [.ref qn, .int (nI ln)])), (qn, .inl (cI, 1200, .inl fn))] H := hP
    have hD : va_D A [(d, .inr (4, [.ref ro, .ref rn, .ref rm, .ref bk, .ref uw, .ref lw, .ref tk, .int hd])), (bk, .inr (0, [.ref ro, .ref bw, .ref bs, .int (nI s), .int (nI (bL lo s)), .int (nI (bn lo s))])), (bw, .inl (cI, 300, .inl fw)), (bs, .inl (cL, 300, .inr (.inl fs))), (uw, .inr (3, [.ref rn, .int (nI s), .int (nI p), .int ui, .int ua, .int ub, .int uk, .long u2.1, .int u2.2])), (lw, .inr (3, [.ref rn, .int (nI (bL lo s)), .int (nI p), .int li, .int la, .int lb, .int lk, .long lt, .int ly])), (rn, .inr (1, [.ref qn, .int (nI ln)])), (qn, .inl (cI, 1200, .inl fn))] := hD
    have hp3 : ((r1 = 1 ∧ ui = 1 ∧ uk = (fw k) ∧ (su_S fn p s ^^^ (fs k)) &&& mk = 0) ∨ (r1 = 0 ∧ ¬ (ui = 1 ∧ uk = (fw k) ∧ (su_S fn p s ^^^ (fs k)) &&& mk = 0))) ∧ dw_S fn s p u2.2 u2.1 := hp3
    exact ds_iret hx hb hr hlk (fb_no hp3.1) (u2.1, u2.2, lt, ly) ⟨(by rw [hbl]; exact ds_cv (hu.ft hv9.1 hv9.2) hp3.1), hp3.2, hqs⟩ hP hD hS (Nat.le_of_ble_eq_true rfl) (Nat.le_of_ble_eq_true rfl) dX4_fits_50
  ·
    have h : k = (bn lo s - 1) := (nI_eq (a := k) (b := (bn lo s - 1)) (by omega) (by omega)).mp h
    have hbl : bl lo s k = bL lo s := if_pos (by omega)
    have hv9 := hv k hk
    rw [hbl] at hv9
    refine lv_aload_n hx hb dX4_fits_13 rfl (lv_at hl 0 rfl) ?_
    refine va_get (D := D) (ci := 4) (v := .ref lw) (C := RX4) (T := TX4) (N := 8) hx hb ht inA_X4 hown hK.1 hP 0 rfl rfl 5 (by decide) (ht _ iw_21) (fun _ h9 => h9) rfl dX4_fits_14 ?_
    refine lv_goto (tgt := 24) hx hb dX4_fits_17 (by decide) ?_
    refine lv_astore (lv' := [(4, .ref lw), (0, .ref d), (1, .int (nI k)), (2, .long mk)]) hx hb dX4_fits_24 hl (Nat.le_of_ble_eq_true rfl) rfl (fun ls hl => ?_)
    refine lv_aload hx hb dX4_fits_26 (lv_at hl 0 rfl) ?_
    refine lv_aload_n hx hb dX4_fits_28 rfl (lv_at hl 1 rfl) ?_
    refine va_get (D := D) (ci := 4) (v := .ref bk) (C := RX4) (T := TX4) (N := 8) hx hb ht inA_X4 hown hK.1 hP 0 rfl rfl 3 (by decide) (ht _ iw_15) (fun _ h9 => h9) rfl dX4_fits_29 ?_
    refine va_getN (D := D) (ci := 0) (v := .ref bw) (C := RX0) (T := TX0) (N := 6) hx hb ht inA_X0 hown hK.1 hP 1 rfl rfl 1 (by decide) (nfu_8 hK) (fun _ h9 => h9) rfl dX4_fits_32 ?_
    refine lv_iload_n hx hb dX4_fits_35 rfl (lv_at hl 2 rfl) ?_
    refine ds_iald (k := k) hx hb hK hP 2 rfl (by omega) (by omega) dX4_fits_36 ?_
    refine lv_aload_n hx hb dX4_fits_37 rfl (lv_at hl 1 rfl) ?_
    refine va_get (D := D) (ci := 4) (v := .ref bk) (C := RX4) (T := TX4) (N := 8) hx hb ht inA_X4 hown hK.1 hP 0 rfl rfl 3 (by decide) (ht _ iw_15) (fun _ h9 => h9) rfl dX4_fits_38 ?_
    refine va_getN (D := D) (ci := 0) (v := .ref bs) (C := RX0) (T := TX0) (N := 6) hx hb ht inA_X0 hown hK.1 hP 1 rfl rfl 2 (by decide) (nfu_9 hK) (fun _ h9 => h9) rfl dX4_fits_41 ?_
    refine lv_iload_n hx hb dX4_fits_44 rfl (lv_at hl 2 rfl) ?_
    refine ds_lald (k := k) hx hb hK hP 3 rfl (by omega) (by omega) dX4_fits_45 ?_
    refine lv_lload_n hx hb dX4_fits_46 rfl (lv_at hl 3 rfl) ?_
    refine ds_calli (wc := [(lw, .inr (3, [.ref rn, .int (nI (bL lo s)), .int (nI p), .int li, .int la, .int lb, .int lk, .long lt, .int ly])), (rn, .inr (1, [.ref qn, .int (nI ln)])), (qn, .inl (cI, 1200, .inl fn))]) (wr := [(d, .inr (4, [.ref ro, .ref rn, .ref rm, .ref bk, .ref uw, .ref lw, .ref tk, .int hd])), (bk, .inr (0, [.ref ro, .ref bw, .ref bs, .int (nI s), .int (nI (bL lo s)), .int (nI (bn lo s))])), (bw, .inl (cI, 300, .inl fw)), (bs, .inl (cL, 300, .inr (.inl fs))), (uw, .inr (3, [.ref rn, .int (nI s), .int (nI p), .int ui, .int ua, .int ub, .int uk, .long ut, .int uy]))]) (wo := (fun u5 : Int64 × Int32 => [(lw, .inr (3, [.ref rn, .int (nI (bL lo s)), .int (nI p), .int li, .int la, .int lb, .int lk, .long u5.1, .int u5.2])), (rn, .inr (1, [.ref qn, .int (nI ln)])), (qn, .inl (cI, 1200, .inl fn))])) (wn := (fun u5 : Int64 × Int32 => [(d, .inr (4, [.ref ro, .ref rn, .ref rm, .ref bk, .ref uw, .ref lw, .ref tk, .int hd])), (bk, .inr (0, [.ref ro, .ref bw, .ref bs, .int (nI s), .int (nI (bL lo s)), .int (nI (bn lo s))])), (bw, .inl (cI, 300, .inl fw)), (bs, .inl (cL, 300, .inr (.inl fs))), (uw, .inr (3, [.ref rn, .int (nI s), .int (nI p), .int ui, .int ua, .int ub, .int uk, .long ut, .int uy])), (lw, .inr (3, [.ref rn, .int (nI (bL lo s)), .int (nI p), .int li, .int la, .int lb, .int lk, .long u5.1, .int u5.2])), (rn, .inr (1, [.ref qn, .int (nI ln)])), (qn, .inl (cI, 1200, .inl fn))])) (isC := [5, 6, 7]) (isR := [0, 1, 2, 3, 4]) hP hD hS hA ⟨rfl, rfl, by decide, by decide, by decide⟩ [0, 1, 2, 3, 4, 5, 6, 7] (by decide) (fun _ => rfl) (fun hPc hDc => va_runVN (As := [.int (fw k), .long (fs k), .long mk]) (rest := []) ⟨hx, hb, hml, hown, ht⟩ (c_X3_shows Ll D cI cL lw rn (bL lo s) p li la lb lk lt ly qn ln fn (fw k) (fs k) mk (hq.sh h4) hqs H.size) ⟨(va_cnB 3 ht g_X3_shows rfl rfl rfl (nmu_13 hK) (ht _ iw_18) hd_X3_shows ⟨Nat.le_of_ble_eq_true rfl, Nat.le_of_ble_eq_true rfl⟩), (ht _ iw_102), (ht _ iw_103)⟩ (ds_pV hPc hDc hK (q0 := 0) rfl rfl) rfl rfl hl.1 rfl (lv_room (Nat.le_of_ble_eq_true rfl)) dX4_fits_47 ⟨Nat.le_of_ble_eq_true rfl, Nat.le_of_ble_eq_true rfl⟩) (fun r4 u5 H locs hp6 hP hD hS => ?_)
    have hP : va_P D vwCl [(d, .inr (4, [.ref ro, .ref rn, .ref rm, .ref bk, .ref uw, .ref lw, .ref tk, .int hd])), (bk, .inr (0, [.ref ro, .ref bw, .ref bs, .int (nI s), .int (nI (bL lo s)), .int (nI (bn lo s))])), (bw, .inl (cI, 300, .inl fw)), (bs, .inl (cL, 300, .inr (.inl fs))), (uw, .inr (3, [.ref rn, .int (nI s), .int (nI p), .int ui, .int ua, .int ub, .int uk, .long ut, .int uy])), (lw, .inr (3, [.ref rn, .int (nI (bL lo s)), .int (nI p), .int li, .int la, .int lb, .int lk, .long u5.1, .int u5.2])), (rn, .inr (1, [.ref qn, .int (nI ln)])), (qn, .inl (cI, 1200, .inl fn))] H := hP
    have hD : va_D A [(d, .inr (4, [.ref ro, .ref rn, .ref rm, .ref bk, .ref uw, .ref lw, .ref tk, .int hd])), (bk, .inr (0, [.ref ro, .ref bw, .ref bs, .int (nI s), .int (nI (bL lo s)), .int (nI (bn lo s))])), (bw, .inl (cI, 300, .inl fw)), (bs, .inl (cL, 300, .inr (.inl fs))), (uw, .inr (3, [.ref rn, .int (nI s), .int (nI p), .int ui, .int ua, .int ub, .int uk, .long ut, .int uy])), (lw, .inr (3, [.ref rn, .int (nI (bL lo s)), .int (nI p), .int li, .int la, .int lb, .int lk, .long u5.1, .int u5.2])), (rn, .inr (1, [.ref qn, .int (nI ln)])), (qn, .inl (cI, 1200, .inl fn))] := hD
    have hp6 : ((r4 = 1 ∧ li = 1 ∧ lk = (fw k) ∧ (su_S fn p (bL lo s) ^^^ (fs k)) &&& mk = 0) ∨ (r4 = 0 ∧ ¬ (li = 1 ∧ lk = (fw k) ∧ (su_S fn p (bL lo s) ^^^ (fs k)) &&& mk = 0))) ∧ dw_S fn (bL lo s) p u5.2 u5.1 := hp6
    exact ds_iret hx hb hr hlk (fb_no hp6.1) (ut, uy, u5.1, u5.2) ⟨(by rw [hbl]; exact ds_cv (hq.ft hv9.1 hv9.2) hp6.1), hus, hp6.2⟩ hP hD hS (Nat.le_of_ble_eq_true rfl) (Nat.le_of_ble_eq_true rfl) dX4_fits_50
end
section
set_option maxHeartbeats 4000000 in
set_option maxRecDepth 100000 in
theorem c_X4_blockAt (Ll : Launch) (D : va_G) (cI cL : ClassId) (d : Nat) (ro : Nat) (rn : Nat) (rm : Nat) (bk : Nat) (uw : Nat) (lw : Nat) (tk : Nat) (hd : Int32) (bw : Nat) (bs : Nat) (s : Nat) (lo : Nat) (fw : Nat → Int32) (fs : Nat → Int64) (upl : Int32) (lpl : Int32) (ui : Int32) (ua : Int32) (ub : Int32) (uk : Int32) (ut : Int64) (uy : Int32) (li : Int32) (la : Int32) (lb : Int32) (lk : Int32) (lt : Int64) (ly : Int32) (qn : Nat) (ln : Nat) (fn : Nat → Int32) (fo : Nat → Int32) (p : Nat) (bf : Option Nat) (mk : Int64) (h1 : lo ≤ 1200) (h2 : 4 ≤ s) (h3 : s ≤ 256) (h4 : ln ≤ 1200) (hv : ∀ j, j < bn lo s → fw j = su_W fo (j * s) (bl lo s j) ∧ fs j = su_S fo (j * s) (bl lo s j)) (h5 : p ≤ 1200) (hbf : ∀ b, bf = some b → b < 300) (hui : dw_I fn ln s ui upl ua ub) (hli : dw_I fn ln (bL lo s) li lpl la lb) (sz : Nat) : Met Ll yX4_blockAt wsX4_blockAt { frames := 4, cells := 0, slots := 0, locals := 94 } (ds_P D cI cL [.ref d, .int (nI p), .int (oI bf), .long mk] [(d, .inr (4, [.ref ro, .ref rn, .ref rm, .ref bk, .ref uw, .ref lw, .ref tk, .int hd])), (bk, .inr (0, [.ref ro, .ref bw, .ref bs, .int (nI s), .int (nI (bL lo s)), .int (nI (bn lo s))])), (bw, .inl (cI, 300, .inl fw)), (bs, .inl (cL, 300, .inr (.inl fs))), (uw, .inr (3, [.ref rn, .int (nI s), .int upl, .int ui, .int ua, .int ub, .int uk, .long ut, .int uy])), (lw, .inr (3, [.ref rn, .int (nI (bL lo s)), .int lpl, .int li, .int la, .int lb, .int lk, .long lt, .int ly])), (rn, .inr (1, [.ref qn, .int (nI ln)])), (qn, .inl (cI, 1200, .inl fn))] sz) (ds_Qi D (fun (r : Int32) (u : (Int32 × Int32 × Int32 × Int32 × Int64 × Int32) × (Int32 × Int32 × Int32 × Int32 × Int64 × Int32)) => r = oI (pick (fb fo fn lo ln s mk p) (bn lo s) bf) ∧ dw_I fn ln s u.1.1 (nI p) u.1.2.1 u.1.2.2.1 ∧ dw_I fn ln (bL lo s) u.2.1 (nI p) u.2.2.1 u.2.2.2.1) (fun u : (Int32 × Int32 × Int32 × Int32 × Int64 × Int32) × (Int32 × Int32 × Int32 × Int32 × Int64 × Int32) => [(d, .inr (4, [.ref ro, .ref rn, .ref rm, .ref bk, .ref uw, .ref lw, .ref tk, .int hd])), (bk, .inr (0, [.ref ro, .ref bw, .ref bs, .int (nI s), .int (nI (bL lo s)), .int (nI (bn lo s))])), (bw, .inl (cI, 300, .inl fw)), (bs, .inl (cL, 300, .inr (.inl fs))), (uw, .inr (3, [.ref rn, .int (nI s), .int (nI p), .int u.1.1, .int u.1.2.1, .int u.1.2.2.1, .int u.1.2.2.2.1, .long u.1.2.2.2.2.1, .int u.1.2.2.2.2.2])), (lw, .inr (3, [.ref rn, .int (nI (bL lo s)), .int (nI p), .int u.2.1, .int u.2.2.1, .int u.2.2.2.1, .int u.2.2.2.2.1, .long u.2.2.2.2.2.1, .int u.2.2.2.2.2.2])), (rn, .inr (1, [.ref qn, .int (nI ln)])), (qn, .inl (cI, 1200, .inl fn))]) (va_A [(d, .inr (4, [.ref ro, .ref rn, .ref rm, .ref bk, .ref uw, .ref lw, .ref tk, .int hd])), (bk, .inr (0, [.ref ro, .ref bw, .ref bs, .int (nI s), .int (nI (bL lo s)), .int (nI (bn lo s))])), (bw, .inl (cI, 300, .inl fw)), (bs, .inl (cL, 300, .inr (.inl fs))), (uw, .inr (3, [.ref rn, .int (nI s), .int upl, .int ui, .int ua, .int ub, .int uk, .long ut, .int uy])), (lw, .inr (3, [.ref rn, .int (nI (bL lo s)), .int lpl, .int li, .int la, .int lb, .int lk, .long lt, .int ly])), (rn, .inr (1, [.ref qn, .int (nI ln)])), (qn, .inl (cI, 1200, .inl fn))] sz)) 0 0 (va_A [(d, .inr (4, [.ref ro, .ref rn, .ref rm, .ref bk, .ref uw, .ref lw, .ref tk, .int hd])), (bk, .inr (0, [.ref ro, .ref bw, .ref bs, .int (nI s), .int (nI (bL lo s)), .int (nI (bn lo s))])), (bw, .inl (cI, 300, .inl fw)), (bs, .inl (cL, 300, .inr (.inl fs))), (uw, .inr (3, [.ref rn, .int (nI s), .int upl, .int ui, .int ua, .int ub, .int uk, .long ut, .int uy])), (lw, .inr (3, [.ref rn, .int (nI (bL lo s)), .int lpl, .int li, .int la, .int lb, .int lk, .long lt, .int ly])), (rn, .inr (1, [.ref qn, .int (nI ln)])), (qn, .inl (cI, 1200, .inl fn))] sz) := by
  refine ds_enter (Qf := (fun A9 => ds_Qi D (fun (r : Int32) (u : (Int32 × Int32 × Int32 × Int32 × Int64 × Int32) × (Int32 × Int32 × Int32 × Int32 × Int64 × Int32)) => r = oI (pick (fb fo fn lo ln s mk p) (bn lo s) bf) ∧ dw_I fn ln s u.1.1 (nI p) u.1.2.1 u.1.2.2.1 ∧ dw_I fn ln (bL lo s) u.2.1 (nI p) u.2.2.1 u.2.2.2.1) (fun u : (Int32 × Int32 × Int32 × Int32 × Int64 × Int32) × (Int32 × Int32 × Int32 × Int32 × Int64 × Int32) => [(d, .inr (4, [.ref ro, .ref rn, .ref rm, .ref bk, .ref uw, .ref lw, .ref tk, .int hd])), (bk, .inr (0, [.ref ro, .ref bw, .ref bs, .int (nI s), .int (nI (bL lo s)), .int (nI (bn lo s))])), (bw, .inl (cI, 300, .inl fw)), (bs, .inl (cL, 300, .inr (.inl fs))), (uw, .inr (3, [.ref rn, .int (nI s), .int (nI p), .int u.1.1, .int u.1.2.1, .int u.1.2.2.1, .int u.1.2.2.2.1, .long u.1.2.2.2.2.1, .int u.1.2.2.2.2.2])), (lw, .inr (3, [.ref rn, .int (nI (bL lo s)), .int (nI p), .int u.2.1, .int u.2.2.1, .int u.2.2.2.1, .int u.2.2.2.2.1, .long u.2.2.2.2.2.1, .int u.2.2.2.2.2.2])), (rn, .inr (1, [.ref qn, .int (nI ln)])), (qn, .inl (cI, 1200, .inl fn))]) A9)) (cc := cX4_blockAt) (maxL := 6) (ret := (some .int)) (by decide) rfl (Nat.le_of_ble_eq_true rfl) ?_
  intro Pp Ee Ss Mm Aa Bb Me Cc hx hb hml hr ht hown hlk hnm A H locs hA hP hD hS hK ls hl
  have hl : lv_has ls 6 [(0, .ref d), (1, .int (nI p)), (2, .int (oI bf)), (3, .long mk)] := hl
  change Ss.vm.findClass RX4 = some Mm.cls at hown
  have hb3 := bn_300 h1 h2
  have hbL := bL_le (n := lo) (s := s) (by omega)
  refine lv_aload_n hx hb dX4_blockAt_0 rfl (lv_at hl 0 rfl) ?_
  refine va_get (D := D) (ci := 4) (v := .ref uw) (C := RX4) (T := TX4) (N := 8) hx hb ht inA_X4 hown hK.1 hP 0 rfl rfl 4 (by decide) (ht _ iw_20) (fun _ h9 => h9) rfl dX4_blockAt_1 ?_
  refine lv_iload_n hx hb dX4_blockAt_4 rfl (lv_at hl 1 rfl) ?_
  refine ds_callv (wc := [(uw, .inr (3, [.ref rn, .int (nI s), .int upl, .int ui, .int ua, .int ub, .int uk, .long ut, .int uy])), (rn, .inr (1, [.ref qn, .int (nI ln)])), (qn, .inl (cI, 1200, .inl fn))]) (wr := [(d, .inr (4, [.ref ro, .ref rn, .ref rm, .ref bk, .ref uw, .ref lw, .ref tk, .int hd])), (bk, .inr (0, [.ref ro, .ref bw, .ref bs, .int (nI s), .int (nI (bL lo s)), .int (nI (bn lo s))])), (bw, .inl (cI, 300, .inl fw)), (bs, .inl (cL, 300, .inr (.inl fs))), (lw, .inr (3, [.ref rn, .int (nI (bL lo s)), .int lpl, .int li, .int la, .int lb, .int lk, .long lt, .int ly]))]) (wo := (fun u2 : Int32 × Int32 × Int32 × Int32 => [(uw, .inr (3, [.ref rn, .int (nI s), .int (nI p), .int u2.1, .int u2.2.1, .int u2.2.2.1, .int u2.2.2.2, .long ut, .int 0])), (rn, .inr (1, [.ref qn, .int (nI ln)])), (qn, .inl (cI, 1200, .inl fn))])) (wn := (fun u2 : Int32 × Int32 × Int32 × Int32 => [(d, .inr (4, [.ref ro, .ref rn, .ref rm, .ref bk, .ref uw, .ref lw, .ref tk, .int hd])), (bk, .inr (0, [.ref ro, .ref bw, .ref bs, .int (nI s), .int (nI (bL lo s)), .int (nI (bn lo s))])), (bw, .inl (cI, 300, .inl fw)), (bs, .inl (cL, 300, .inr (.inl fs))), (uw, .inr (3, [.ref rn, .int (nI s), .int (nI p), .int u2.1, .int u2.2.1, .int u2.2.2.1, .int u2.2.2.2, .long ut, .int 0])), (lw, .inr (3, [.ref rn, .int (nI (bL lo s)), .int lpl, .int li, .int la, .int lb, .int lk, .long lt, .int ly])), (rn, .inr (1, [.ref qn, .int (nI ln)])), (qn, .inl (cI, 1200, .inl fn))])) (isC := [4, 6, 7]) (isR := [0, 1, 2, 3, 5]) hP hD hS hA ⟨rfl, rfl, by decide, by decide, by decide⟩ [0, 1, 2, 3, 5, 4, 6, 7] (by decide) (fun _ => rfl) (fun hPc hDc => va_runVN (As := [.int (nI p)]) (rest := []) ⟨hx, hb, hml, hown, ht⟩ (c_X3_moveTo Ll D cI cL uw rn s upl ui ua ub uk ut uy qn ln fn p (by omega) (by omega) (by omega) hui H.size) ⟨(va_cnB 1 ht g_X3_moveTo rfl rfl rfl (nmu_12 hK) (ht _ iw_18) hd_X3_moveTo ⟨Nat.le_of_ble_eq_true rfl, Nat.le_of_ble_eq_true rfl⟩), (ht _ iw_100), (ht _ iw_101)⟩ (ds_pV hPc hDc hK (q0 := 0) rfl rfl) rfl rfl hl.1 rfl (lv_room (Nat.le_of_ble_eq_true rfl)) dX4_blockAt_5 ⟨Nat.le_of_ble_eq_true rfl, Nat.le_of_ble_eq_true rfl⟩) (fun u2 H locs hp3 hP hD hS => ?_)
  have hP : va_P D vwCl [(d, .inr (4, [.ref ro, .ref rn, .ref rm, .ref bk, .ref uw, .ref lw, .ref tk, .int hd])), (bk, .inr (0, [.ref ro, .ref bw, .ref bs, .int (nI s), .int (nI (bL lo s)), .int (nI (bn lo s))])), (bw, .inl (cI, 300, .inl fw)), (bs, .inl (cL, 300, .inr (.inl fs))), (uw, .inr (3, [.ref rn, .int (nI s), .int (nI p), .int u2.1, .int u2.2.1, .int u2.2.2.1, .int u2.2.2.2, .long ut, .int 0])), (lw, .inr (3, [.ref rn, .int (nI (bL lo s)), .int lpl, .int li, .int la, .int lb, .int lk, .long lt, .int ly])), (rn, .inr (1, [.ref qn, .int (nI ln)])), (qn, .inl (cI, 1200, .inl fn))] H := hP
  have hD : va_D A [(d, .inr (4, [.ref ro, .ref rn, .ref rm, .ref bk, .ref uw, .ref lw, .ref tk, .int hd])), (bk, .inr (0, [.ref ro, .ref bw, .ref bs, .int (nI s), .int (nI (bL lo s)), .int (nI (bn lo s))])), (bw, .inl (cI, 300, .inl fw)), (bs, .inl (cL, 300, .inr (.inl fs))), (uw, .inr (3, [.ref rn, .int (nI s), .int (nI p), .int u2.1, .int u2.2.1, .int u2.2.2.1, .int u2.2.2.2, .long ut, .int 0])), (lw, .inr (3, [.ref rn, .int (nI (bL lo s)), .int lpl, .int li, .int la, .int lb, .int lk, .long lt, .int ly])), (rn, .inr (1, [.ref qn, .int (nI ln)])), (qn, .inl (cI, 1200, .inl fn))] := hD
  have hp3 : (p + s ≤ ln ∧ u2.1 = 1 ∧ u2.2.1 = su_A fn p s ∧ u2.2.2.1 = su_B fn p s ∧ u2.2.2.2 = su_W fn p s) ∨ (ln < p + s ∧ u2.1 = 0) := hp3
  refine lv_aload_n hx hb dX4_blockAt_8 rfl (lv_at hl 0 rfl) ?_
  refine va_get (D := D) (ci := 4) (v := .ref lw) (C := RX4) (T := TX4) (N := 8) hx hb ht inA_X4 hown hK.1 hP 0 rfl rfl 5 (by decide) (ht _ iw_21) (fun _ h9 => h9) rfl dX4_blockAt_9 ?_
  refine lv_iload_n hx hb dX4_blockAt_12 rfl (lv_at hl 1 rfl) ?_
  refine ds_callv (wc := [(lw, .inr (3, [.ref rn, .int (nI (bL lo s)), .int lpl, .int li, .int la, .int lb, .int lk, .long lt, .int ly])), (rn, .inr (1, [.ref qn, .int (nI ln)])), (qn, .inl (cI, 1200, .inl fn))]) (wr := [(d, .inr (4, [.ref ro, .ref rn, .ref rm, .ref bk, .ref uw, .ref lw, .ref tk, .int hd])), (bk, .inr (0, [.ref ro, .ref bw, .ref bs, .int (nI s), .int (nI (bL lo s)), .int (nI (bn lo s))])), (bw, .inl (cI, 300, .inl fw)), (bs, .inl (cL, 300, .inr (.inl fs))), (uw, .inr (3, [.ref rn, .int (nI s), .int (nI p), .int u2.1, .int u2.2.1, .int u2.2.2.1, .int u2.2.2.2, .long ut, .int 0]))]) (wo := (fun u5 : Int32 × Int32 × Int32 × Int32 => [(lw, .inr (3, [.ref rn, .int (nI (bL lo s)), .int (nI p), .int u5.1, .int u5.2.1, .int u5.2.2.1, .int u5.2.2.2, .long lt, .int 0])), (rn, .inr (1, [.ref qn, .int (nI ln)])), (qn, .inl (cI, 1200, .inl fn))])) (wn := (fun u5 : Int32 × Int32 × Int32 × Int32 => [(d, .inr (4, [.ref ro, .ref rn, .ref rm, .ref bk, .ref uw, .ref lw, .ref tk, .int hd])), (bk, .inr (0, [.ref ro, .ref bw, .ref bs, .int (nI s), .int (nI (bL lo s)), .int (nI (bn lo s))])), (bw, .inl (cI, 300, .inl fw)), (bs, .inl (cL, 300, .inr (.inl fs))), (uw, .inr (3, [.ref rn, .int (nI s), .int (nI p), .int u2.1, .int u2.2.1, .int u2.2.2.1, .int u2.2.2.2, .long ut, .int 0])), (lw, .inr (3, [.ref rn, .int (nI (bL lo s)), .int (nI p), .int u5.1, .int u5.2.1, .int u5.2.2.1, .int u5.2.2.2, .long lt, .int 0])), (rn, .inr (1, [.ref qn, .int (nI ln)])), (qn, .inl (cI, 1200, .inl fn))])) (isC := [5, 6, 7]) (isR := [0, 1, 2, 3, 4]) hP hD hS hA ⟨rfl, rfl, by decide, by decide, by decide⟩ [0, 1, 2, 3, 4, 5, 6, 7] (by decide) (fun _ => rfl) (fun hPc hDc => va_runVN (As := [.int (nI p)]) (rest := []) ⟨hx, hb, hml, hown, ht⟩ (c_X3_moveTo Ll D cI cL lw rn (bL lo s) lpl li la lb lk lt ly qn ln fn p (by omega) (by omega) (by omega) hli H.size) ⟨(va_cnB 1 ht g_X3_moveTo rfl rfl rfl (nmu_12 hK) (ht _ iw_18) hd_X3_moveTo ⟨Nat.le_of_ble_eq_true rfl, Nat.le_of_ble_eq_true rfl⟩), (ht _ iw_100), (ht _ iw_101)⟩ (ds_pV hPc hDc hK (q0 := 0) rfl rfl) rfl rfl hl.1 rfl (lv_room (Nat.le_of_ble_eq_true rfl)) dX4_blockAt_13 ⟨Nat.le_of_ble_eq_true rfl, Nat.le_of_ble_eq_true rfl⟩) (fun u5 H locs hp6 hP hD hS => ?_)
  have hP : va_P D vwCl [(d, .inr (4, [.ref ro, .ref rn, .ref rm, .ref bk, .ref uw, .ref lw, .ref tk, .int hd])), (bk, .inr (0, [.ref ro, .ref bw, .ref bs, .int (nI s), .int (nI (bL lo s)), .int (nI (bn lo s))])), (bw, .inl (cI, 300, .inl fw)), (bs, .inl (cL, 300, .inr (.inl fs))), (uw, .inr (3, [.ref rn, .int (nI s), .int (nI p), .int u2.1, .int u2.2.1, .int u2.2.2.1, .int u2.2.2.2, .long ut, .int 0])), (lw, .inr (3, [.ref rn, .int (nI (bL lo s)), .int (nI p), .int u5.1, .int u5.2.1, .int u5.2.2.1, .int u5.2.2.2, .long lt, .int 0])), (rn, .inr (1, [.ref qn, .int (nI ln)])), (qn, .inl (cI, 1200, .inl fn))] H := hP
  have hD : va_D A [(d, .inr (4, [.ref ro, .ref rn, .ref rm, .ref bk, .ref uw, .ref lw, .ref tk, .int hd])), (bk, .inr (0, [.ref ro, .ref bw, .ref bs, .int (nI s), .int (nI (bL lo s)), .int (nI (bn lo s))])), (bw, .inl (cI, 300, .inl fw)), (bs, .inl (cL, 300, .inr (.inl fs))), (uw, .inr (3, [.ref rn, .int (nI s), .int (nI p), .int u2.1, .int u2.2.1, .int u2.2.2.1, .int u2.2.2.2, .long ut, .int 0])), (lw, .inr (3, [.ref rn, .int (nI (bL lo s)), .int (nI p), .int u5.1, .int u5.2.1, .int u5.2.2.1, .int u5.2.2.2, .long lt, .int 0])), (rn, .inr (1, [.ref qn, .int (nI ln)])), (qn, .inl (cI, 1200, .inl fn))] := hD
  have hp6 : (p + (bL lo s) ≤ ln ∧ u5.1 = 1 ∧ u5.2.1 = su_A fn p (bL lo s) ∧ u5.2.2.1 = su_B fn p (bL lo s) ∧ u5.2.2.2 = su_W fn p (bL lo s)) ∨ (ln < p + (bL lo s) ∧ u5.1 = 0) := hp6
  have hu1 := mv_P hp3
  have hu2 := mv_P hp6
  have hI1 := mv_I hp3
  have hI2 := mv_I hp6
  have loop7 : ∀ (k8 : Nat) (i : Nat) (xt : Int64) (xy : Int32) (yt : Int64) (yy : Int32) (H : Heap) (locs : List Loc) (ls : Array Slot), (i ≤ bn lo s) → (fsN (fb fo fn lo ln s mk p) 0 (bn lo s) = fsN (fb fo fn lo ln s mk p) i (bn lo s - i)) → (dw_S fn s p xy xt) → (dw_S fn (bL lo s) p yy yt) → (pick (fb fo fn lo ln s mk p) (bn lo s) bf = fsN (fb fo fn lo ln s mk p) 0 (bn lo s)) → bn lo s - i < k8 → va_P D vwCl [(d, .inr (4, [.ref ro, .ref rn, .ref rm, .ref bk, .ref uw, .ref lw, .ref tk, .int hd])), (bk, .inr (0, [.ref ro, .ref bw, .ref bs, .int (nI s), .int (nI (bL lo s)), .int (nI (bn lo s))])), (bw, .inl (cI, 300, .inl fw)), (bs, .inl (cL, 300, .inr (.inl fs))), (uw, .inr (3, [.ref rn, .int (nI s), .int (nI p), .int u2.1, .int u2.2.1, .int u2.2.2.1, .int u2.2.2.2, .long xt, .int xy])), (lw, .inr (3, [.ref rn, .int (nI (bL lo s)), .int (nI p), .int u5.1, .int u5.2.1, .int u5.2.2.1, .int u5.2.2.2, .long yt, .int yy])), (rn, .inr (1, [.ref qn, .int (nI ln)])), (qn, .inl (cI, 1200, .inl fn))] H → va_D A [(d, .inr (4, [.ref ro, .ref rn, .ref rm, .ref bk, .ref uw, .ref lw, .ref tk, .int hd])), (bk, .inr (0, [.ref ro, .ref bw, .ref bs, .int (nI s), .int (nI (bL lo s)), .int (nI (bn lo s))])), (bw, .inl (cI, 300, .inl fw)), (bs, .inl (cL, 300, .inr (.inl fs))), (uw, .inr (3, [.ref rn, .int (nI s), .int (nI p), .int u2.1, .int u2.2.1, .int u2.2.2.1, .int u2.2.2.2, .long xt, .int xy])), (lw, .inr (3, [.ref rn, .int (nI (bL lo s)), .int (nI p), .int u5.1, .int u5.2.1, .int u5.2.2.1, .int u5.2.2.2, .long yt, .int yy])), (rn, .inr (1, [.ref qn, .int (nI ln)])), (qn, .inl (cI, 1200, .inl fn))] → va_S A Ss.heap H locs → lv_has ls 6 [(0, .ref d), (1, .int (nI p)), (3, .long mk), (5, .int (nI i))] → W Pp Ll Ee { frames := 4, cells := 0, slots := 0, locals := 94 } Ss Mm Aa Bb Me Cc H locs 0 0 (MQ Bb (ds_Qi D (fun (r : Int32) (u : (Int32 × Int32 × Int32 × Int32 × Int64 × Int32) × (Int32 × Int32 × Int32 × Int32 × Int64 × Int32)) => r = oI (pick (fb fo fn lo ln s mk p) (bn lo s) bf) ∧ dw_I fn ln s u.1.1 (nI p) u.1.2.1 u.1.2.2.1 ∧ dw_I fn ln (bL lo s) u.2.1 (nI p) u.2.2.1 u.2.2.2.1) (fun u : (Int32 × Int32 × Int32 × Int32 × Int64 × Int32) × (Int32 × Int32 × Int32 × Int32 × Int64 × Int32) => [(d, .inr (4, [.ref ro, .ref rn, .ref rm, .ref bk, .ref uw, .ref lw, .ref tk, .int hd])), (bk, .inr (0, [.ref ro, .ref bw, .ref bs, .int (nI s), .int (nI (bL lo s)), .int (nI (bn lo s))])), (bw, .inl (cI, 300, .inl fw)), (bs, .inl (cL, 300, .inr (.inl fs))), (uw, .inr (3, [.ref rn, .int (nI s), .int (nI p), .int u.1.1, .int u.1.2.1, .int u.1.2.2.1, .int u.1.2.2.2.1, .long u.1.2.2.2.2.1, .int u.1.2.2.2.2.2])), (lw, .inr (3, [.ref rn, .int (nI (bL lo s)), .int (nI p), .int u.2.1, .int u.2.2.1, .int u.2.2.2.1, .int u.2.2.2.2.1, .long u.2.2.2.2.2.1, .int u.2.2.2.2.2.2])), (rn, .inr (1, [.ref qn, .int (nI ln)])), (qn, .inl (cI, 1200, .inl fn))]) A) Aa Ss 0 0 A) (F0 Mm 52 ls []) := by
    intro k8
    induction k8 with
    | zero => intro i xt xy yt yy H locs ls hi hne hs1 hs2 hpk hm10; exact absurd hm10 (Nat.not_lt_zero _)
    | succ k8 ih9 =>
      intro i xt xy yt yy H locs ls hi hne hs1 hs2 hpk hm10 hP hD hS hl
      refine lv_iload hx hb dX4_blockAt_52 (lv_at hl 3 rfl) ?_
      refine lv_aload_n hx hb dX4_blockAt_54 rfl (lv_at hl 0 rfl) ?_
      refine va_get (D := D) (ci := 4) (v := .ref bk) (C := RX4) (T := TX4) (N := 8) hx hb ht inA_X4 hown hK.1 hP 0 rfl rfl 3 (by decide) (ht _ iw_15) (fun _ h9 => h9) rfl dX4_blockAt_55 ?_
      refine va_getN (D := D) (ci := 0) (v := .int (nI (bn lo s))) (C := RX0) (T := TX0) (N := 6) hx hb ht inA_X0 hown hK.1 hP 1 rfl rfl 5 (by decide) (nfu_7 hK) (fun _ h9 => h9) rfl dX4_blockAt_58 ?_
      refine lv_icmp_ge (tgt := 83) hx hb dX4_blockAt_61 (by decide) (fun h => ?_) (fun h => ?_)
      ·
        have h : (bn lo s) ≤ i := (nI_leI (a := (bn lo s)) (b := i) (by omega) (by omega)).mp h
        refine lv_iconst (v := -1) hx hb dX4_blockAt_83 (by decide +kernel) ?_
        exact ds_iret hx hb hr hlk rfl ((u2.1, u2.2.1, u2.2.2.1, u2.2.2.2, xt, xy), (u5.1, u5.2.1, u5.2.2.1, u5.2.2.2, yt, yy)) ⟨by rw [hpk, hne, fsN_end (by omega)]; rfl, hI1, hI2⟩ hP hD hS (Nat.le_of_ble_eq_true rfl) (Nat.le_of_ble_eq_true rfl) dX4_blockAt_84
      ·
        have h : ¬ (bn lo s) ≤ i := fun z9 => h ((nI_leI (a := (bn lo s)) (b := i) (by omega) (by omega)).mpr z9)
        refine lv_aload_n hx hb dX4_blockAt_64 rfl (lv_at hl 0 rfl) ?_
        refine lv_iload hx hb dX4_blockAt_65 (lv_at hl 3 rfl) ?_
        refine lv_lload_n hx hb dX4_blockAt_67 rfl (lv_at hl 2 rfl) ?_
        refine ds_calli (wc := [(d, .inr (4, [.ref ro, .ref rn, .ref rm, .ref bk, .ref uw, .ref lw, .ref tk, .int hd])), (bk, .inr (0, [.ref ro, .ref bw, .ref bs, .int (nI s), .int (nI (bL lo s)), .int (nI (bn lo s))])), (bw, .inl (cI, 300, .inl fw)), (bs, .inl (cL, 300, .inr (.inl fs))), (uw, .inr (3, [.ref rn, .int (nI s), .int (nI p), .int u2.1, .int u2.2.1, .int u2.2.2.1, .int u2.2.2.2, .long xt, .int xy])), (lw, .inr (3, [.ref rn, .int (nI (bL lo s)), .int (nI p), .int u5.1, .int u5.2.1, .int u5.2.2.1, .int u5.2.2.2, .long yt, .int yy])), (rn, .inr (1, [.ref qn, .int (nI ln)])), (qn, .inl (cI, 1200, .inl fn))]) (wr := []) (wo := (fun u12 : Int64 × Int32 × Int64 × Int32 => [(d, .inr (4, [.ref ro, .ref rn, .ref rm, .ref bk, .ref uw, .ref lw, .ref tk, .int hd])), (bk, .inr (0, [.ref ro, .ref bw, .ref bs, .int (nI s), .int (nI (bL lo s)), .int (nI (bn lo s))])), (bw, .inl (cI, 300, .inl fw)), (bs, .inl (cL, 300, .inr (.inl fs))), (uw, .inr (3, [.ref rn, .int (nI s), .int (nI p), .int u2.1, .int u2.2.1, .int u2.2.2.1, .int u2.2.2.2, .long u12.1, .int u12.2.1])), (lw, .inr (3, [.ref rn, .int (nI (bL lo s)), .int (nI p), .int u5.1, .int u5.2.1, .int u5.2.2.1, .int u5.2.2.2, .long u12.2.2.1, .int u12.2.2.2])), (rn, .inr (1, [.ref qn, .int (nI ln)])), (qn, .inl (cI, 1200, .inl fn))])) (wn := (fun u12 : Int64 × Int32 × Int64 × Int32 => [(d, .inr (4, [.ref ro, .ref rn, .ref rm, .ref bk, .ref uw, .ref lw, .ref tk, .int hd])), (bk, .inr (0, [.ref ro, .ref bw, .ref bs, .int (nI s), .int (nI (bL lo s)), .int (nI (bn lo s))])), (bw, .inl (cI, 300, .inl fw)), (bs, .inl (cL, 300, .inr (.inl fs))), (uw, .inr (3, [.ref rn, .int (nI s), .int (nI p), .int u2.1, .int u2.2.1, .int u2.2.2.1, .int u2.2.2.2, .long u12.1, .int u12.2.1])), (lw, .inr (3, [.ref rn, .int (nI (bL lo s)), .int (nI p), .int u5.1, .int u5.2.1, .int u5.2.2.1, .int u5.2.2.2, .long u12.2.2.1, .int u12.2.2.2])), (rn, .inr (1, [.ref qn, .int (nI ln)])), (qn, .inl (cI, 1200, .inl fn))])) (isC := [0, 1, 2, 3, 4, 5, 6, 7]) (isR := []) hP hD hS hA ⟨rfl, rfl, by decide, by decide, by decide⟩ [0, 1, 2, 3, 4, 5, 6, 7] (by decide) (fun _ => rfl) (fun hPc hDc => va_runV (As := [.int (nI i), .long mk]) (rest := []) ⟨hx, hb, hml, hown, ht⟩ (c_X4_fits Ll D cI cL d ro rn rm bk uw lw tk hd bw bs s lo fw fs u2.1 u2.2.1 u2.2.2.1 u2.2.2.2 xt xy u5.1 u5.2.1 u5.2.2.1 u5.2.2.2 yt yy p qn ln fn fo i mk h1 h2 h3 h4 hv (by omega) hu1 hs1 hu2 hs2 H.size) ⟨(callB_of 2 ht g_X4_fits rfl rfl rfl (ht _ iw_30) (ht _ iw_115) hd_X4_fits ⟨Nat.le_of_ble_eq_true rfl, Nat.le_of_ble_eq_true rfl⟩), (ht _ iw_116), (ht _ iw_117)⟩ (ds_pV hPc hDc hK (q0 := 0) rfl rfl) rfl rfl hl.1 rfl (lv_room (Nat.le_of_ble_eq_true rfl)) dX4_blockAt_68 ⟨Nat.le_of_ble_eq_true rfl, Nat.le_of_ble_eq_true rfl⟩) (fun r11 u12 H locs hp13 hP hD hS => ?_)
        have hP : va_P D vwCl [(d, .inr (4, [.ref ro, .ref rn, .ref rm, .ref bk, .ref uw, .ref lw, .ref tk, .int hd])), (bk, .inr (0, [.ref ro, .ref bw, .ref bs, .int (nI s), .int (nI (bL lo s)), .int (nI (bn lo s))])), (bw, .inl (cI, 300, .inl fw)), (bs, .inl (cL, 300, .inr (.inl fs))), (uw, .inr (3, [.ref rn, .int (nI s), .int (nI p), .int u2.1, .int u2.2.1, .int u2.2.2.1, .int u2.2.2.2, .long u12.1, .int u12.2.1])), (lw, .inr (3, [.ref rn, .int (nI (bL lo s)), .int (nI p), .int u5.1, .int u5.2.1, .int u5.2.2.1, .int u5.2.2.2, .long u12.2.2.1, .int u12.2.2.2])), (rn, .inr (1, [.ref qn, .int (nI ln)])), (qn, .inl (cI, 1200, .inl fn))] H := hP
        have hD : va_D A [(d, .inr (4, [.ref ro, .ref rn, .ref rm, .ref bk, .ref uw, .ref lw, .ref tk, .int hd])), (bk, .inr (0, [.ref ro, .ref bw, .ref bs, .int (nI s), .int (nI (bL lo s)), .int (nI (bn lo s))])), (bw, .inl (cI, 300, .inl fw)), (bs, .inl (cL, 300, .inr (.inl fs))), (uw, .inr (3, [.ref rn, .int (nI s), .int (nI p), .int u2.1, .int u2.2.1, .int u2.2.2.1, .int u2.2.2.2, .long u12.1, .int u12.2.1])), (lw, .inr (3, [.ref rn, .int (nI (bL lo s)), .int (nI p), .int u5.1, .int u5.2.1, .int u5.2.2.1, .int u5.2.2.2, .long u12.2.2.1, .int u12.2.2.2])), (rn, .inr (1, [.ref qn, .int (nI ln)])), (qn, .inl (cI, 1200, .inl fn))] := hD
        have hp13 : ((r11 = 1 ∧ ft fo fn ln mk (i * s) p (bl lo s i)) ∨ (r11 = 0 ∧ ¬ ft fo fn ln mk (i * s) p (bl lo s i))) ∧ dw_S fn s p u12.2.1 u12.1 ∧ dw_S fn (bL lo s) p u12.2.2.2 u12.2.2.1 := hp13
        rcases hp13.1 with ⟨e9, hf⟩ | ⟨e9, hf⟩
        ·
          subst e9
          refine lv_if_eq (tgt := 77) hx hb dX4_blockAt_71 (by decide) (fun h0 => ?_) (fun h0 => ?_)
          ·
            exact absurd h0 (by decide)
          ·
            refine lv_iload hx hb dX4_blockAt_74 (lv_at hl 3 rfl) ?_
            exact ds_iret hx hb hr hlk rfl ((u2.1, u2.2.1, u2.2.2.1, u2.2.2.2, u12.1, u12.2.1), (u5.1, u5.2.1, u5.2.2.1, u5.2.2.2, u12.2.2.1, u12.2.2.2)) ⟨by rw [hpk, hne, fsN_yes (by omega) (decide_eq_true hf)]; rfl, hI1, hI2⟩ hP hD hS (Nat.le_of_ble_eq_true rfl) (Nat.le_of_ble_eq_true rfl) dX4_blockAt_76
        ·
          subst e9
          refine lv_if_eq (tgt := 77) hx hb dX4_blockAt_71 (by decide) (fun h0 => ?_) (fun h0 => ?_)
          ·
            refine lv_iinc (k := 3) (v := nI (i + 1)) (lv' := [(5, .int (nI (i + 1))), (0, .ref d), (1, .int (nI p)), (3, .long mk)]) hx hb dX4_blockAt_77 hl rfl (by rw [nI_succ]; rfl) (Nat.le_of_ble_eq_true rfl) rfl (fun ls hl => ?_)
            refine lv_goto (tgt := 52) hx hb dX4_blockAt_80 (by decide) ?_
            exact ih9 (i + 1) u12.1 u12.2.1 u12.2.2.1 u12.2.2.2 H locs ls (by omega) (hne.trans (fsN_no (by omega) (fun z => hf (of_decide_eq_true z)))) hp13.2.1 hp13.2.2 hpk (by omega) hP hD hS (lv_sub hl [1, 2, 3, 0] rfl)
          ·
            exact absurd rfl h0
  rcases bf with _ | b0
  ·
    refine lv_iload_n hx hb dX4_blockAt_16 rfl (lv_at hl 2 rfl) ?_
    refine lv_iconst (v := -1) hx hb dX4_blockAt_17 (by decide +kernel) ?_
    refine lv_icmp_eq (tgt := 49) hx hb dX4_blockAt_18 (by decide) (fun h => ?_) (fun h => ?_)
    ·
      refine lv_iconst (v := nI 0) hx hb dX4_blockAt_49 (by decide +kernel) ?_
      refine lv_istore (lv' := [(5, .int (nI 0)), (0, .ref d), (1, .int (nI p)), (2, .int (oI none)), (3, .long mk)]) hx hb dX4_blockAt_50 hl (Nat.le_of_ble_eq_true rfl) rfl (fun ls hl => ?_)
      exact loop7 _ 0 ut (nI 0) lt (nI 0) H locs ls (Nat.zero_le _) rfl (Or.inl rfl) (Or.inl rfl) rfl (Nat.lt_succ_self _) hP hD hS (lv_sub hl [1, 2, 4, 0] rfl)
    ·
      exact absurd rfl h
  ·
    have hb0 := hbf b0 rfl
    have hl : lv_has ls 6 [(0, .ref d), (1, .int (nI p)), (2, .int (nI b0)), (3, .long mk)] := hl
    refine lv_iload_n hx hb dX4_blockAt_16 rfl (lv_at hl 2 rfl) ?_
    refine lv_iconst (v := -1) hx hb dX4_blockAt_17 (by decide +kernel) ?_
    refine lv_icmp_eq (tgt := 49) hx hb dX4_blockAt_18 (by decide) (fun h => ?_) (fun h => ?_)
    ·
      exact absurd h (ds_nm1 (by omega))
    ·
      refine lv_iload_n hx hb dX4_blockAt_21 rfl (lv_at hl 2 rfl) ?_
      refine lv_iconst (v := nI 1) hx hb dX4_blockAt_22 (by decide +kernel) ?_
      refine lv_iadd hx hb dX4_blockAt_23 ?_
      refine ds_top (z := nI (b0 + 1)) (nI_add _ _) ?_
      refine lv_aload_n hx hb dX4_blockAt_24 rfl (lv_at hl 0 rfl) ?_
      refine va_get (D := D) (ci := 4) (v := .ref bk) (C := RX4) (T := TX4) (N := 8) hx hb ht inA_X4 hown hK.1 hP 0 rfl rfl 3 (by decide) (ht _ iw_15) (fun _ h9 => h9) rfl dX4_blockAt_25 ?_
      refine va_getN (D := D) (ci := 0) (v := .int (nI (bn lo s))) (C := RX0) (T := TX0) (N := 6) hx hb ht inA_X0 hown hK.1 hP 1 rfl rfl 5 (by decide) (nfu_7 hK) (fun _ h9 => h9) rfl dX4_blockAt_28 ?_
      refine lv_icmp_ge (tgt := 49) hx hb dX4_blockAt_31 (by decide) (fun h => ?_) (fun h => ?_)
      ·
        have h : (bn lo s) ≤ (b0 + 1) := (nI_leI (a := (bn lo s)) (b := (b0 + 1)) (by omega) (by omega)).mp h
        refine lv_iconst (v := nI 0) hx hb dX4_blockAt_49 (by decide +kernel) ?_
        refine lv_istore (lv' := [(5, .int (nI 0)), (0, .ref d), (1, .int (nI p)), (2, .int (nI b0)), (3, .long mk)]) hx hb dX4_blockAt_50 hl (Nat.le_of_ble_eq_true rfl) rfl (fun ls hl => ?_)
        exact loop7 _ 0 ut (nI 0) lt (nI 0) H locs ls (Nat.zero_le _) rfl (Or.inl rfl) (Or.inl rfl) (if_neg (fun z => absurd z.1 (by omega))) (Nat.lt_succ_self _) hP hD hS (lv_sub hl [1, 2, 4, 0] rfl)
      ·
        have h : ¬ (bn lo s) ≤ (b0 + 1) := fun z9 => h ((nI_leI (a := (bn lo s)) (b := (b0 + 1)) (by omega) (by omega)).mpr z9)
        refine lv_aload_n hx hb dX4_blockAt_34 rfl (lv_at hl 0 rfl) ?_
        refine lv_iload_n hx hb dX4_blockAt_35 rfl (lv_at hl 2 rfl) ?_
        refine lv_iconst (v := nI 1) hx hb dX4_blockAt_36 (by decide +kernel) ?_
        refine lv_iadd hx hb dX4_blockAt_37 ?_
        refine ds_top (z := nI (b0 + 1)) (nI_add _ _) ?_
        refine lv_lload_n hx hb dX4_blockAt_38 rfl (lv_at hl 3 rfl) ?_
        refine ds_calli (wc := [(d, .inr (4, [.ref ro, .ref rn, .ref rm, .ref bk, .ref uw, .ref lw, .ref tk, .int hd])), (bk, .inr (0, [.ref ro, .ref bw, .ref bs, .int (nI s), .int (nI (bL lo s)), .int (nI (bn lo s))])), (bw, .inl (cI, 300, .inl fw)), (bs, .inl (cL, 300, .inr (.inl fs))), (uw, .inr (3, [.ref rn, .int (nI s), .int (nI p), .int u2.1, .int u2.2.1, .int u2.2.2.1, .int u2.2.2.2, .long ut, .int 0])), (lw, .inr (3, [.ref rn, .int (nI (bL lo s)), .int (nI p), .int u5.1, .int u5.2.1, .int u5.2.2.1, .int u5.2.2.2, .long lt, .int 0])), (rn, .inr (1, [.ref qn, .int (nI ln)])), (qn, .inl (cI, 1200, .inl fn))]) (wr := []) (wo := (fun u15 : Int64 × Int32 × Int64 × Int32 => [(d, .inr (4, [.ref ro, .ref rn, .ref rm, .ref bk, .ref uw, .ref lw, .ref tk, .int hd])), (bk, .inr (0, [.ref ro, .ref bw, .ref bs, .int (nI s), .int (nI (bL lo s)), .int (nI (bn lo s))])), (bw, .inl (cI, 300, .inl fw)), (bs, .inl (cL, 300, .inr (.inl fs))), (uw, .inr (3, [.ref rn, .int (nI s), .int (nI p), .int u2.1, .int u2.2.1, .int u2.2.2.1, .int u2.2.2.2, .long u15.1, .int u15.2.1])), (lw, .inr (3, [.ref rn, .int (nI (bL lo s)), .int (nI p), .int u5.1, .int u5.2.1, .int u5.2.2.1, .int u5.2.2.2, .long u15.2.2.1, .int u15.2.2.2])), (rn, .inr (1, [.ref qn, .int (nI ln)])), (qn, .inl (cI, 1200, .inl fn))])) (wn := (fun u15 : Int64 × Int32 × Int64 × Int32 => [(d, .inr (4, [.ref ro, .ref rn, .ref rm, .ref bk, .ref uw, .ref lw, .ref tk, .int hd])), (bk, .inr (0, [.ref ro, .ref bw, .ref bs, .int (nI s), .int (nI (bL lo s)), .int (nI (bn lo s))])), (bw, .inl (cI, 300, .inl fw)), (bs, .inl (cL, 300, .inr (.inl fs))), (uw, .inr (3, [.ref rn, .int (nI s), .int (nI p), .int u2.1, .int u2.2.1, .int u2.2.2.1, .int u2.2.2.2, .long u15.1, .int u15.2.1])), (lw, .inr (3, [.ref rn, .int (nI (bL lo s)), .int (nI p), .int u5.1, .int u5.2.1, .int u5.2.2.1, .int u5.2.2.2, .long u15.2.2.1, .int u15.2.2.2])), (rn, .inr (1, [.ref qn, .int (nI ln)])), (qn, .inl (cI, 1200, .inl fn))])) (isC := [0, 1, 2, 3, 4, 5, 6, 7]) (isR := []) hP hD hS hA ⟨rfl, rfl, by decide, by decide, by decide⟩ [0, 1, 2, 3, 4, 5, 6, 7] (by decide) (fun _ => rfl) (fun hPc hDc => va_runV (As := [.int (nI (b0 + 1)), .long mk]) (rest := []) ⟨hx, hb, hml, hown, ht⟩ (c_X4_fits Ll D cI cL d ro rn rm bk uw lw tk hd bw bs s lo fw fs u2.1 u2.2.1 u2.2.2.1 u2.2.2.2 ut 0 u5.1 u5.2.1 u5.2.2.1 u5.2.2.2 lt 0 p qn ln fn fo (b0 + 1) mk h1 h2 h3 h4 hv (by omega) hu1 (Or.inl rfl) hu2 (Or.inl rfl) H.size) ⟨(callB_of 2 ht g_X4_fits rfl rfl rfl (ht _ iw_30) (ht _ iw_115) hd_X4_fits ⟨Nat.le_of_ble_eq_true rfl, Nat.le_of_ble_eq_true rfl⟩), (ht _ iw_116), (ht _ iw_117)⟩ (ds_pV hPc hDc hK (q0 := 0) rfl rfl) rfl rfl hl.1 rfl (lv_room (Nat.le_of_ble_eq_true rfl)) dX4_blockAt_39 ⟨Nat.le_of_ble_eq_true rfl, Nat.le_of_ble_eq_true rfl⟩) (fun r14 u15 H locs hp16 hP hD hS => ?_)
        have hP : va_P D vwCl [(d, .inr (4, [.ref ro, .ref rn, .ref rm, .ref bk, .ref uw, .ref lw, .ref tk, .int hd])), (bk, .inr (0, [.ref ro, .ref bw, .ref bs, .int (nI s), .int (nI (bL lo s)), .int (nI (bn lo s))])), (bw, .inl (cI, 300, .inl fw)), (bs, .inl (cL, 300, .inr (.inl fs))), (uw, .inr (3, [.ref rn, .int (nI s), .int (nI p), .int u2.1, .int u2.2.1, .int u2.2.2.1, .int u2.2.2.2, .long u15.1, .int u15.2.1])), (lw, .inr (3, [.ref rn, .int (nI (bL lo s)), .int (nI p), .int u5.1, .int u5.2.1, .int u5.2.2.1, .int u5.2.2.2, .long u15.2.2.1, .int u15.2.2.2])), (rn, .inr (1, [.ref qn, .int (nI ln)])), (qn, .inl (cI, 1200, .inl fn))] H := hP
        have hD : va_D A [(d, .inr (4, [.ref ro, .ref rn, .ref rm, .ref bk, .ref uw, .ref lw, .ref tk, .int hd])), (bk, .inr (0, [.ref ro, .ref bw, .ref bs, .int (nI s), .int (nI (bL lo s)), .int (nI (bn lo s))])), (bw, .inl (cI, 300, .inl fw)), (bs, .inl (cL, 300, .inr (.inl fs))), (uw, .inr (3, [.ref rn, .int (nI s), .int (nI p), .int u2.1, .int u2.2.1, .int u2.2.2.1, .int u2.2.2.2, .long u15.1, .int u15.2.1])), (lw, .inr (3, [.ref rn, .int (nI (bL lo s)), .int (nI p), .int u5.1, .int u5.2.1, .int u5.2.2.1, .int u5.2.2.2, .long u15.2.2.1, .int u15.2.2.2])), (rn, .inr (1, [.ref qn, .int (nI ln)])), (qn, .inl (cI, 1200, .inl fn))] := hD
        have hp16 : ((r14 = 1 ∧ ft fo fn ln mk ((b0 + 1) * s) p (bl lo s (b0 + 1))) ∨ (r14 = 0 ∧ ¬ ft fo fn ln mk ((b0 + 1) * s) p (bl lo s (b0 + 1)))) ∧ dw_S fn s p u15.2.1 u15.1 ∧ dw_S fn (bL lo s) p u15.2.2.2 u15.2.2.1 := hp16
        rcases hp16.1 with ⟨e9, hf⟩ | ⟨e9, hf⟩
        ·
          subst e9
          refine lv_if_eq (tgt := 49) hx hb dX4_blockAt_42 (by decide) (fun h0 => ?_) (fun h0 => ?_)
          ·
            exact absurd h0 (by decide)
          ·
            refine lv_iload_n hx hb dX4_blockAt_45 rfl (lv_at hl 2 rfl) ?_
            refine lv_iconst (v := nI 1) hx hb dX4_blockAt_46 (by decide +kernel) ?_
            refine lv_iadd hx hb dX4_blockAt_47 ?_
            refine ds_top (z := nI (b0 + 1)) (nI_add _ _) ?_
            exact ds_iret hx hb hr hlk rfl ((u2.1, u2.2.1, u2.2.2.1, u2.2.2.2, u15.1, u15.2.1), (u5.1, u5.2.1, u5.2.2.1, u5.2.2.2, u15.2.2.1, u15.2.2.2)) ⟨by rw [show pick (fb fo fn lo ln s mk p) (bn lo s) (some b0) = some (b0 + 1) from if_pos ⟨by omega, decide_eq_true hf⟩]; rfl, hI1, hI2⟩ hP hD hS (Nat.le_of_ble_eq_true rfl) (Nat.le_of_ble_eq_true rfl) dX4_blockAt_48
        ·
          subst e9
          refine lv_if_eq (tgt := 49) hx hb dX4_blockAt_42 (by decide) (fun h0 => ?_) (fun h0 => ?_)
          ·
            refine lv_iconst (v := nI 0) hx hb dX4_blockAt_49 (by decide +kernel) ?_
            refine lv_istore (lv' := [(5, .int (nI 0)), (0, .ref d), (1, .int (nI p)), (2, .int (nI b0)), (3, .long mk)]) hx hb dX4_blockAt_50 hl (Nat.le_of_ble_eq_true rfl) rfl (fun ls hl => ?_)
            exact loop7 _ 0 u15.1 u15.2.1 u15.2.2.1 u15.2.2.2 H locs ls (Nat.zero_le _) rfl hp16.2.1 hp16.2.2 (if_neg (fun z => hf (of_decide_eq_true z.2))) (Nat.lt_succ_self _) hP hD hS (lv_sub hl [1, 2, 4, 0] rfl)
          ·
            exact absurd rfl h0
end
section
set_option maxHeartbeats 4000000 in
set_option maxRecDepth 100000 in
theorem c_X4_firstPlace (Ll : Launch) (D : va_G) (cI cL : ClassId) (d : Nat) (ro : Nat) (rn : Nat) (rm : Nat) (bk : Nat) (uw : Nat) (lw : Nat) (tk : Nat) (hd : Int32) (oo : Nat) (lo : Nat) (fo : Nat → Int32) (qn : Nat) (ln : Nat) (fn : Nat → Int32) (uz : Nat) (upl : Int32) (ui : Int32) (ua : Int32) (ub : Int32) (uk : Int32) (ut : Int64) (uy : Int32) (q : Nat) (k : Nat) (mk : Int64) (p0 : Nat) (h1 : q + k ≤ 1200) (h2 : 0 < k) (h3 : ln ≤ 1200) (h5 : p0 < 2 ^ 31) (sz : Nat) : Met Ll yX4_firstPlace wsX4_firstPlace { frames := 3, cells := 0, slots := 0, locals := 70 } (ds_P D cI cL [.ref d, .int (nI q), .int (nI k), .long mk, .int (nI p0)] [(d, .inr (4, [.ref ro, .ref rn, .ref rm, .ref bk, .ref uw, .ref lw, .ref tk, .int hd])), (ro, .inr (1, [.ref oo, .int (nI lo)])), (oo, .inl (cI, 1200, .inl fo)), (rn, .inr (1, [.ref qn, .int (nI ln)])), (qn, .inl (cI, 1200, .inl fn)), (uw, .inr (3, [.ref rn, .int (nI uz), .int upl, .int ui, .int ua, .int ub, .int uk, .long ut, .int uy]))] sz) (ds_Qi D (fun (r : Int32) (u : Int32 × Int32 × Int32 × Int32 × Int32 × Int64 × Int32) => (∃ p, p0 ≤ p ∧ ft fo fn ln mk q p k ∧ (∀ j, p0 ≤ j → j < p → ¬ ft fo fn ln mk q j k) ∧ r = nI p) ∨ ((∀ j, p0 ≤ j → ¬ ft fo fn ln mk q j k) ∧ r = -1)) (fun u : Int32 × Int32 × Int32 × Int32 × Int32 × Int64 × Int32 => [(d, .inr (4, [.ref ro, .ref rn, .ref rm, .ref bk, .ref uw, .ref lw, .ref tk, .int hd])), (ro, .inr (1, [.ref oo, .int (nI lo)])), (oo, .inl (cI, 1200, .inl fo)), (rn, .inr (1, [.ref qn, .int (nI ln)])), (qn, .inl (cI, 1200, .inl fn)), (uw, .inr (3, [.ref rn, .int (nI k), .int u.1, .int u.2.1, .int u.2.2.1, .int u.2.2.2.1, .int u.2.2.2.2.1, .long u.2.2.2.2.2.1, .int u.2.2.2.2.2.2]))]) (va_A [(d, .inr (4, [.ref ro, .ref rn, .ref rm, .ref bk, .ref uw, .ref lw, .ref tk, .int hd])), (ro, .inr (1, [.ref oo, .int (nI lo)])), (oo, .inl (cI, 1200, .inl fo)), (rn, .inr (1, [.ref qn, .int (nI ln)])), (qn, .inl (cI, 1200, .inl fn)), (uw, .inr (3, [.ref rn, .int (nI uz), .int upl, .int ui, .int ua, .int ub, .int uk, .long ut, .int uy]))] sz)) 0 0 (va_A [(d, .inr (4, [.ref ro, .ref rn, .ref rm, .ref bk, .ref uw, .ref lw, .ref tk, .int hd])), (ro, .inr (1, [.ref oo, .int (nI lo)])), (oo, .inl (cI, 1200, .inl fo)), (rn, .inr (1, [.ref qn, .int (nI ln)])), (qn, .inl (cI, 1200, .inl fn)), (uw, .inr (3, [.ref rn, .int (nI uz), .int upl, .int ui, .int ua, .int ub, .int uk, .long ut, .int uy]))] sz) := by
  refine ds_enter (Qf := (fun A9 => ds_Qi D (fun (r : Int32) (u : Int32 × Int32 × Int32 × Int32 × Int32 × Int64 × Int32) => (∃ p, p0 ≤ p ∧ ft fo fn ln mk q p k ∧ (∀ j, p0 ≤ j → j < p → ¬ ft fo fn ln mk q j k) ∧ r = nI p) ∨ ((∀ j, p0 ≤ j → ¬ ft fo fn ln mk q j k) ∧ r = -1)) (fun u : Int32 × Int32 × Int32 × Int32 × Int32 × Int64 × Int32 => [(d, .inr (4, [.ref ro, .ref rn, .ref rm, .ref bk, .ref uw, .ref lw, .ref tk, .int hd])), (ro, .inr (1, [.ref oo, .int (nI lo)])), (oo, .inl (cI, 1200, .inl fo)), (rn, .inr (1, [.ref qn, .int (nI ln)])), (qn, .inl (cI, 1200, .inl fn)), (uw, .inr (3, [.ref rn, .int (nI k), .int u.1, .int u.2.1, .int u.2.2.1, .int u.2.2.2.1, .int u.2.2.2.2.1, .long u.2.2.2.2.2.1, .int u.2.2.2.2.2.2]))]) A9)) (cc := cX4_firstPlace) (maxL := 10) (ret := (some .int)) (by decide) rfl (Nat.le_of_ble_eq_true rfl) ?_
  intro Pp Ee Ss Mm Aa Bb Me Cc hx hb hml hr ht hown hlk hnm A H locs hA hP hD hS hK ls hl
  have hl : lv_has ls 10 [(0, .ref d), (1, .int (nI q)), (2, .int (nI k)), (3, .long mk), (5, .int (nI p0))] := hl
  change Ss.vm.findClass RX4 = some Mm.cls at hown
  refine lv_aload_n hx hb dX4_firstPlace_0 rfl (lv_at hl 0 rfl) ?_
  refine va_get (D := D) (ci := 4) (v := .ref ro) (C := RX4) (T := TX4) (N := 8) hx hb ht inA_X4 hown hK.1 hP 0 rfl rfl 0 (by decide) (ht _ iw_8) (fun _ h9 => h9) rfl dX4_firstPlace_1 ?_
  refine lv_iload_n hx hb dX4_firstPlace_4 rfl (lv_at hl 1 rfl) ?_
  refine lv_iload_n hx hb dX4_firstPlace_5 rfl (lv_at hl 2 rfl) ?_
  refine ds_calli (wc := [(ro, .inr (1, [.ref oo, .int (nI lo)])), (oo, .inl (cI, 1200, .inl fo))]) (wr := [(d, .inr (4, [.ref ro, .ref rn, .ref rm, .ref bk, .ref uw, .ref lw, .ref tk, .int hd])), (rn, .inr (1, [.ref qn, .int (nI ln)])), (qn, .inl (cI, 1200, .inl fn)), (uw, .inr (3, [.ref rn, .int (nI uz), .int upl, .int ui, .int ua, .int ub, .int uk, .long ut, .int uy]))]) (wo := (fun u2 : Unit => [(ro, .inr (1, [.ref oo, .int (nI lo)])), (oo, .inl (cI, 1200, .inl fo))])) (wn := (fun u2 : Unit => [(d, .inr (4, [.ref ro, .ref rn, .ref rm, .ref bk, .ref uw, .ref lw, .ref tk, .int hd])), (ro, .inr (1, [.ref oo, .int (nI lo)])), (oo, .inl (cI, 1200, .inl fo)), (rn, .inr (1, [.ref qn, .int (nI ln)])), (qn, .inl (cI, 1200, .inl fn)), (uw, .inr (3, [.ref rn, .int (nI uz), .int upl, .int ui, .int ua, .int ub, .int uk, .long ut, .int uy]))])) (isC := [1, 2]) (isR := [0, 3, 4, 5]) hP hD hS hA ⟨rfl, rfl, by decide, by decide, by decide⟩ [0, 4, 5, 1, 2, 3] (by decide) (fun _ => rfl) (fun hPc hDc => va_runVN (As := [.int (nI q), .int (nI k)]) (rest := []) ⟨hx, hb, hml, hown, ht⟩ (c_X1_weakSum Ll D cI cL ro oo lo fo q k h1 H.size) ⟨(va_cnB 2 ht g_X1_weakSum rfl rfl rfl (nmu_6 hK) (ht _ iw_6) hd_X1_weakSum ⟨Nat.le_of_ble_eq_true rfl, Nat.le_of_ble_eq_true rfl⟩), (ht _ iw_53), (ht _ iw_54)⟩ (ds_pV hPc hDc hK (q0 := 0) rfl rfl) rfl rfl hl.1 rfl (lv_room (Nat.le_of_ble_eq_true rfl)) dX4_firstPlace_6 ⟨Nat.le_of_ble_eq_true rfl, Nat.le_of_ble_eq_true rfl⟩) (fun r1 u2 H locs hp3 hP hD hS => ?_)
  have hP : va_P D vwCl [(d, .inr (4, [.ref ro, .ref rn, .ref rm, .ref bk, .ref uw, .ref lw, .ref tk, .int hd])), (ro, .inr (1, [.ref oo, .int (nI lo)])), (oo, .inl (cI, 1200, .inl fo)), (rn, .inr (1, [.ref qn, .int (nI ln)])), (qn, .inl (cI, 1200, .inl fn)), (uw, .inr (3, [.ref rn, .int (nI uz), .int upl, .int ui, .int ua, .int ub, .int uk, .long ut, .int uy]))] H := hP
  have hD : va_D A [(d, .inr (4, [.ref ro, .ref rn, .ref rm, .ref bk, .ref uw, .ref lw, .ref tk, .int hd])), (ro, .inr (1, [.ref oo, .int (nI lo)])), (oo, .inl (cI, 1200, .inl fo)), (rn, .inr (1, [.ref qn, .int (nI ln)])), (qn, .inl (cI, 1200, .inl fn)), (uw, .inr (3, [.ref rn, .int (nI uz), .int upl, .int ui, .int ua, .int ub, .int uk, .long ut, .int uy]))] := hD
  have hp3 : r1 = su_W fo q k := hp3
  replace hp3 := Eq.symm hp3
  subst hp3
  refine lv_istore (lv' := [(6, .int (su_W fo q k)), (0, .ref d), (1, .int (nI q)), (2, .int (nI k)), (3, .long mk), (5, .int (nI p0))]) hx hb dX4_firstPlace_9 hl (Nat.le_of_ble_eq_true rfl) rfl (fun ls hl => ?_)
  refine lv_aload_n hx hb dX4_firstPlace_11 rfl (lv_at hl 1 rfl) ?_
  refine va_get (D := D) (ci := 4) (v := .ref ro) (C := RX4) (T := TX4) (N := 8) hx hb ht inA_X4 hown hK.1 hP 0 rfl rfl 0 (by decide) (ht _ iw_8) (fun _ h9 => h9) rfl dX4_firstPlace_12 ?_
  refine lv_iload_n hx hb dX4_firstPlace_15 rfl (lv_at hl 2 rfl) ?_
  refine lv_iload_n hx hb dX4_firstPlace_16 rfl (lv_at hl 3 rfl) ?_
  refine ds_calll (wc := [(ro, .inr (1, [.ref oo, .int (nI lo)])), (oo, .inl (cI, 1200, .inl fo))]) (wr := [(d, .inr (4, [.ref ro, .ref rn, .ref rm, .ref bk, .ref uw, .ref lw, .ref tk, .int hd])), (rn, .inr (1, [.ref qn, .int (nI ln)])), (qn, .inl (cI, 1200, .inl fn)), (uw, .inr (3, [.ref rn, .int (nI uz), .int upl, .int ui, .int ua, .int ub, .int uk, .long ut, .int uy]))]) (wo := (fun u5 : Unit => [(ro, .inr (1, [.ref oo, .int (nI lo)])), (oo, .inl (cI, 1200, .inl fo))])) (wn := (fun u5 : Unit => [(d, .inr (4, [.ref ro, .ref rn, .ref rm, .ref bk, .ref uw, .ref lw, .ref tk, .int hd])), (ro, .inr (1, [.ref oo, .int (nI lo)])), (oo, .inl (cI, 1200, .inl fo)), (rn, .inr (1, [.ref qn, .int (nI ln)])), (qn, .inl (cI, 1200, .inl fn)), (uw, .inr (3, [.ref rn, .int (nI uz), .int upl, .int ui, .int ua, .int ub, .int uk, .long ut, .int uy]))])) (isC := [1, 2]) (isR := [0, 3, 4, 5]) hP hD hS hA ⟨rfl, rfl, by decide, by decide, by decide⟩ [0, 4, 5, 1, 2, 3] (by decide) (fun _ => rfl) (fun hPc hDc => va_runVN (As := [.int (nI q), .int (nI k)]) (rest := []) ⟨hx, hb, hml, hown, ht⟩ (c_X1_strongSum Ll D cI cL ro oo lo fo q k h1 H.size) ⟨(va_cnB 2 ht g_X1_strongSum rfl rfl rfl (nmu_7 hK) (ht _ iw_6) hd_X1_strongSum ⟨Nat.le_of_ble_eq_true rfl, Nat.le_of_ble_eq_true rfl⟩), (ht _ iw_56), (ht _ iw_57)⟩ (ds_pV hPc hDc hK (q0 := 0) rfl rfl) rfl rfl hl.1 rfl (lv_room (Nat.le_of_ble_eq_true rfl)) dX4_firstPlace_17 ⟨Nat.le_of_ble_eq_true rfl, Nat.le_of_ble_eq_true rfl⟩) (fun r4 u5 H locs hp6 hP hD hS => ?_)
  have hP : va_P D vwCl [(d, .inr (4, [.ref ro, .ref rn, .ref rm, .ref bk, .ref uw, .ref lw, .ref tk, .int hd])), (ro, .inr (1, [.ref oo, .int (nI lo)])), (oo, .inl (cI, 1200, .inl fo)), (rn, .inr (1, [.ref qn, .int (nI ln)])), (qn, .inl (cI, 1200, .inl fn)), (uw, .inr (3, [.ref rn, .int (nI uz), .int upl, .int ui, .int ua, .int ub, .int uk, .long ut, .int uy]))] H := hP
  have hD : va_D A [(d, .inr (4, [.ref ro, .ref rn, .ref rm, .ref bk, .ref uw, .ref lw, .ref tk, .int hd])), (ro, .inr (1, [.ref oo, .int (nI lo)])), (oo, .inl (cI, 1200, .inl fo)), (rn, .inr (1, [.ref qn, .int (nI ln)])), (qn, .inl (cI, 1200, .inl fn)), (uw, .inr (3, [.ref rn, .int (nI uz), .int upl, .int ui, .int ua, .int ub, .int uk, .long ut, .int uy]))] := hD
  have hp6 : r4 = su_S fo q k := hp6
  replace hp6 := Eq.symm hp6
  subst hp6
  refine lv_lstore (lv' := [(7, .long (su_S fo q k)), (6, .int (su_W fo q k)), (0, .ref d), (1, .int (nI q)), (2, .int (nI k)), (3, .long mk), (5, .int (nI p0))]) hx hb dX4_firstPlace_20 hl (Nat.le_of_ble_eq_true rfl) rfl (fun ls hl => ?_)
  refine lv_aload_n hx hb dX4_firstPlace_22 rfl (lv_at hl 2 rfl) ?_
  refine va_get (D := D) (ci := 4) (v := .ref uw) (C := RX4) (T := TX4) (N := 8) hx hb ht inA_X4 hown hK.1 hP 0 rfl rfl 4 (by decide) (ht _ iw_20) (fun _ h9 => h9) rfl dX4_firstPlace_23 ?_
  refine lv_iload_n hx hb dX4_firstPlace_26 rfl (lv_at hl 4 rfl) ?_
  refine ds_callv (wc := [(uw, .inr (3, [.ref rn, .int (nI uz), .int upl, .int ui, .int ua, .int ub, .int uk, .long ut, .int uy]))]) (wr := [(d, .inr (4, [.ref ro, .ref rn, .ref rm, .ref bk, .ref uw, .ref lw, .ref tk, .int hd])), (ro, .inr (1, [.ref oo, .int (nI lo)])), (oo, .inl (cI, 1200, .inl fo)), (rn, .inr (1, [.ref qn, .int (nI ln)])), (qn, .inl (cI, 1200, .inl fn))]) (wo := (fun u8 : Unit => [(uw, .inr (3, [.ref rn, .int (nI k), .int (-1), .int 0, .int ua, .int ub, .int uk, .long ut, .int 0]))])) (wn := (fun u8 : Unit => [(d, .inr (4, [.ref ro, .ref rn, .ref rm, .ref bk, .ref uw, .ref lw, .ref tk, .int hd])), (ro, .inr (1, [.ref oo, .int (nI lo)])), (oo, .inl (cI, 1200, .inl fo)), (rn, .inr (1, [.ref qn, .int (nI ln)])), (qn, .inl (cI, 1200, .inl fn)), (uw, .inr (3, [.ref rn, .int (nI k), .int (-1), .int 0, .int ua, .int ub, .int uk, .long ut, .int 0]))])) (isC := [5]) (isR := [0, 1, 2, 3, 4]) hP hD hS hA ⟨rfl, rfl, by decide, by decide, by decide⟩ [0, 1, 2, 3, 4, 5] (by decide) (fun _ => rfl) (fun hPc hDc => va_runVN (As := [.int (nI k)]) (rest := []) ⟨hx, hb, hml, hown, ht⟩ (c_X3_open Ll D cI cL uw rn uz upl ui ua ub uk ut uy k  H.size) ⟨(va_cnB 1 ht g_X3_open rfl rfl rfl (nmu_9 hK) (ht _ iw_18) hd_X3_open ⟨Nat.le_of_ble_eq_true rfl, Nat.le_of_ble_eq_true rfl⟩), (ht _ iw_77), (ht _ iw_78)⟩ (ds_pV hPc hDc hK (q0 := 0) rfl rfl) rfl rfl hl.1 rfl (lv_room (Nat.le_of_ble_eq_true rfl)) dX4_firstPlace_27 ⟨Nat.le_of_ble_eq_true rfl, Nat.le_of_ble_eq_true rfl⟩) (fun u8 H locs hp9 hP hD hS => ?_)
  have hP : va_P D vwCl [(d, .inr (4, [.ref ro, .ref rn, .ref rm, .ref bk, .ref uw, .ref lw, .ref tk, .int hd])), (ro, .inr (1, [.ref oo, .int (nI lo)])), (oo, .inl (cI, 1200, .inl fo)), (rn, .inr (1, [.ref qn, .int (nI ln)])), (qn, .inl (cI, 1200, .inl fn)), (uw, .inr (3, [.ref rn, .int (nI k), .int (-1), .int 0, .int ua, .int ub, .int uk, .long ut, .int 0]))] H := hP
  have hD : va_D A [(d, .inr (4, [.ref ro, .ref rn, .ref rm, .ref bk, .ref uw, .ref lw, .ref tk, .int hd])), (ro, .inr (1, [.ref oo, .int (nI lo)])), (oo, .inl (cI, 1200, .inl fo)), (rn, .inr (1, [.ref qn, .int (nI ln)])), (qn, .inl (cI, 1200, .inl fn)), (uw, .inr (3, [.ref rn, .int (nI k), .int (-1), .int 0, .int ua, .int ub, .int uk, .long ut, .int 0]))] := hD
  have hp9 : True := hp9
  refine lv_iload hx hb dX4_firstPlace_30 (lv_at hl 6 rfl) ?_
  refine lv_istore (lv' := [(9, .int (nI p0)), (7, .long (su_S fo q k)), (6, .int (su_W fo q k)), (0, .ref d), (1, .int (nI q)), (2, .int (nI k)), (3, .long mk), (5, .int (nI p0))]) hx hb dX4_firstPlace_32 hl (Nat.le_of_ble_eq_true rfl) rfl (fun ls hl => ?_)
  have loop10 : ∀ (k11 : Nat) (p : Nat) (pl : Int32) (ins : Int32) (a : Int32) (b : Int32) (wk : Int32) (st : Int64) (ks : Int32) (H : Heap) (locs : List Loc) (ls : Array Slot), (p0 ≤ p) → (p < 2 ^ 31) → (dw_I fn ln k ins pl a b) → (∀ j, p0 ≤ j → j < p → ¬ ft fo fn ln mk q j k) → ln + 1 - p < k11 → va_P D vwCl [(d, .inr (4, [.ref ro, .ref rn, .ref rm, .ref bk, .ref uw, .ref lw, .ref tk, .int hd])), (ro, .inr (1, [.ref oo, .int (nI lo)])), (oo, .inl (cI, 1200, .inl fo)), (rn, .inr (1, [.ref qn, .int (nI ln)])), (qn, .inl (cI, 1200, .inl fn)), (uw, .inr (3, [.ref rn, .int (nI k), .int pl, .int ins, .int a, .int b, .int wk, .long st, .int ks]))] H → va_D A [(d, .inr (4, [.ref ro, .ref rn, .ref rm, .ref bk, .ref uw, .ref lw, .ref tk, .int hd])), (ro, .inr (1, [.ref oo, .int (nI lo)])), (oo, .inl (cI, 1200, .inl fo)), (rn, .inr (1, [.ref qn, .int (nI ln)])), (qn, .inl (cI, 1200, .inl fn)), (uw, .inr (3, [.ref rn, .int (nI k), .int pl, .int ins, .int a, .int b, .int wk, .long st, .int ks]))] → va_S A Ss.heap H locs → lv_has ls 10 [(0, .ref d), (2, .int (nI k)), (3, .long mk), (6, .int (su_W fo q k)), (7, .long (su_S fo q k)), (9, .int (nI p))] → W Pp Ll Ee { frames := 3, cells := 0, slots := 0, locals := 70 } Ss Mm Aa Bb Me Cc H locs 0 0 (MQ Bb (ds_Qi D (fun (r : Int32) (u : Int32 × Int32 × Int32 × Int32 × Int32 × Int64 × Int32) => (∃ p, p0 ≤ p ∧ ft fo fn ln mk q p k ∧ (∀ j, p0 ≤ j → j < p → ¬ ft fo fn ln mk q j k) ∧ r = nI p) ∨ ((∀ j, p0 ≤ j → ¬ ft fo fn ln mk q j k) ∧ r = -1)) (fun u : Int32 × Int32 × Int32 × Int32 × Int32 × Int64 × Int32 => [(d, .inr (4, [.ref ro, .ref rn, .ref rm, .ref bk, .ref uw, .ref lw, .ref tk, .int hd])), (ro, .inr (1, [.ref oo, .int (nI lo)])), (oo, .inl (cI, 1200, .inl fo)), (rn, .inr (1, [.ref qn, .int (nI ln)])), (qn, .inl (cI, 1200, .inl fn)), (uw, .inr (3, [.ref rn, .int (nI k), .int u.1, .int u.2.1, .int u.2.2.1, .int u.2.2.2.1, .int u.2.2.2.2.1, .long u.2.2.2.2.2.1, .int u.2.2.2.2.2.2]))]) A) Aa Ss 0 0 A) (F0 Mm 34 ls []) := by
    intro k11
    induction k11 with
    | zero => intro p pl ins a b wk st ks H locs ls hp0 hp1 hw hne hm13; exact absurd hm13 (Nat.not_lt_zero _)
    | succ k11 ih12 =>
      intro p pl ins a b wk st ks H locs ls hp0 hp1 hw hne hm13 hP hD hS hl
      refine lv_iload hx hb dX4_firstPlace_34 (lv_at hl 5 rfl) ?_
      refine lv_aload_n hx hb dX4_firstPlace_36 rfl (lv_at hl 0 rfl) ?_
      refine va_get (D := D) (ci := 4) (v := .ref rn) (C := RX4) (T := TX4) (N := 8) hx hb ht inA_X4 hown hK.1 hP 0 rfl rfl 1 (by decide) (ht _ iw_9) (fun _ h9 => h9) rfl dX4_firstPlace_37 ?_
      refine va_getN (D := D) (ci := 1) (v := .int (nI ln)) (C := RX1) (T := TX1) (N := 2) hx hb ht inA_X1 hown hK.1 hP 3 rfl rfl 1 (by decide) (nfu_1 hK) (fun _ h9 => h9) rfl dX4_firstPlace_40 ?_
      refine lv_iload_n hx hb dX4_firstPlace_43 rfl (lv_at hl 1 rfl) ?_
      refine lv_isub hx hb dX4_firstPlace_44 ?_
      refine lv_icmp_gt (tgt := 81) hx hb dX4_firstPlace_45 (by decide) (fun h => ?_) (fun h => ?_)
      ·
        refine lv_iconst (v := -1) hx hb dX4_firstPlace_81 (by decide +kernel) ?_
        exact ds_iret hx hb hr hlk rfl (pl, ins, a, b, wk, st, ks) (Or.inr ⟨fun j hj hf => if hjp : j < p then hne j hj hjp hf else absurd hf.1 (by have := (ds_sublt (by omega) (by omega) (by omega)).mp h; omega), rfl⟩) hP hD hS (Nat.le_of_ble_eq_true rfl) (Nat.le_of_ble_eq_true rfl) dX4_firstPlace_82
      ·
        have hpk : p + k ≤ ln := by have := mt (ds_sublt (n := ln) (z := k) (p := p) (by omega) (by omega) (by omega)).mpr h; omega
        refine lv_aload_n hx hb dX4_firstPlace_48 rfl (lv_at hl 0 rfl) ?_
        refine va_get (D := D) (ci := 4) (v := .ref uw) (C := RX4) (T := TX4) (N := 8) hx hb ht inA_X4 hown hK.1 hP 0 rfl rfl 4 (by decide) (ht _ iw_20) (fun _ h9 => h9) rfl dX4_firstPlace_49 ?_
        refine lv_iload hx hb dX4_firstPlace_52 (lv_at hl 5 rfl) ?_
        refine ds_callv (wc := [(uw, .inr (3, [.ref rn, .int (nI k), .int pl, .int ins, .int a, .int b, .int wk, .long st, .int ks])), (rn, .inr (1, [.ref qn, .int (nI ln)])), (qn, .inl (cI, 1200, .inl fn))]) (wr := [(d, .inr (4, [.ref ro, .ref rn, .ref rm, .ref bk, .ref uw, .ref lw, .ref tk, .int hd])), (ro, .inr (1, [.ref oo, .int (nI lo)])), (oo, .inl (cI, 1200, .inl fo))]) (wo := (fun u15 : Int32 × Int32 × Int32 × Int32 => [(uw, .inr (3, [.ref rn, .int (nI k), .int (nI p), .int u15.1, .int u15.2.1, .int u15.2.2.1, .int u15.2.2.2, .long st, .int 0])), (rn, .inr (1, [.ref qn, .int (nI ln)])), (qn, .inl (cI, 1200, .inl fn))])) (wn := (fun u15 : Int32 × Int32 × Int32 × Int32 => [(d, .inr (4, [.ref ro, .ref rn, .ref rm, .ref bk, .ref uw, .ref lw, .ref tk, .int hd])), (ro, .inr (1, [.ref oo, .int (nI lo)])), (oo, .inl (cI, 1200, .inl fo)), (rn, .inr (1, [.ref qn, .int (nI ln)])), (qn, .inl (cI, 1200, .inl fn)), (uw, .inr (3, [.ref rn, .int (nI k), .int (nI p), .int u15.1, .int u15.2.1, .int u15.2.2.1, .int u15.2.2.2, .long st, .int 0]))])) (isC := [5, 3, 4]) (isR := [0, 1, 2]) hP hD hS hA ⟨rfl, rfl, by decide, by decide, by decide⟩ [0, 1, 2, 4, 5, 3] (by decide) (fun _ => rfl) (fun hPc hDc => va_runVN (As := [.int (nI p)]) (rest := []) ⟨hx, hb, hml, hown, ht⟩ (c_X3_moveTo Ll D cI cL uw rn k pl ins a b wk st ks qn ln fn p (by omega) (by omega) (by omega) hw H.size) ⟨(va_cnB 1 ht g_X3_moveTo rfl rfl rfl (nmu_12 hK) (ht _ iw_18) hd_X3_moveTo ⟨Nat.le_of_ble_eq_true rfl, Nat.le_of_ble_eq_true rfl⟩), (ht _ iw_100), (ht _ iw_101)⟩ (ds_pV hPc hDc hK (q0 := 0) rfl rfl) rfl rfl hl.1 rfl (lv_room (Nat.le_of_ble_eq_true rfl)) dX4_firstPlace_54 ⟨Nat.le_of_ble_eq_true rfl, Nat.le_of_ble_eq_true rfl⟩) (fun u15 H locs hp16 hP hD hS => ?_)
        have hP : va_P D vwCl [(d, .inr (4, [.ref ro, .ref rn, .ref rm, .ref bk, .ref uw, .ref lw, .ref tk, .int hd])), (ro, .inr (1, [.ref oo, .int (nI lo)])), (oo, .inl (cI, 1200, .inl fo)), (rn, .inr (1, [.ref qn, .int (nI ln)])), (qn, .inl (cI, 1200, .inl fn)), (uw, .inr (3, [.ref rn, .int (nI k), .int (nI p), .int u15.1, .int u15.2.1, .int u15.2.2.1, .int u15.2.2.2, .long st, .int 0]))] H := hP
        have hD : va_D A [(d, .inr (4, [.ref ro, .ref rn, .ref rm, .ref bk, .ref uw, .ref lw, .ref tk, .int hd])), (ro, .inr (1, [.ref oo, .int (nI lo)])), (oo, .inl (cI, 1200, .inl fo)), (rn, .inr (1, [.ref qn, .int (nI ln)])), (qn, .inl (cI, 1200, .inl fn)), (uw, .inr (3, [.ref rn, .int (nI k), .int (nI p), .int u15.1, .int u15.2.1, .int u15.2.2.1, .int u15.2.2.2, .long st, .int 0]))] := hD
        have hp16 : (p + k ≤ ln ∧ u15.1 = 1 ∧ u15.2.1 = su_A fn p k ∧ u15.2.2.1 = su_B fn p k ∧ u15.2.2.2 = su_W fn p k) ∨ (ln < p + k ∧ u15.1 = 0) := hp16
        have hu1 := mv_P hp16
        have hI1 := mv_I hp16
        refine lv_aload_n hx hb dX4_firstPlace_57 rfl (lv_at hl 0 rfl) ?_
        refine va_get (D := D) (ci := 4) (v := .ref uw) (C := RX4) (T := TX4) (N := 8) hx hb ht inA_X4 hown hK.1 hP 0 rfl rfl 4 (by decide) (ht _ iw_20) (fun _ h9 => h9) rfl dX4_firstPlace_58 ?_
        refine lv_iload hx hb dX4_firstPlace_61 (lv_at hl 3 rfl) ?_
        refine lv_lload hx hb dX4_firstPlace_63 (lv_at hl 4 rfl) ?_
        refine lv_lload_n hx hb dX4_firstPlace_65 rfl (lv_at hl 2 rfl) ?_
        refine ds_calli (wc := [(uw, .inr (3, [.ref rn, .int (nI k), .int (nI p), .int u15.1, .int u15.2.1, .int u15.2.2.1, .int u15.2.2.2, .long st, .int 0])), (rn, .inr (1, [.ref qn, .int (nI ln)])), (qn, .inl (cI, 1200, .inl fn))]) (wr := [(d, .inr (4, [.ref ro, .ref rn, .ref rm, .ref bk, .ref uw, .ref lw, .ref tk, .int hd])), (ro, .inr (1, [.ref oo, .int (nI lo)])), (oo, .inl (cI, 1200, .inl fo))]) (wo := (fun u18 : Int64 × Int32 => [(uw, .inr (3, [.ref rn, .int (nI k), .int (nI p), .int u15.1, .int u15.2.1, .int u15.2.2.1, .int u15.2.2.2, .long u18.1, .int u18.2])), (rn, .inr (1, [.ref qn, .int (nI ln)])), (qn, .inl (cI, 1200, .inl fn))])) (wn := (fun u18 : Int64 × Int32 => [(d, .inr (4, [.ref ro, .ref rn, .ref rm, .ref bk, .ref uw, .ref lw, .ref tk, .int hd])), (ro, .inr (1, [.ref oo, .int (nI lo)])), (oo, .inl (cI, 1200, .inl fo)), (rn, .inr (1, [.ref qn, .int (nI ln)])), (qn, .inl (cI, 1200, .inl fn)), (uw, .inr (3, [.ref rn, .int (nI k), .int (nI p), .int u15.1, .int u15.2.1, .int u15.2.2.1, .int u15.2.2.2, .long u18.1, .int u18.2]))])) (isC := [5, 3, 4]) (isR := [0, 1, 2]) hP hD hS hA ⟨rfl, rfl, by decide, by decide, by decide⟩ [0, 1, 2, 4, 5, 3] (by decide) (fun _ => rfl) (fun hPc hDc => va_runVN (As := [.int (su_W fo q k), .long (su_S fo q k), .long mk]) (rest := []) ⟨hx, hb, hml, hown, ht⟩ (c_X3_shows Ll D cI cL uw rn k p u15.1 u15.2.1 u15.2.2.1 u15.2.2.2 st 0 qn ln fn (su_W fo q k) (su_S fo q k) mk (hu1.sh h3) (Or.inl rfl) H.size) ⟨(va_cnB 3 ht g_X3_shows rfl rfl rfl (nmu_13 hK) (ht _ iw_18) hd_X3_shows ⟨Nat.le_of_ble_eq_true rfl, Nat.le_of_ble_eq_true rfl⟩), (ht _ iw_102), (ht _ iw_103)⟩ (ds_pV hPc hDc hK (q0 := 0) rfl rfl) rfl rfl hl.1 rfl (lv_room (Nat.le_of_ble_eq_true rfl)) dX4_firstPlace_66 ⟨Nat.le_of_ble_eq_true rfl, Nat.le_of_ble_eq_true rfl⟩) (fun r17 u18 H locs hp19 hP hD hS => ?_)
        have hP : va_P D vwCl [(d, .inr (4, [.ref ro, .ref rn, .ref rm, .ref bk, .ref uw, .ref lw, .ref tk, .int hd])), (ro, .inr (1, [.ref oo, .int (nI lo)])), (oo, .inl (cI, 1200, .inl fo)), (rn, .inr (1, [.ref qn, .int (nI ln)])), (qn, .inl (cI, 1200, .inl fn)), (uw, .inr (3, [.ref rn, .int (nI k), .int (nI p), .int u15.1, .int u15.2.1, .int u15.2.2.1, .int u15.2.2.2, .long u18.1, .int u18.2]))] H := hP
        have hD : va_D A [(d, .inr (4, [.ref ro, .ref rn, .ref rm, .ref bk, .ref uw, .ref lw, .ref tk, .int hd])), (ro, .inr (1, [.ref oo, .int (nI lo)])), (oo, .inl (cI, 1200, .inl fo)), (rn, .inr (1, [.ref qn, .int (nI ln)])), (qn, .inl (cI, 1200, .inl fn)), (uw, .inr (3, [.ref rn, .int (nI k), .int (nI p), .int u15.1, .int u15.2.1, .int u15.2.2.1, .int u15.2.2.2, .long u18.1, .int u18.2]))] := hD
        have hp19 : ((r17 = 1 ∧ u15.1 = 1 ∧ u15.2.2.2 = (su_W fo q k) ∧ (su_S fn p k ^^^ (su_S fo q k)) &&& mk = 0) ∨ (r17 = 0 ∧ ¬ (u15.1 = 1 ∧ u15.2.2.2 = (su_W fo q k) ∧ (su_S fn p k ^^^ (su_S fo q k)) &&& mk = 0))) ∧ dw_S fn k p u18.2 u18.1 := hp19
        have hc9 := ds_cv (hu1.ft (fo := fo) (q := q) rfl rfl) hp19.1
        rcases hc9 with ⟨e9, hf⟩ | ⟨e9, hf⟩
        ·
          subst e9
          refine lv_if_eq (tgt := 75) hx hb dX4_firstPlace_69 (by decide) (fun h0 => ?_) (fun h0 => ?_)
          ·
            exact absurd h0 (by decide)
          ·
            refine lv_iload hx hb dX4_firstPlace_72 (lv_at hl 5 rfl) ?_
            exact ds_iret hx hb hr hlk rfl (nI p, u15.1, u15.2.1, u15.2.2.1, u15.2.2.2, u18.1, u18.2) (Or.inl ⟨p, hp0, hf, hne, rfl⟩) hP hD hS (Nat.le_of_ble_eq_true rfl) (Nat.le_of_ble_eq_true rfl) dX4_firstPlace_74
        ·
          subst e9
          refine lv_if_eq (tgt := 75) hx hb dX4_firstPlace_69 (by decide) (fun h0 => ?_) (fun h0 => ?_)
          ·
            refine lv_iinc (k := 5) (v := nI (p + 1)) (lv' := [(9, .int (nI (p + 1))), (0, .ref d), (2, .int (nI k)), (3, .long mk), (6, .int (su_W fo q k)), (7, .long (su_S fo q k))]) hx hb dX4_firstPlace_75 hl rfl (by rw [nI_succ]; rfl) (Nat.le_of_ble_eq_true rfl) rfl (fun ls hl => ?_)
            refine lv_goto (tgt := 34) hx hb dX4_firstPlace_78 (by decide) ?_
            exact ih12 (p + 1) (nI p) u15.1 u15.2.1 u15.2.2.1 u15.2.2.2 u18.1 u18.2 H locs ls (by omega) (by omega) hI1 (fun j hj hjp => if hjq : j < p then hne j hj hjq else (show p = j by omega) ▸ hf) (by omega) hP hD hS (lv_sub hl [1, 2, 3, 4, 5, 0] rfl)
          ·
            exact absurd rfl h0
  exact loop10 _ p0 (-1) 0 ua ub uk ut 0 H locs ls (Nat.le_refl _) h5 (Or.inl rfl) (fun j hj hjp => absurd hj (by omega)) (Nat.lt_succ_self _) hP hD hS (lv_sub hl [3, 5, 6, 2, 1, 0] rfl)
end
section
set_option maxHeartbeats 4000000 in
set_option maxRecDepth 100000 in
theorem c_X4_makeDelta (Ll : Launch) (D : va_G) (cI cL : ClassId) (d : Nat) (ro : Nat) (rn : Nat) (rm : Nat) (bk : Nat) (uw : Nat) (lw : Nat) (tk : Nat) (hd : Int32) (oo : Nat) (fo : Nat → Int32) (qn : Nat) (ln : Nat) (fn : Nat → Int32) (om : Nat) (fm : Nat → Int32) (bw : Nat) (bs : Nat) (s : Nat) (lo : Nat) (fw : Nat → Int32) (fs : Nat → Int64) (upl : Int32) (lpl : Int32) (ui : Int32) (ua : Int32) (ub : Int32) (uk : Int32) (ut : Int64) (uy : Int32) (li : Int32) (la : Int32) (lb : Int32) (lk : Int32) (lt : Int64) (ly : Int32) (tK : Nat) (tF : Nat) (tL : Nat) (fk : Nat → Int32) (ff : Nat → Int32) (fl : Nat → Int32) (mk : Int64) (h1 : lo ≤ 1200) (h2 : 4 ≤ s) (h3 : s ≤ 256) (h4 : ln ≤ 1200) (hv : ∀ j, j < bn lo s → fw j = su_W fo (j * s) (bl lo s j) ∧ fs j = su_S fo (j * s) (bl lo s j)) (hui : dw_I fn ln s ui upl ua ub) (hli : dw_I fn ln (bL lo s) li lpl la lb) (sz : Nat) : Met Ll yX4_makeDelta wsX4_makeDelta { frames := 5, cells := 0, slots := 0, locals := 119 } (ds_P D cI cL [.ref d, .long mk] [(d, .inr (4, [.ref ro, .ref rn, .ref rm, .ref bk, .ref uw, .ref lw, .ref tk, .int hd])), (ro, .inr (1, [.ref oo, .int (nI lo)])), (oo, .inl (cI, 1200, .inl fo)), (rn, .inr (1, [.ref qn, .int (nI ln)])), (qn, .inl (cI, 1200, .inl fn)), (rm, .inr (1, [.ref om, .int (nI 0)])), (om, .inl (cI, 1200, .inl fm)), (bk, .inr (0, [.ref ro, .ref bw, .ref bs, .int (nI s), .int (nI (bL lo s)), .int (nI (bn lo s))])), (bw, .inl (cI, 300, .inl fw)), (bs, .inl (cL, 300, .inr (.inl fs))), (uw, .inr (3, [.ref rn, .int (nI s), .int upl, .int ui, .int ua, .int ub, .int uk, .long ut, .int uy])), (lw, .inr (3, [.ref rn, .int (nI (bL lo s)), .int lpl, .int li, .int la, .int lb, .int lk, .long lt, .int ly])), (tk, .inr (2, [.ref tK, .ref tF, .ref tL, .int (nI 0)])), (tK, .inl (cI, 1200, .inl fk)), (tF, .inl (cI, 1200, .inl ff)), (tL, .inl (cI, 1200, .inl fl))] sz) (ds_Qv D (fun (u : dl_T × (Int32 × Int32 × Int32 × Int32 × Int32 × Int64 × Int32) × (Int32 × Int32 × Int32 × Int32 × Int32 × Int64 × Int32)) => u.1 = dl fo fn lo ln s mk 1200 (0, none, (fk, ff, fl, 0), fm)) (fun u : dl_T × (Int32 × Int32 × Int32 × Int32 × Int32 × Int64 × Int32) × (Int32 × Int32 × Int32 × Int32 × Int32 × Int64 × Int32) => [(d, .inr (4, [.ref ro, .ref rn, .ref rm, .ref bk, .ref uw, .ref lw, .ref tk, .int hd])), (ro, .inr (1, [.ref oo, .int (nI lo)])), (oo, .inl (cI, 1200, .inl fo)), (rn, .inr (1, [.ref qn, .int (nI ln)])), (qn, .inl (cI, 1200, .inl fn)), (rm, .inr (1, [.ref om, .int (nI u.1.1)])), (om, .inl (cI, 1200, .inl u.1.2.2.2)), (bk, .inr (0, [.ref ro, .ref bw, .ref bs, .int (nI s), .int (nI (bL lo s)), .int (nI (bn lo s))])), (bw, .inl (cI, 300, .inl fw)), (bs, .inl (cL, 300, .inr (.inl fs))), (uw, .inr (3, [.ref rn, .int (nI s), .int u.2.1.1, .int u.2.1.2.1, .int u.2.1.2.2.1, .int u.2.1.2.2.2.1, .int u.2.1.2.2.2.2.1, .long u.2.1.2.2.2.2.2.1, .int u.2.1.2.2.2.2.2.2])), (lw, .inr (3, [.ref rn, .int (nI (bL lo s)), .int u.2.2.1, .int u.2.2.2.1, .int u.2.2.2.2.1, .int u.2.2.2.2.2.1, .int u.2.2.2.2.2.2.1, .long u.2.2.2.2.2.2.2.1, .int u.2.2.2.2.2.2.2.2])), (tk, .inr (2, [.ref tK, .ref tF, .ref tL, .int (nI u.1.2.2.1.2.2.2)])), (tK, .inl (cI, 1200, .inl u.1.2.2.1.1)), (tF, .inl (cI, 1200, .inl u.1.2.2.1.2.1)), (tL, .inl (cI, 1200, .inl u.1.2.2.1.2.2.1))]) (va_A [(d, .inr (4, [.ref ro, .ref rn, .ref rm, .ref bk, .ref uw, .ref lw, .ref tk, .int hd])), (ro, .inr (1, [.ref oo, .int (nI lo)])), (oo, .inl (cI, 1200, .inl fo)), (rn, .inr (1, [.ref qn, .int (nI ln)])), (qn, .inl (cI, 1200, .inl fn)), (rm, .inr (1, [.ref om, .int (nI 0)])), (om, .inl (cI, 1200, .inl fm)), (bk, .inr (0, [.ref ro, .ref bw, .ref bs, .int (nI s), .int (nI (bL lo s)), .int (nI (bn lo s))])), (bw, .inl (cI, 300, .inl fw)), (bs, .inl (cL, 300, .inr (.inl fs))), (uw, .inr (3, [.ref rn, .int (nI s), .int upl, .int ui, .int ua, .int ub, .int uk, .long ut, .int uy])), (lw, .inr (3, [.ref rn, .int (nI (bL lo s)), .int lpl, .int li, .int la, .int lb, .int lk, .long lt, .int ly])), (tk, .inr (2, [.ref tK, .ref tF, .ref tL, .int (nI 0)])), (tK, .inl (cI, 1200, .inl fk)), (tF, .inl (cI, 1200, .inl ff)), (tL, .inl (cI, 1200, .inl fl))] sz)) 0 0 (va_A [(d, .inr (4, [.ref ro, .ref rn, .ref rm, .ref bk, .ref uw, .ref lw, .ref tk, .int hd])), (ro, .inr (1, [.ref oo, .int (nI lo)])), (oo, .inl (cI, 1200, .inl fo)), (rn, .inr (1, [.ref qn, .int (nI ln)])), (qn, .inl (cI, 1200, .inl fn)), (rm, .inr (1, [.ref om, .int (nI 0)])), (om, .inl (cI, 1200, .inl fm)), (bk, .inr (0, [.ref ro, .ref bw, .ref bs, .int (nI s), .int (nI (bL lo s)), .int (nI (bn lo s))])), (bw, .inl (cI, 300, .inl fw)), (bs, .inl (cL, 300, .inr (.inl fs))), (uw, .inr (3, [.ref rn, .int (nI s), .int upl, .int ui, .int ua, .int ub, .int uk, .long ut, .int uy])), (lw, .inr (3, [.ref rn, .int (nI (bL lo s)), .int lpl, .int li, .int la, .int lb, .int lk, .long lt, .int ly])), (tk, .inr (2, [.ref tK, .ref tF, .ref tL, .int (nI 0)])), (tK, .inl (cI, 1200, .inl fk)), (tF, .inl (cI, 1200, .inl ff)), (tL, .inl (cI, 1200, .inl fl))] sz) := by
  refine ds_enter (Qf := (fun A9 => ds_Qv D (fun (u : dl_T × (Int32 × Int32 × Int32 × Int32 × Int32 × Int64 × Int32) × (Int32 × Int32 × Int32 × Int32 × Int32 × Int64 × Int32)) => u.1 = dl fo fn lo ln s mk 1200 (0, none, (fk, ff, fl, 0), fm)) (fun u : dl_T × (Int32 × Int32 × Int32 × Int32 × Int32 × Int64 × Int32) × (Int32 × Int32 × Int32 × Int32 × Int32 × Int64 × Int32) => [(d, .inr (4, [.ref ro, .ref rn, .ref rm, .ref bk, .ref uw, .ref lw, .ref tk, .int hd])), (ro, .inr (1, [.ref oo, .int (nI lo)])), (oo, .inl (cI, 1200, .inl fo)), (rn, .inr (1, [.ref qn, .int (nI ln)])), (qn, .inl (cI, 1200, .inl fn)), (rm, .inr (1, [.ref om, .int (nI u.1.1)])), (om, .inl (cI, 1200, .inl u.1.2.2.2)), (bk, .inr (0, [.ref ro, .ref bw, .ref bs, .int (nI s), .int (nI (bL lo s)), .int (nI (bn lo s))])), (bw, .inl (cI, 300, .inl fw)), (bs, .inl (cL, 300, .inr (.inl fs))), (uw, .inr (3, [.ref rn, .int (nI s), .int u.2.1.1, .int u.2.1.2.1, .int u.2.1.2.2.1, .int u.2.1.2.2.2.1, .int u.2.1.2.2.2.2.1, .long u.2.1.2.2.2.2.2.1, .int u.2.1.2.2.2.2.2.2])), (lw, .inr (3, [.ref rn, .int (nI (bL lo s)), .int u.2.2.1, .int u.2.2.2.1, .int u.2.2.2.2.1, .int u.2.2.2.2.2.1, .int u.2.2.2.2.2.2.1, .long u.2.2.2.2.2.2.2.1, .int u.2.2.2.2.2.2.2.2])), (tk, .inr (2, [.ref tK, .ref tF, .ref tL, .int (nI u.1.2.2.1.2.2.2)])), (tK, .inl (cI, 1200, .inl u.1.2.2.1.1)), (tF, .inl (cI, 1200, .inl u.1.2.2.1.2.1)), (tL, .inl (cI, 1200, .inl u.1.2.2.1.2.2.1))]) A9)) (cc := cX4_makeDelta) (maxL := 7) (ret := none) (by decide) rfl (Nat.le_of_ble_eq_true rfl) ?_
  intro Pp Ee Ss Mm Aa Bb Me Cc hx hb hml hr ht hown hlk hnm A H locs hA hP hD hS hK ls hl
  have hl : lv_has ls 7 [(0, .ref d), (1, .long mk)] := hl
  change Ss.vm.findClass RX4 = some Mm.cls at hown
  have hb3 := bn_300 h1 h2
  have hbL := bL_le (n := lo) (s := s) (by omega)
  refine lv_iconst (v := nI 0) hx hb dX4_makeDelta_0 (by decide +kernel) ?_
  refine lv_istore_n (lv' := [(3, .int (nI 0)), (0, .ref d), (1, .long mk)]) hx hb dX4_makeDelta_1 rfl hl (Nat.le_of_ble_eq_true rfl) rfl (fun ls hl => ?_)
  refine lv_iconst (v := -1) hx hb dX4_makeDelta_2 (by decide +kernel) ?_
  refine lv_istore (lv' := [(4, .int (-1)), (3, .int (nI 0)), (0, .ref d), (1, .long mk)]) hx hb dX4_makeDelta_3 hl (Nat.le_of_ble_eq_true rfl) rfl (fun ls hl => ?_)
  refine lv_iconst (v := nI 0) hx hb dX4_makeDelta_5 (by decide +kernel) ?_
  refine lv_istore (lv' := [(5, .int (nI 0)), (4, .int (-1)), (3, .int (nI 0)), (0, .ref d), (1, .long mk)]) hx hb dX4_makeDelta_6 hl (Nat.le_of_ble_eq_true rfl) rfl (fun ls hl => ?_)
  have loop1 : ∀ (k2 : Nat) (p : Nat) (i : Nat) (c : Nat) (bf : Option Nat) (gk : Nat → Int32) (gf : Nat → Int32) (gl : Nat → Int32) (gm : Nat → Int32) (xp : Int32) (xi : Int32) (xa : Int32) (xb : Int32) (xk : Int32) (xt : Int64) (xy : Int32) (yp : Int32) (yi : Int32) (ya : Int32) (yb : Int32) (yk : Int32) (yt : Int64) (yy : Int32) (H : Heap) (locs : List Loc) (ls : Array Slot), (i ≤ p) → (p ≤ ln) → (c ≤ i) → (∀ b, bf = some b → b < 300) → (dw_I fn ln s xi xp xa xb) → (dw_I fn ln (bL lo s) yi yp ya yb) → (dl fo fn lo ln s mk (1200 - i) (p, bf, (gk, gf, gl, c), gm) = dl fo fn lo ln s mk 1200 (0, none, (fk, ff, fl, 0), fm)) → 1200 - i < k2 → va_P D vwCl [(d, .inr (4, [.ref ro, .ref rn, .ref rm, .ref bk, .ref uw, .ref lw, .ref tk, .int hd])), (ro, .inr (1, [.ref oo, .int (nI lo)])), (oo, .inl (cI, 1200, .inl fo)), (rn, .inr (1, [.ref qn, .int (nI ln)])), (qn, .inl (cI, 1200, .inl fn)), (rm, .inr (1, [.ref om, .int (nI p)])), (om, .inl (cI, 1200, .inl gm)), (bk, .inr (0, [.ref ro, .ref bw, .ref bs, .int (nI s), .int (nI (bL lo s)), .int (nI (bn lo s))])), (bw, .inl (cI, 300, .inl fw)), (bs, .inl (cL, 300, .inr (.inl fs))), (uw, .inr (3, [.ref rn, .int (nI s), .int xp, .int xi, .int xa, .int xb, .int xk, .long xt, .int xy])), (lw, .inr (3, [.ref rn, .int (nI (bL lo s)), .int yp, .int yi, .int ya, .int yb, .int yk, .long yt, .int yy])), (tk, .inr (2, [.ref tK, .ref tF, .ref tL, .int (nI c)])), (tK, .inl (cI, 1200, .inl gk)), (tF, .inl (cI, 1200, .inl gf)), (tL, .inl (cI, 1200, .inl gl))] H → va_D A [(d, .inr (4, [.ref ro, .ref rn, .ref rm, .ref bk, .ref uw, .ref lw, .ref tk, .int hd])), (ro, .inr (1, [.ref oo, .int (nI lo)])), (oo, .inl (cI, 1200, .inl fo)), (rn, .inr (1, [.ref qn, .int (nI ln)])), (qn, .inl (cI, 1200, .inl fn)), (rm, .inr (1, [.ref om, .int (nI p)])), (om, .inl (cI, 1200, .inl gm)), (bk, .inr (0, [.ref ro, .ref bw, .ref bs, .int (nI s), .int (nI (bL lo s)), .int (nI (bn lo s))])), (bw, .inl (cI, 300, .inl fw)), (bs, .inl (cL, 300, .inr (.inl fs))), (uw, .inr (3, [.ref rn, .int (nI s), .int xp, .int xi, .int xa, .int xb, .int xk, .long xt, .int xy])), (lw, .inr (3, [.ref rn, .int (nI (bL lo s)), .int yp, .int yi, .int ya, .int yb, .int yk, .long yt, .int yy])), (tk, .inr (2, [.ref tK, .ref tF, .ref tL, .int (nI c)])), (tK, .inl (cI, 1200, .inl gk)), (tF, .inl (cI, 1200, .inl gf)), (tL, .inl (cI, 1200, .inl gl))] → va_S A Ss.heap H locs → lv_has ls 7 [(0, .ref d), (1, .long mk), (3, .int (nI p)), (4, .int (oI bf)), (5, .int (nI i))] → W Pp Ll Ee { frames := 5, cells := 0, slots := 0, locals := 119 } Ss Mm Aa Bb Me Cc H locs 0 0 (MQ Bb (ds_Qv D (fun (u : dl_T × (Int32 × Int32 × Int32 × Int32 × Int32 × Int64 × Int32) × (Int32 × Int32 × Int32 × Int32 × Int32 × Int64 × Int32)) => u.1 = dl fo fn lo ln s mk 1200 (0, none, (fk, ff, fl, 0), fm)) (fun u : dl_T × (Int32 × Int32 × Int32 × Int32 × Int32 × Int64 × Int32) × (Int32 × Int32 × Int32 × Int32 × Int32 × Int64 × Int32) => [(d, .inr (4, [.ref ro, .ref rn, .ref rm, .ref bk, .ref uw, .ref lw, .ref tk, .int hd])), (ro, .inr (1, [.ref oo, .int (nI lo)])), (oo, .inl (cI, 1200, .inl fo)), (rn, .inr (1, [.ref qn, .int (nI ln)])), (qn, .inl (cI, 1200, .inl fn)), (rm, .inr (1, [.ref om, .int (nI u.1.1)])), (om, .inl (cI, 1200, .inl u.1.2.2.2)), (bk, .inr (0, [.ref ro, .ref bw, .ref bs, .int (nI s), .int (nI (bL lo s)), .int (nI (bn lo s))])), (bw, .inl (cI, 300, .inl fw)), (bs, .inl (cL, 300, .inr (.inl fs))), (uw, .inr (3, [.ref rn, .int (nI s), .int u.2.1.1, .int u.2.1.2.1, .int u.2.1.2.2.1, .int u.2.1.2.2.2.1, .int u.2.1.2.2.2.2.1, .long u.2.1.2.2.2.2.2.1, .int u.2.1.2.2.2.2.2.2])), (lw, .inr (3, [.ref rn, .int (nI (bL lo s)), .int u.2.2.1, .int u.2.2.2.1, .int u.2.2.2.2.1, .int u.2.2.2.2.2.1, .int u.2.2.2.2.2.2.1, .long u.2.2.2.2.2.2.2.1, .int u.2.2.2.2.2.2.2.2])), (tk, .inr (2, [.ref tK, .ref tF, .ref tL, .int (nI u.1.2.2.1.2.2.2)])), (tK, .inl (cI, 1200, .inl u.1.2.2.1.1)), (tF, .inl (cI, 1200, .inl u.1.2.2.1.2.1)), (tL, .inl (cI, 1200, .inl u.1.2.2.1.2.2.1))]) A) Aa Ss 0 0 A) (F0 Mm 8 ls []) := by
    intro k2
    induction k2 with
    | zero => intro p i c bf gk gf gl gm xp xi xa xb xk xt xy yp yi ya yb yk yt yy H locs ls hi hp hc hbf hx1 hy1 hrun hm4; exact absurd hm4 (Nat.not_lt_zero _)
    | succ k2 ih3 =>
      intro p i c bf gk gf gl gm xp xi xa xb xk xt xy yp yi ya yb yk yt yy H locs ls hi hp hc hbf hx1 hy1 hrun hm4 hP hD hS hl
      refine lv_iload hx hb dX4_makeDelta_8 (lv_at hl 4 rfl) ?_
      refine lv_sipush (v := nI 1200) hx hb dX4_makeDelta_10 (by decide +kernel) ?_
      refine lv_icmp_ge (tgt := 132) hx hb dX4_makeDelta_13 (by decide) (fun h => ?_) (fun h => ?_)
      ·
        have h : 1200 ≤ i := (nI_leI (a := 1200) (b := i) (by omega) (by omega)).mp h
        exact ds_vret hx hb hr hlk ((p, bf, (gk, gf, gl, c), gm), (xp, xi, xa, xb, xk, xt, xy), (yp, yi, ya, yb, yk, yt, yy)) (by rw [← hrun, dl_end (by show ln ≤ p; omega)]) hP hD hS (Nat.le_of_ble_eq_true rfl) (Nat.le_of_ble_eq_true rfl) dX4_makeDelta_132
      ·
        have h : ¬ 1200 ≤ i := fun z9 => h ((nI_leI (a := 1200) (b := i) (by omega) (by omega)).mpr z9)
        refine lv_iload_n hx hb dX4_makeDelta_16 rfl (lv_at hl 2 rfl) ?_
        refine lv_aload_n hx hb dX4_makeDelta_17 rfl (lv_at hl 0 rfl) ?_
        refine va_get (D := D) (ci := 4) (v := .ref rn) (C := RX4) (T := TX4) (N := 8) hx hb ht inA_X4 hown hK.1 hP 0 rfl rfl 1 (by decide) (ht _ iw_9) (fun _ h9 => h9) rfl dX4_makeDelta_18 ?_
        refine va_getN (D := D) (ci := 1) (v := .int (nI ln)) (C := RX1) (T := TX1) (N := 2) hx hb ht inA_X1 hown hK.1 hP 3 rfl rfl 1 (by decide) (nfu_1 hK) (fun _ h9 => h9) rfl dX4_makeDelta_21 ?_
        refine lv_icmp_ge (tgt := 132) hx hb dX4_makeDelta_24 (by decide) (fun h0 => ?_) (fun h0 => ?_)
        ·
          have h0 : ln ≤ p := (nI_leI (a := ln) (b := p) (by omega) (by omega)).mp h0
          exact ds_vret hx hb hr hlk ((p, bf, (gk, gf, gl, c), gm), (xp, xi, xa, xb, xk, xt, xy), (yp, yi, ya, yb, yk, yt, yy)) (by rw [← hrun, dl_end (by show ln ≤ p; omega)]) hP hD hS (Nat.le_of_ble_eq_true rfl) (Nat.le_of_ble_eq_true rfl) dX4_makeDelta_132
        ·
          have h0 : ¬ ln ≤ p := fun z9 => h0 ((nI_leI (a := ln) (b := p) (by omega) (by omega)).mpr z9)
          refine lv_aload_n hx hb dX4_makeDelta_27 rfl (lv_at hl 0 rfl) ?_
          refine lv_iload_n hx hb dX4_makeDelta_28 rfl (lv_at hl 2 rfl) ?_
          refine lv_iload hx hb dX4_makeDelta_29 (lv_at hl 3 rfl) ?_
          refine lv_lload_n hx hb dX4_makeDelta_31 rfl (lv_at hl 1 rfl) ?_
          refine ds_calli (wc := [(d, .inr (4, [.ref ro, .ref rn, .ref rm, .ref bk, .ref uw, .ref lw, .ref tk, .int hd])), (bk, .inr (0, [.ref ro, .ref bw, .ref bs, .int (nI s), .int (nI (bL lo s)), .int (nI (bn lo s))])), (bw, .inl (cI, 300, .inl fw)), (bs, .inl (cL, 300, .inr (.inl fs))), (uw, .inr (3, [.ref rn, .int (nI s), .int xp, .int xi, .int xa, .int xb, .int xk, .long xt, .int xy])), (lw, .inr (3, [.ref rn, .int (nI (bL lo s)), .int yp, .int yi, .int ya, .int yb, .int yk, .long yt, .int yy])), (rn, .inr (1, [.ref qn, .int (nI ln)])), (qn, .inl (cI, 1200, .inl fn))]) (wr := [(ro, .inr (1, [.ref oo, .int (nI lo)])), (oo, .inl (cI, 1200, .inl fo)), (rm, .inr (1, [.ref om, .int (nI p)])), (om, .inl (cI, 1200, .inl gm)), (tk, .inr (2, [.ref tK, .ref tF, .ref tL, .int (nI c)])), (tK, .inl (cI, 1200, .inl gk)), (tF, .inl (cI, 1200, .inl gf)), (tL, .inl (cI, 1200, .inl gl))]) (wo := (fun u6 : (Int32 × Int32 × Int32 × Int32 × Int64 × Int32) × (Int32 × Int32 × Int32 × Int32 × Int64 × Int32) => [(d, .inr (4, [.ref ro, .ref rn, .ref rm, .ref bk, .ref uw, .ref lw, .ref tk, .int hd])), (bk, .inr (0, [.ref ro, .ref bw, .ref bs, .int (nI s), .int (nI (bL lo s)), .int (nI (bn lo s))])), (bw, .inl (cI, 300, .inl fw)), (bs, .inl (cL, 300, .inr (.inl fs))), (uw, .inr (3, [.ref rn, .int (nI s), .int (nI p), .int u6.1.1, .int u6.1.2.1, .int u6.1.2.2.1, .int u6.1.2.2.2.1, .long u6.1.2.2.2.2.1, .int u6.1.2.2.2.2.2])), (lw, .inr (3, [.ref rn, .int (nI (bL lo s)), .int (nI p), .int u6.2.1, .int u6.2.2.1, .int u6.2.2.2.1, .int u6.2.2.2.2.1, .long u6.2.2.2.2.2.1, .int u6.2.2.2.2.2.2])), (rn, .inr (1, [.ref qn, .int (nI ln)])), (qn, .inl (cI, 1200, .inl fn))])) (wn := (fun u6 : (Int32 × Int32 × Int32 × Int32 × Int64 × Int32) × (Int32 × Int32 × Int32 × Int32 × Int64 × Int32) => [(d, .inr (4, [.ref ro, .ref rn, .ref rm, .ref bk, .ref uw, .ref lw, .ref tk, .int hd])), (ro, .inr (1, [.ref oo, .int (nI lo)])), (oo, .inl (cI, 1200, .inl fo)), (rn, .inr (1, [.ref qn, .int (nI ln)])), (qn, .inl (cI, 1200, .inl fn)), (rm, .inr (1, [.ref om, .int (nI p)])), (om, .inl (cI, 1200, .inl gm)), (bk, .inr (0, [.ref ro, .ref bw, .ref bs, .int (nI s), .int (nI (bL lo s)), .int (nI (bn lo s))])), (bw, .inl (cI, 300, .inl fw)), (bs, .inl (cL, 300, .inr (.inl fs))), (uw, .inr (3, [.ref rn, .int (nI s), .int (nI p), .int u6.1.1, .int u6.1.2.1, .int u6.1.2.2.1, .int u6.1.2.2.2.1, .long u6.1.2.2.2.2.1, .int u6.1.2.2.2.2.2])), (lw, .inr (3, [.ref rn, .int (nI (bL lo s)), .int (nI p), .int u6.2.1, .int u6.2.2.1, .int u6.2.2.2.1, .int u6.2.2.2.2.1, .long u6.2.2.2.2.2.1, .int u6.2.2.2.2.2.2])), (tk, .inr (2, [.ref tK, .ref tF, .ref tL, .int (nI c)])), (tK, .inl (cI, 1200, .inl gk)), (tF, .inl (cI, 1200, .inl gf)), (tL, .inl (cI, 1200, .inl gl))])) (isC := [0, 7, 8, 9, 10, 11, 3, 4]) (isR := [1, 2, 5, 6, 12, 13, 14, 15]) hP hD hS hA ⟨rfl, rfl, by decide, by decide, by decide⟩ [8, 0, 1, 14, 15, 2, 3, 9, 10, 11, 12, 13, 4, 5, 6, 7] (by decide) (fun _ => rfl) (fun hPc hDc => va_runV (As := [.int (nI p), .int (oI bf), .long mk]) (rest := []) ⟨hx, hb, hml, hown, ht⟩ (c_X4_blockAt Ll D cI cL d ro rn rm bk uw lw tk hd bw bs s lo fw fs xp yp xi xa xb xk xt xy yi ya yb yk yt yy qn ln fn fo p bf mk h1 h2 h3 h4 hv (by omega) hbf hx1 hy1 H.size) ⟨(callB_of 3 ht g_X4_blockAt rfl rfl rfl (ht _ iw_30) (ht _ iw_105) hd_X4_blockAt ⟨Nat.le_of_ble_eq_true rfl, Nat.le_of_ble_eq_true rfl⟩), (ht _ iw_106), (ht _ iw_107)⟩ (ds_pV hPc hDc hK (q0 := 0) rfl rfl) rfl rfl hl.1 rfl (lv_room (Nat.le_of_ble_eq_true rfl)) dX4_makeDelta_32 ⟨Nat.le_of_ble_eq_true rfl, Nat.le_of_ble_eq_true rfl⟩) (fun r5 u6 H locs hp7 hP hD hS => ?_)
          have hP : va_P D vwCl [(d, .inr (4, [.ref ro, .ref rn, .ref rm, .ref bk, .ref uw, .ref lw, .ref tk, .int hd])), (ro, .inr (1, [.ref oo, .int (nI lo)])), (oo, .inl (cI, 1200, .inl fo)), (rn, .inr (1, [.ref qn, .int (nI ln)])), (qn, .inl (cI, 1200, .inl fn)), (rm, .inr (1, [.ref om, .int (nI p)])), (om, .inl (cI, 1200, .inl gm)), (bk, .inr (0, [.ref ro, .ref bw, .ref bs, .int (nI s), .int (nI (bL lo s)), .int (nI (bn lo s))])), (bw, .inl (cI, 300, .inl fw)), (bs, .inl (cL, 300, .inr (.inl fs))), (uw, .inr (3, [.ref rn, .int (nI s), .int (nI p), .int u6.1.1, .int u6.1.2.1, .int u6.1.2.2.1, .int u6.1.2.2.2.1, .long u6.1.2.2.2.2.1, .int u6.1.2.2.2.2.2])), (lw, .inr (3, [.ref rn, .int (nI (bL lo s)), .int (nI p), .int u6.2.1, .int u6.2.2.1, .int u6.2.2.2.1, .int u6.2.2.2.2.1, .long u6.2.2.2.2.2.1, .int u6.2.2.2.2.2.2])), (tk, .inr (2, [.ref tK, .ref tF, .ref tL, .int (nI c)])), (tK, .inl (cI, 1200, .inl gk)), (tF, .inl (cI, 1200, .inl gf)), (tL, .inl (cI, 1200, .inl gl))] H := hP
          have hD : va_D A [(d, .inr (4, [.ref ro, .ref rn, .ref rm, .ref bk, .ref uw, .ref lw, .ref tk, .int hd])), (ro, .inr (1, [.ref oo, .int (nI lo)])), (oo, .inl (cI, 1200, .inl fo)), (rn, .inr (1, [.ref qn, .int (nI ln)])), (qn, .inl (cI, 1200, .inl fn)), (rm, .inr (1, [.ref om, .int (nI p)])), (om, .inl (cI, 1200, .inl gm)), (bk, .inr (0, [.ref ro, .ref bw, .ref bs, .int (nI s), .int (nI (bL lo s)), .int (nI (bn lo s))])), (bw, .inl (cI, 300, .inl fw)), (bs, .inl (cL, 300, .inr (.inl fs))), (uw, .inr (3, [.ref rn, .int (nI s), .int (nI p), .int u6.1.1, .int u6.1.2.1, .int u6.1.2.2.1, .int u6.1.2.2.2.1, .long u6.1.2.2.2.2.1, .int u6.1.2.2.2.2.2])), (lw, .inr (3, [.ref rn, .int (nI (bL lo s)), .int (nI p), .int u6.2.1, .int u6.2.2.1, .int u6.2.2.2.1, .int u6.2.2.2.2.1, .long u6.2.2.2.2.2.1, .int u6.2.2.2.2.2.2])), (tk, .inr (2, [.ref tK, .ref tF, .ref tL, .int (nI c)])), (tK, .inl (cI, 1200, .inl gk)), (tF, .inl (cI, 1200, .inl gf)), (tL, .inl (cI, 1200, .inl gl))] := hD
          have hp7 : r5 = oI (pick (fb fo fn lo ln s mk p) (bn lo s) bf) ∧ dw_I fn ln s u6.1.1 (nI p) u6.1.2.1 u6.1.2.2.1 ∧ dw_I fn ln (bL lo s) u6.2.1 (nI p) u6.2.2.1 u6.2.2.2.1 := hp7
          obtain ⟨e9, hI1, hI2⟩ := hp7
          replace e9 := Eq.symm e9
          subst e9
          refine lv_istore (lv' := [(6, .int (oI (pick (fb fo fn lo ln s mk p) (bn lo s) bf))), (0, .ref d), (1, .long mk), (3, .int (nI p)), (4, .int (oI bf)), (5, .int (nI i))]) hx hb dX4_makeDelta_35 hl (Nat.le_of_ble_eq_true rfl) rfl (fun ls hl => ?_)
          rcases hpk : pick (fb fo fn lo ln s mk p) (bn lo s) bf with _ | b
          ·
            rw [hpk] at hl
            have hl : lv_has ls 7 [(6, .int (-1)), (0, .ref d), (1, .long mk), (3, .int (nI p)), (4, .int (oI bf)), (5, .int (nI i))] := hl
            refine lv_iload hx hb dX4_makeDelta_37 (lv_at hl 0 rfl) ?_
            refine lv_iconst (v := -1) hx hb dX4_makeDelta_39 (by decide +kernel) ?_
            refine lv_icmp_ne (tgt := 71) hx hb dX4_makeDelta_40 (by decide) (fun h0 => ?_) (fun h0 => ?_)
            ·
              exact absurd rfl h0
            ·
              refine lv_aload_n hx hb dX4_makeDelta_43 rfl (lv_at hl 1 rfl) ?_
              refine va_get (D := D) (ci := 4) (v := .ref tk) (C := RX4) (T := TX4) (N := 8) hx hb ht inA_X4 hown hK.1 hP 0 rfl rfl 6 (by decide) (ht _ iw_26) (fun _ h9 => h9) rfl dX4_makeDelta_44 ?_
              refine lv_iconst (v := nI 1) hx hb dX4_makeDelta_47 (by decide +kernel) ?_
              refine lv_iload_n hx hb dX4_makeDelta_48 rfl (lv_at hl 3 rfl) ?_
              refine ds_callv (wc := [(tk, .inr (2, [.ref tK, .ref tF, .ref tL, .int (nI c)])), (tK, .inl (cI, 1200, .inl gk)), (tF, .inl (cI, 1200, .inl gf)), (tL, .inl (cI, 1200, .inl gl))]) (wr := [(d, .inr (4, [.ref ro, .ref rn, .ref rm, .ref bk, .ref uw, .ref lw, .ref tk, .int hd])), (ro, .inr (1, [.ref oo, .int (nI lo)])), (oo, .inl (cI, 1200, .inl fo)), (rn, .inr (1, [.ref qn, .int (nI ln)])), (qn, .inl (cI, 1200, .inl fn)), (rm, .inr (1, [.ref om, .int (nI p)])), (om, .inl (cI, 1200, .inl gm)), (bk, .inr (0, [.ref ro, .ref bw, .ref bs, .int (nI s), .int (nI (bL lo s)), .int (nI (bn lo s))])), (bw, .inl (cI, 300, .inl fw)), (bs, .inl (cL, 300, .inr (.inl fs))), (uw, .inr (3, [.ref rn, .int (nI s), .int (nI p), .int u6.1.1, .int u6.1.2.1, .int u6.1.2.2.1, .int u6.1.2.2.2.1, .long u6.1.2.2.2.2.1, .int u6.1.2.2.2.2.2])), (lw, .inr (3, [.ref rn, .int (nI (bL lo s)), .int (nI p), .int u6.2.1, .int u6.2.2.1, .int u6.2.2.2.1, .int u6.2.2.2.2.1, .long u6.2.2.2.2.2.1, .int u6.2.2.2.2.2.2]))]) (wo := (fun u9 : (Nat → Int32) × (Nat → Int32) × (Nat → Int32) × Nat => [(tk, .inr (2, [.ref tK, .ref tF, .ref tL, .int (nI u9.2.2.2)])), (tK, .inl (cI, 1200, .inl u9.1)), (tF, .inl (cI, 1200, .inl u9.2.1)), (tL, .inl (cI, 1200, .inl u9.2.2.1))])) (wn := (fun u9 : (Nat → Int32) × (Nat → Int32) × (Nat → Int32) × Nat => [(d, .inr (4, [.ref ro, .ref rn, .ref rm, .ref bk, .ref uw, .ref lw, .ref tk, .int hd])), (ro, .inr (1, [.ref oo, .int (nI lo)])), (oo, .inl (cI, 1200, .inl fo)), (rn, .inr (1, [.ref qn, .int (nI ln)])), (qn, .inl (cI, 1200, .inl fn)), (rm, .inr (1, [.ref om, .int (nI p)])), (om, .inl (cI, 1200, .inl gm)), (bk, .inr (0, [.ref ro, .ref bw, .ref bs, .int (nI s), .int (nI (bL lo s)), .int (nI (bn lo s))])), (bw, .inl (cI, 300, .inl fw)), (bs, .inl (cL, 300, .inr (.inl fs))), (uw, .inr (3, [.ref rn, .int (nI s), .int (nI p), .int u6.1.1, .int u6.1.2.1, .int u6.1.2.2.1, .int u6.1.2.2.2.1, .long u6.1.2.2.2.2.1, .int u6.1.2.2.2.2.2])), (lw, .inr (3, [.ref rn, .int (nI (bL lo s)), .int (nI p), .int u6.2.1, .int u6.2.2.1, .int u6.2.2.2.1, .int u6.2.2.2.2.1, .long u6.2.2.2.2.2.1, .int u6.2.2.2.2.2.2])), (tk, .inr (2, [.ref tK, .ref tF, .ref tL, .int (nI u9.2.2.2)])), (tK, .inl (cI, 1200, .inl u9.1)), (tF, .inl (cI, 1200, .inl u9.2.1)), (tL, .inl (cI, 1200, .inl u9.2.2.1))])) (isC := [12, 13, 14, 15]) (isR := [0, 1, 2, 3, 4, 5, 6, 7, 8, 9, 10, 11]) hP hD hS hA ⟨rfl, rfl, by decide, by decide, by decide⟩ [0, 1, 2, 3, 4, 5, 6, 7, 8, 9, 10, 11, 12, 13, 14, 15] (by decide) (fun _ => rfl) (fun hPc hDc => va_runVN (As := [.int (nI 1), .int (nI p)]) (rest := []) ⟨hx, hb, hml, hown, ht⟩ (c_X2_add Ll D cI cL tk tK tF tL c gk gf gl (nI 1) (nI p) (by omega) H.size) ⟨(va_cnB 2 ht g_X2_add rfl rfl rfl (nmu_14 hK) (ht _ iw_24) hd_X2_add ⟨Nat.le_of_ble_eq_true rfl, Nat.le_of_ble_eq_true rfl⟩), (ht _ iw_108), (ht _ iw_109)⟩ (ds_pV hPc hDc hK (q0 := 0) rfl rfl) rfl rfl hl.1 rfl (lv_room (Nat.le_of_ble_eq_true rfl)) dX4_makeDelta_49 ⟨Nat.le_of_ble_eq_true rfl, Nat.le_of_ble_eq_true rfl⟩) (fun u9 H locs hp10 hP hD hS => ?_)
              have hP : va_P D vwCl [(d, .inr (4, [.ref ro, .ref rn, .ref rm, .ref bk, .ref uw, .ref lw, .ref tk, .int hd])), (ro, .inr (1, [.ref oo, .int (nI lo)])), (oo, .inl (cI, 1200, .inl fo)), (rn, .inr (1, [.ref qn, .int (nI ln)])), (qn, .inl (cI, 1200, .inl fn)), (rm, .inr (1, [.ref om, .int (nI p)])), (om, .inl (cI, 1200, .inl gm)), (bk, .inr (0, [.ref ro, .ref bw, .ref bs, .int (nI s), .int (nI (bL lo s)), .int (nI (bn lo s))])), (bw, .inl (cI, 300, .inl fw)), (bs, .inl (cL, 300, .inr (.inl fs))), (uw, .inr (3, [.ref rn, .int (nI s), .int (nI p), .int u6.1.1, .int u6.1.2.1, .int u6.1.2.2.1, .int u6.1.2.2.2.1, .long u6.1.2.2.2.2.1, .int u6.1.2.2.2.2.2])), (lw, .inr (3, [.ref rn, .int (nI (bL lo s)), .int (nI p), .int u6.2.1, .int u6.2.2.1, .int u6.2.2.2.1, .int u6.2.2.2.2.1, .long u6.2.2.2.2.2.1, .int u6.2.2.2.2.2.2])), (tk, .inr (2, [.ref tK, .ref tF, .ref tL, .int (nI u9.2.2.2)])), (tK, .inl (cI, 1200, .inl u9.1)), (tF, .inl (cI, 1200, .inl u9.2.1)), (tL, .inl (cI, 1200, .inl u9.2.2.1))] H := hP
              have hD : va_D A [(d, .inr (4, [.ref ro, .ref rn, .ref rm, .ref bk, .ref uw, .ref lw, .ref tk, .int hd])), (ro, .inr (1, [.ref oo, .int (nI lo)])), (oo, .inl (cI, 1200, .inl fo)), (rn, .inr (1, [.ref qn, .int (nI ln)])), (qn, .inl (cI, 1200, .inl fn)), (rm, .inr (1, [.ref om, .int (nI p)])), (om, .inl (cI, 1200, .inl gm)), (bk, .inr (0, [.ref ro, .ref bw, .ref bs, .int (nI s), .int (nI (bL lo s)), .int (nI (bn lo s))])), (bw, .inl (cI, 300, .inl fw)), (bs, .inl (cL, 300, .inr (.inl fs))), (uw, .inr (3, [.ref rn, .int (nI s), .int (nI p), .int u6.1.1, .int u6.1.2.1, .int u6.1.2.2.1, .int u6.1.2.2.2.1, .long u6.1.2.2.2.2.1, .int u6.1.2.2.2.2.2])), (lw, .inr (3, [.ref rn, .int (nI (bL lo s)), .int (nI p), .int u6.2.1, .int u6.2.2.1, .int u6.2.2.2.1, .int u6.2.2.2.2.1, .long u6.2.2.2.2.2.1, .int u6.2.2.2.2.2.2])), (tk, .inr (2, [.ref tK, .ref tF, .ref tL, .int (nI u9.2.2.2)])), (tK, .inl (cI, 1200, .inl u9.1)), (tF, .inl (cI, 1200, .inl u9.2.1)), (tL, .inl (cI, 1200, .inl u9.2.2.1))] := hD
              have hp10 : u9 = tk_add gk gf gl c (nI 1) (nI p) := hp10
              refine lv_aload_n hx hb dX4_makeDelta_52 rfl (lv_at hl 1 rfl) ?_
              refine va_get (D := D) (ci := 4) (v := .ref rm) (C := RX4) (T := TX4) (N := 8) hx hb ht inA_X4 hown hK.1 hP 0 rfl rfl 2 (by decide) (ht _ iw_10) (fun _ h9 => h9) rfl dX4_makeDelta_53 ?_
              refine lv_aload_n hx hb dX4_makeDelta_56 rfl (lv_at hl 1 rfl) ?_
              refine va_get (D := D) (ci := 4) (v := .ref rn) (C := RX4) (T := TX4) (N := 8) hx hb ht inA_X4 hown hK.1 hP 0 rfl rfl 1 (by decide) (ht _ iw_9) (fun _ h9 => h9) rfl dX4_makeDelta_57 ?_
              refine lv_iload_n hx hb dX4_makeDelta_60 rfl (lv_at hl 3 rfl) ?_
              refine lv_iconst (v := nI 1) hx hb dX4_makeDelta_61 (by decide +kernel) ?_
              refine ds_callv (wc := [(rm, .inr (1, [.ref om, .int (nI p)])), (om, .inl (cI, 1200, .inl gm)), (rn, .inr (1, [.ref qn, .int (nI ln)])), (qn, .inl (cI, 1200, .inl fn))]) (wr := [(d, .inr (4, [.ref ro, .ref rn, .ref rm, .ref bk, .ref uw, .ref lw, .ref tk, .int hd])), (ro, .inr (1, [.ref oo, .int (nI lo)])), (oo, .inl (cI, 1200, .inl fo)), (bk, .inr (0, [.ref ro, .ref bw, .ref bs, .int (nI s), .int (nI (bL lo s)), .int (nI (bn lo s))])), (bw, .inl (cI, 300, .inl fw)), (bs, .inl (cL, 300, .inr (.inl fs))), (uw, .inr (3, [.ref rn, .int (nI s), .int (nI p), .int u6.1.1, .int u6.1.2.1, .int u6.1.2.2.1, .int u6.1.2.2.2.1, .long u6.1.2.2.2.2.1, .int u6.1.2.2.2.2.2])), (lw, .inr (3, [.ref rn, .int (nI (bL lo s)), .int (nI p), .int u6.2.1, .int u6.2.2.1, .int u6.2.2.2.1, .int u6.2.2.2.2.1, .long u6.2.2.2.2.2.1, .int u6.2.2.2.2.2.2])), (tk, .inr (2, [.ref tK, .ref tF, .ref tL, .int (nI u9.2.2.2)])), (tK, .inl (cI, 1200, .inl u9.1)), (tF, .inl (cI, 1200, .inl u9.2.1)), (tL, .inl (cI, 1200, .inl u9.2.2.1))]) (wo := (fun u12 : Unit => [(rm, .inr (1, [.ref om, .int (nI (p + 1))])), (om, .inl (cI, 1200, .inl (va_cpy fn gm p p 1))), (rn, .inr (1, [.ref qn, .int (nI ln)])), (qn, .inl (cI, 1200, .inl fn))])) (wn := (fun u12 : Unit => [(d, .inr (4, [.ref ro, .ref rn, .ref rm, .ref bk, .ref uw, .ref lw, .ref tk, .int hd])), (ro, .inr (1, [.ref oo, .int (nI lo)])), (oo, .inl (cI, 1200, .inl fo)), (rn, .inr (1, [.ref qn, .int (nI ln)])), (qn, .inl (cI, 1200, .inl fn)), (rm, .inr (1, [.ref om, .int (nI (p + 1))])), (om, .inl (cI, 1200, .inl (va_cpy fn gm p p 1))), (bk, .inr (0, [.ref ro, .ref bw, .ref bs, .int (nI s), .int (nI (bL lo s)), .int (nI (bn lo s))])), (bw, .inl (cI, 300, .inl fw)), (bs, .inl (cL, 300, .inr (.inl fs))), (uw, .inr (3, [.ref rn, .int (nI s), .int (nI p), .int u6.1.1, .int u6.1.2.1, .int u6.1.2.2.1, .int u6.1.2.2.2.1, .long u6.1.2.2.2.2.1, .int u6.1.2.2.2.2.2])), (lw, .inr (3, [.ref rn, .int (nI (bL lo s)), .int (nI p), .int u6.2.1, .int u6.2.2.1, .int u6.2.2.2.1, .int u6.2.2.2.2.1, .long u6.2.2.2.2.2.1, .int u6.2.2.2.2.2.2])), (tk, .inr (2, [.ref tK, .ref tF, .ref tL, .int (nI u9.2.2.2)])), (tK, .inl (cI, 1200, .inl u9.1)), (tF, .inl (cI, 1200, .inl u9.2.1)), (tL, .inl (cI, 1200, .inl u9.2.2.1))])) (isC := [5, 6, 3, 4]) (isR := [0, 1, 2, 7, 8, 9, 10, 11, 12, 13, 14, 15]) hP hD hS hA ⟨rfl, rfl, by decide, by decide, by decide⟩ [0, 1, 2, 14, 15, 12, 13, 3, 4, 5, 6, 7, 8, 9, 10, 11] (by decide) (fun _ => rfl) (fun hPc hDc => va_runVN (As := [.ref rn, .int (nI p), .int (nI 1)]) (rest := []) ⟨hx, hb, hml, hown, ht⟩ (c_X1_append Ll D cI cL rm om p gm rn qn ln fn p 1 (by omega) (by omega) H.size) ⟨(va_cnB 3 ht g_X1_append rfl rfl rfl (nmu_11 hK) (ht _ iw_6) hd_X1_append ⟨Nat.le_of_ble_eq_true rfl, Nat.le_of_ble_eq_true rfl⟩), (ht _ iw_87), (ht _ iw_88)⟩ (ds_pV hPc hDc hK (q0 := 0) rfl rfl) rfl rfl hl.1 rfl (lv_room (Nat.le_of_ble_eq_true rfl)) dX4_makeDelta_62 ⟨Nat.le_of_ble_eq_true rfl, Nat.le_of_ble_eq_true rfl⟩) (fun u12 H locs hp13 hP hD hS => ?_)
              have hP : va_P D vwCl [(d, .inr (4, [.ref ro, .ref rn, .ref rm, .ref bk, .ref uw, .ref lw, .ref tk, .int hd])), (ro, .inr (1, [.ref oo, .int (nI lo)])), (oo, .inl (cI, 1200, .inl fo)), (rn, .inr (1, [.ref qn, .int (nI ln)])), (qn, .inl (cI, 1200, .inl fn)), (rm, .inr (1, [.ref om, .int (nI (p + 1))])), (om, .inl (cI, 1200, .inl (va_cpy fn gm p p 1))), (bk, .inr (0, [.ref ro, .ref bw, .ref bs, .int (nI s), .int (nI (bL lo s)), .int (nI (bn lo s))])), (bw, .inl (cI, 300, .inl fw)), (bs, .inl (cL, 300, .inr (.inl fs))), (uw, .inr (3, [.ref rn, .int (nI s), .int (nI p), .int u6.1.1, .int u6.1.2.1, .int u6.1.2.2.1, .int u6.1.2.2.2.1, .long u6.1.2.2.2.2.1, .int u6.1.2.2.2.2.2])), (lw, .inr (3, [.ref rn, .int (nI (bL lo s)), .int (nI p), .int u6.2.1, .int u6.2.2.1, .int u6.2.2.2.1, .int u6.2.2.2.2.1, .long u6.2.2.2.2.2.1, .int u6.2.2.2.2.2.2])), (tk, .inr (2, [.ref tK, .ref tF, .ref tL, .int (nI u9.2.2.2)])), (tK, .inl (cI, 1200, .inl u9.1)), (tF, .inl (cI, 1200, .inl u9.2.1)), (tL, .inl (cI, 1200, .inl u9.2.2.1))] H := hP
              have hD : va_D A [(d, .inr (4, [.ref ro, .ref rn, .ref rm, .ref bk, .ref uw, .ref lw, .ref tk, .int hd])), (ro, .inr (1, [.ref oo, .int (nI lo)])), (oo, .inl (cI, 1200, .inl fo)), (rn, .inr (1, [.ref qn, .int (nI ln)])), (qn, .inl (cI, 1200, .inl fn)), (rm, .inr (1, [.ref om, .int (nI (p + 1))])), (om, .inl (cI, 1200, .inl (va_cpy fn gm p p 1))), (bk, .inr (0, [.ref ro, .ref bw, .ref bs, .int (nI s), .int (nI (bL lo s)), .int (nI (bn lo s))])), (bw, .inl (cI, 300, .inl fw)), (bs, .inl (cL, 300, .inr (.inl fs))), (uw, .inr (3, [.ref rn, .int (nI s), .int (nI p), .int u6.1.1, .int u6.1.2.1, .int u6.1.2.2.1, .int u6.1.2.2.2.1, .long u6.1.2.2.2.2.1, .int u6.1.2.2.2.2.2])), (lw, .inr (3, [.ref rn, .int (nI (bL lo s)), .int (nI p), .int u6.2.1, .int u6.2.2.1, .int u6.2.2.2.1, .int u6.2.2.2.2.1, .long u6.2.2.2.2.2.1, .int u6.2.2.2.2.2.2])), (tk, .inr (2, [.ref tK, .ref tF, .ref tL, .int (nI u9.2.2.2)])), (tK, .inl (cI, 1200, .inl u9.1)), (tF, .inl (cI, 1200, .inl u9.2.1)), (tL, .inl (cI, 1200, .inl u9.2.2.1))] := hD
              have hp13 : True := hp13
              refine lv_iinc (k := 3) (v := nI (p + 1)) (lv' := [(3, .int (nI (p + 1))), (6, .int (-1)), (0, .ref d), (1, .long mk), (4, .int (oI bf)), (5, .int (nI i))]) hx hb dX4_makeDelta_65 hl rfl (by rw [nI_succ]; rfl) (Nat.le_of_ble_eq_true rfl) rfl (fun ls hl => ?_)
              refine lv_goto (tgt := 122) hx hb dX4_makeDelta_68 (by decide) ?_
              refine lv_iload hx hb dX4_makeDelta_122 (lv_at hl 1 rfl) ?_
              refine lv_istore (lv' := [(4, .int (-1)), (3, .int (nI (p + 1))), (6, .int (-1)), (0, .ref d), (1, .long mk), (5, .int (nI i))]) hx hb dX4_makeDelta_124 hl (Nat.le_of_ble_eq_true rfl) rfl (fun ls hl => ?_)
              refine lv_iinc (k := 5) (v := nI (i + 1)) (lv' := [(5, .int (nI (i + 1))), (4, .int (-1)), (3, .int (nI (p + 1))), (6, .int (-1)), (0, .ref d), (1, .long mk)]) hx hb dX4_makeDelta_126 hl rfl (by rw [nI_succ]; rfl) (Nat.le_of_ble_eq_true rfl) rfl (fun ls hl => ?_)
              refine lv_goto (tgt := 8) hx hb dX4_makeDelta_129 (by decide) ?_
              exact ih3 (p + 1) (i + 1) u9.2.2.2 none u9.1 u9.2.1 u9.2.2.1 (va_cpy fn gm p p 1) (nI p) u6.1.1 u6.1.2.1 u6.1.2.2.1 u6.1.2.2.2.1 u6.1.2.2.2.2.1 u6.1.2.2.2.2.2 (nI p) u6.2.1 u6.2.2.1 u6.2.2.2.1 u6.2.2.2.2.1 u6.2.2.2.2.2.1 u6.2.2.2.2.2.2 H locs ls (by omega) (by omega) (by rw [hp10]; exact Nat.le_trans tk_add_c (by omega)) (fun _ h9 => by cases h9) hI1 hI2 (by rw [hp10]; have e := dl_go (fo := fo) (fn := fn) (lo := lo) (ln := ln) (s := s) (mk := mk) (t := (p, bf, (gk, gf, gl, c), gm)) (i := i) (by show p < ln; omega) (by omega); rw [dl_none hpk] at e; exact e.symm.trans hrun) (by omega) hP hD hS (lv_sub hl [4, 5, 2, 1, 0] rfl)
          ·
            rw [hpk] at hl
            have hl : lv_has ls 7 [(6, .int (nI b)), (0, .ref d), (1, .long mk), (3, .int (nI p)), (4, .int (oI bf)), (5, .int (nI i))] := hl
            obtain ⟨hbn, hfb⟩ := pick_lt hpk
            have hft := of_decide_eq_true hfb
            have hin := bl_in (n := lo) (s := s) (i := b) (by omega) hbn
            have hle : p + bl lo s b ≤ ln := hft.1
            refine lv_iload hx hb dX4_makeDelta_37 (lv_at hl 0 rfl) ?_
            refine lv_iconst (v := -1) hx hb dX4_makeDelta_39 (by decide +kernel) ?_
            refine lv_icmp_ne (tgt := 71) hx hb dX4_makeDelta_40 (by decide) (fun h0 => ?_) (fun h0 => ?_)
            ·
              refine lv_aload_n hx hb dX4_makeDelta_71 rfl (lv_at hl 1 rfl) ?_
              refine va_get (D := D) (ci := 4) (v := .ref tk) (C := RX4) (T := TX4) (N := 8) hx hb ht inA_X4 hown hK.1 hP 0 rfl rfl 6 (by decide) (ht _ iw_26) (fun _ h9 => h9) rfl dX4_makeDelta_72 ?_
              refine lv_iconst (v := nI 0) hx hb dX4_makeDelta_75 (by decide +kernel) ?_
              refine lv_iload hx hb dX4_makeDelta_76 (lv_at hl 0 rfl) ?_
              refine ds_callv (wc := [(tk, .inr (2, [.ref tK, .ref tF, .ref tL, .int (nI c)])), (tK, .inl (cI, 1200, .inl gk)), (tF, .inl (cI, 1200, .inl gf)), (tL, .inl (cI, 1200, .inl gl))]) (wr := [(d, .inr (4, [.ref ro, .ref rn, .ref rm, .ref bk, .ref uw, .ref lw, .ref tk, .int hd])), (ro, .inr (1, [.ref oo, .int (nI lo)])), (oo, .inl (cI, 1200, .inl fo)), (rn, .inr (1, [.ref qn, .int (nI ln)])), (qn, .inl (cI, 1200, .inl fn)), (rm, .inr (1, [.ref om, .int (nI p)])), (om, .inl (cI, 1200, .inl gm)), (bk, .inr (0, [.ref ro, .ref bw, .ref bs, .int (nI s), .int (nI (bL lo s)), .int (nI (bn lo s))])), (bw, .inl (cI, 300, .inl fw)), (bs, .inl (cL, 300, .inr (.inl fs))), (uw, .inr (3, [.ref rn, .int (nI s), .int (nI p), .int u6.1.1, .int u6.1.2.1, .int u6.1.2.2.1, .int u6.1.2.2.2.1, .long u6.1.2.2.2.2.1, .int u6.1.2.2.2.2.2])), (lw, .inr (3, [.ref rn, .int (nI (bL lo s)), .int (nI p), .int u6.2.1, .int u6.2.2.1, .int u6.2.2.2.1, .int u6.2.2.2.2.1, .long u6.2.2.2.2.2.1, .int u6.2.2.2.2.2.2]))]) (wo := (fun u15 : (Nat → Int32) × (Nat → Int32) × (Nat → Int32) × Nat => [(tk, .inr (2, [.ref tK, .ref tF, .ref tL, .int (nI u15.2.2.2)])), (tK, .inl (cI, 1200, .inl u15.1)), (tF, .inl (cI, 1200, .inl u15.2.1)), (tL, .inl (cI, 1200, .inl u15.2.2.1))])) (wn := (fun u15 : (Nat → Int32) × (Nat → Int32) × (Nat → Int32) × Nat => [(d, .inr (4, [.ref ro, .ref rn, .ref rm, .ref bk, .ref uw, .ref lw, .ref tk, .int hd])), (ro, .inr (1, [.ref oo, .int (nI lo)])), (oo, .inl (cI, 1200, .inl fo)), (rn, .inr (1, [.ref qn, .int (nI ln)])), (qn, .inl (cI, 1200, .inl fn)), (rm, .inr (1, [.ref om, .int (nI p)])), (om, .inl (cI, 1200, .inl gm)), (bk, .inr (0, [.ref ro, .ref bw, .ref bs, .int (nI s), .int (nI (bL lo s)), .int (nI (bn lo s))])), (bw, .inl (cI, 300, .inl fw)), (bs, .inl (cL, 300, .inr (.inl fs))), (uw, .inr (3, [.ref rn, .int (nI s), .int (nI p), .int u6.1.1, .int u6.1.2.1, .int u6.1.2.2.1, .int u6.1.2.2.2.1, .long u6.1.2.2.2.2.1, .int u6.1.2.2.2.2.2])), (lw, .inr (3, [.ref rn, .int (nI (bL lo s)), .int (nI p), .int u6.2.1, .int u6.2.2.1, .int u6.2.2.2.1, .int u6.2.2.2.2.1, .long u6.2.2.2.2.2.1, .int u6.2.2.2.2.2.2])), (tk, .inr (2, [.ref tK, .ref tF, .ref tL, .int (nI u15.2.2.2)])), (tK, .inl (cI, 1200, .inl u15.1)), (tF, .inl (cI, 1200, .inl u15.2.1)), (tL, .inl (cI, 1200, .inl u15.2.2.1))])) (isC := [12, 13, 14, 15]) (isR := [0, 1, 2, 3, 4, 5, 6, 7, 8, 9, 10, 11]) hP hD hS hA ⟨rfl, rfl, by decide, by decide, by decide⟩ [0, 1, 2, 3, 4, 5, 6, 7, 8, 9, 10, 11, 12, 13, 14, 15] (by decide) (fun _ => rfl) (fun hPc hDc => va_runVN (As := [.int (nI 0), .int (nI b)]) (rest := []) ⟨hx, hb, hml, hown, ht⟩ (c_X2_add Ll D cI cL tk tK tF tL c gk gf gl (nI 0) (nI b) (by omega) H.size) ⟨(va_cnB 2 ht g_X2_add rfl rfl rfl (nmu_14 hK) (ht _ iw_24) hd_X2_add ⟨Nat.le_of_ble_eq_true rfl, Nat.le_of_ble_eq_true rfl⟩), (ht _ iw_108), (ht _ iw_109)⟩ (ds_pV hPc hDc hK (q0 := 0) rfl rfl) rfl rfl hl.1 rfl (lv_room (Nat.le_of_ble_eq_true rfl)) dX4_makeDelta_78 ⟨Nat.le_of_ble_eq_true rfl, Nat.le_of_ble_eq_true rfl⟩) (fun u15 H locs hp16 hP hD hS => ?_)
              have hP : va_P D vwCl [(d, .inr (4, [.ref ro, .ref rn, .ref rm, .ref bk, .ref uw, .ref lw, .ref tk, .int hd])), (ro, .inr (1, [.ref oo, .int (nI lo)])), (oo, .inl (cI, 1200, .inl fo)), (rn, .inr (1, [.ref qn, .int (nI ln)])), (qn, .inl (cI, 1200, .inl fn)), (rm, .inr (1, [.ref om, .int (nI p)])), (om, .inl (cI, 1200, .inl gm)), (bk, .inr (0, [.ref ro, .ref bw, .ref bs, .int (nI s), .int (nI (bL lo s)), .int (nI (bn lo s))])), (bw, .inl (cI, 300, .inl fw)), (bs, .inl (cL, 300, .inr (.inl fs))), (uw, .inr (3, [.ref rn, .int (nI s), .int (nI p), .int u6.1.1, .int u6.1.2.1, .int u6.1.2.2.1, .int u6.1.2.2.2.1, .long u6.1.2.2.2.2.1, .int u6.1.2.2.2.2.2])), (lw, .inr (3, [.ref rn, .int (nI (bL lo s)), .int (nI p), .int u6.2.1, .int u6.2.2.1, .int u6.2.2.2.1, .int u6.2.2.2.2.1, .long u6.2.2.2.2.2.1, .int u6.2.2.2.2.2.2])), (tk, .inr (2, [.ref tK, .ref tF, .ref tL, .int (nI u15.2.2.2)])), (tK, .inl (cI, 1200, .inl u15.1)), (tF, .inl (cI, 1200, .inl u15.2.1)), (tL, .inl (cI, 1200, .inl u15.2.2.1))] H := hP
              have hD : va_D A [(d, .inr (4, [.ref ro, .ref rn, .ref rm, .ref bk, .ref uw, .ref lw, .ref tk, .int hd])), (ro, .inr (1, [.ref oo, .int (nI lo)])), (oo, .inl (cI, 1200, .inl fo)), (rn, .inr (1, [.ref qn, .int (nI ln)])), (qn, .inl (cI, 1200, .inl fn)), (rm, .inr (1, [.ref om, .int (nI p)])), (om, .inl (cI, 1200, .inl gm)), (bk, .inr (0, [.ref ro, .ref bw, .ref bs, .int (nI s), .int (nI (bL lo s)), .int (nI (bn lo s))])), (bw, .inl (cI, 300, .inl fw)), (bs, .inl (cL, 300, .inr (.inl fs))), (uw, .inr (3, [.ref rn, .int (nI s), .int (nI p), .int u6.1.1, .int u6.1.2.1, .int u6.1.2.2.1, .int u6.1.2.2.2.1, .long u6.1.2.2.2.2.1, .int u6.1.2.2.2.2.2])), (lw, .inr (3, [.ref rn, .int (nI (bL lo s)), .int (nI p), .int u6.2.1, .int u6.2.2.1, .int u6.2.2.2.1, .int u6.2.2.2.2.1, .long u6.2.2.2.2.2.1, .int u6.2.2.2.2.2.2])), (tk, .inr (2, [.ref tK, .ref tF, .ref tL, .int (nI u15.2.2.2)])), (tK, .inl (cI, 1200, .inl u15.1)), (tF, .inl (cI, 1200, .inl u15.2.1)), (tL, .inl (cI, 1200, .inl u15.2.2.1))] := hD
              have hp16 : u15 = tk_add gk gf gl c (nI 0) (nI b) := hp16
              refine lv_aload_n hx hb dX4_makeDelta_81 rfl (lv_at hl 1 rfl) ?_
              refine va_get (D := D) (ci := 4) (v := .ref rm) (C := RX4) (T := TX4) (N := 8) hx hb ht inA_X4 hown hK.1 hP 0 rfl rfl 2 (by decide) (ht _ iw_10) (fun _ h9 => h9) rfl dX4_makeDelta_82 ?_
              refine lv_aload_n hx hb dX4_makeDelta_85 rfl (lv_at hl 1 rfl) ?_
              refine va_get (D := D) (ci := 4) (v := .ref ro) (C := RX4) (T := TX4) (N := 8) hx hb ht inA_X4 hown hK.1 hP 0 rfl rfl 0 (by decide) (ht _ iw_8) (fun _ h9 => h9) rfl dX4_makeDelta_86 ?_
              refine lv_aload_n hx hb dX4_makeDelta_89 rfl (lv_at hl 1 rfl) ?_
              refine va_get (D := D) (ci := 4) (v := .ref bk) (C := RX4) (T := TX4) (N := 8) hx hb ht inA_X4 hown hK.1 hP 0 rfl rfl 3 (by decide) (ht _ iw_15) (fun _ h9 => h9) rfl dX4_makeDelta_90 ?_
              refine lv_iload hx hb dX4_makeDelta_93 (lv_at hl 0 rfl) ?_
              refine ds_calli (wc := [(bk, .inr (0, [.ref ro, .ref bw, .ref bs, .int (nI s), .int (nI (bL lo s)), .int (nI (bn lo s))]))]) (wr := [(d, .inr (4, [.ref ro, .ref rn, .ref rm, .ref bk, .ref uw, .ref lw, .ref tk, .int hd])), (ro, .inr (1, [.ref oo, .int (nI lo)])), (oo, .inl (cI, 1200, .inl fo)), (rn, .inr (1, [.ref qn, .int (nI ln)])), (qn, .inl (cI, 1200, .inl fn)), (rm, .inr (1, [.ref om, .int (nI p)])), (om, .inl (cI, 1200, .inl gm)), (bw, .inl (cI, 300, .inl fw)), (bs, .inl (cL, 300, .inr (.inl fs))), (uw, .inr (3, [.ref rn, .int (nI s), .int (nI p), .int u6.1.1, .int u6.1.2.1, .int u6.1.2.2.1, .int u6.1.2.2.2.1, .long u6.1.2.2.2.2.1, .int u6.1.2.2.2.2.2])), (lw, .inr (3, [.ref rn, .int (nI (bL lo s)), .int (nI p), .int u6.2.1, .int u6.2.2.1, .int u6.2.2.2.1, .int u6.2.2.2.2.1, .long u6.2.2.2.2.2.1, .int u6.2.2.2.2.2.2])), (tk, .inr (2, [.ref tK, .ref tF, .ref tL, .int (nI u15.2.2.2)])), (tK, .inl (cI, 1200, .inl u15.1)), (tF, .inl (cI, 1200, .inl u15.2.1)), (tL, .inl (cI, 1200, .inl u15.2.2.1))]) (wo := (fun u18 : Unit => [(bk, .inr (0, [.ref ro, .ref bw, .ref bs, .int (nI s), .int (nI (bL lo s)), .int (nI (bn lo s))]))])) (wn := (fun u18 : Unit => [(d, .inr (4, [.ref ro, .ref rn, .ref rm, .ref bk, .ref uw, .ref lw, .ref tk, .int hd])), (ro, .inr (1, [.ref oo, .int (nI lo)])), (oo, .inl (cI, 1200, .inl fo)), (rn, .inr (1, [.ref qn, .int (nI ln)])), (qn, .inl (cI, 1200, .inl fn)), (rm, .inr (1, [.ref om, .int (nI p)])), (om, .inl (cI, 1200, .inl gm)), (bk, .inr (0, [.ref ro, .ref bw, .ref bs, .int (nI s), .int (nI (bL lo s)), .int (nI (bn lo s))])), (bw, .inl (cI, 300, .inl fw)), (bs, .inl (cL, 300, .inr (.inl fs))), (uw, .inr (3, [.ref rn, .int (nI s), .int (nI p), .int u6.1.1, .int u6.1.2.1, .int u6.1.2.2.1, .int u6.1.2.2.2.1, .long u6.1.2.2.2.2.1, .int u6.1.2.2.2.2.2])), (lw, .inr (3, [.ref rn, .int (nI (bL lo s)), .int (nI p), .int u6.2.1, .int u6.2.2.1, .int u6.2.2.2.1, .int u6.2.2.2.2.1, .long u6.2.2.2.2.2.1, .int u6.2.2.2.2.2.2])), (tk, .inr (2, [.ref tK, .ref tF, .ref tL, .int (nI u15.2.2.2)])), (tK, .inl (cI, 1200, .inl u15.1)), (tF, .inl (cI, 1200, .inl u15.2.1)), (tL, .inl (cI, 1200, .inl u15.2.2.1))])) (isC := [7]) (isR := [0, 1, 2, 3, 4, 5, 6, 8, 9, 10, 11, 12, 13, 14, 15]) hP hD hS hA ⟨rfl, rfl, by decide, by decide, by decide⟩ [0, 1, 2, 3, 4, 5, 6, 15, 7, 8, 9, 10, 11, 12, 13, 14] (by decide) (fun _ => rfl) (fun hPc hDc => va_runVN (As := [.int (nI b)]) (rest := [.ref ro, .ref rm]) ⟨hx, hb, hml, hown, ht⟩ (c_X0_start Ll D cI cL bk ro bw bs s (bL lo s) (bn lo s) b  H.size) ⟨(va_cnB 1 ht g_X0_start rfl rfl rfl (nmu_15 hK) (ht _ iw_13) hd_X0_start ⟨Nat.le_of_ble_eq_true rfl, Nat.le_of_ble_eq_true rfl⟩), (ht _ iw_110), (ht _ iw_111)⟩ (ds_pV hPc hDc hK (q0 := 0) rfl rfl) rfl rfl hl.1 rfl (lv_room (Nat.le_of_ble_eq_true rfl)) dX4_makeDelta_95 ⟨Nat.le_of_ble_eq_true rfl, Nat.le_of_ble_eq_true rfl⟩) (fun r17 u18 H locs hp19 hP hD hS => ?_)
              have hP : va_P D vwCl [(d, .inr (4, [.ref ro, .ref rn, .ref rm, .ref bk, .ref uw, .ref lw, .ref tk, .int hd])), (ro, .inr (1, [.ref oo, .int (nI lo)])), (oo, .inl (cI, 1200, .inl fo)), (rn, .inr (1, [.ref qn, .int (nI ln)])), (qn, .inl (cI, 1200, .inl fn)), (rm, .inr (1, [.ref om, .int (nI p)])), (om, .inl (cI, 1200, .inl gm)), (bk, .inr (0, [.ref ro, .ref bw, .ref bs, .int (nI s), .int (nI (bL lo s)), .int (nI (bn lo s))])), (bw, .inl (cI, 300, .inl fw)), (bs, .inl (cL, 300, .inr (.inl fs))), (uw, .inr (3, [.ref rn, .int (nI s), .int (nI p), .int u6.1.1, .int u6.1.2.1, .int u6.1.2.2.1, .int u6.1.2.2.2.1, .long u6.1.2.2.2.2.1, .int u6.1.2.2.2.2.2])), (lw, .inr (3, [.ref rn, .int (nI (bL lo s)), .int (nI p), .int u6.2.1, .int u6.2.2.1, .int u6.2.2.2.1, .int u6.2.2.2.2.1, .long u6.2.2.2.2.2.1, .int u6.2.2.2.2.2.2])), (tk, .inr (2, [.ref tK, .ref tF, .ref tL, .int (nI u15.2.2.2)])), (tK, .inl (cI, 1200, .inl u15.1)), (tF, .inl (cI, 1200, .inl u15.2.1)), (tL, .inl (cI, 1200, .inl u15.2.2.1))] H := hP
              have hD : va_D A [(d, .inr (4, [.ref ro, .ref rn, .ref rm, .ref bk, .ref uw, .ref lw, .ref tk, .int hd])), (ro, .inr (1, [.ref oo, .int (nI lo)])), (oo, .inl (cI, 1200, .inl fo)), (rn, .inr (1, [.ref qn, .int (nI ln)])), (qn, .inl (cI, 1200, .inl fn)), (rm, .inr (1, [.ref om, .int (nI p)])), (om, .inl (cI, 1200, .inl gm)), (bk, .inr (0, [.ref ro, .ref bw, .ref bs, .int (nI s), .int (nI (bL lo s)), .int (nI (bn lo s))])), (bw, .inl (cI, 300, .inl fw)), (bs, .inl (cL, 300, .inr (.inl fs))), (uw, .inr (3, [.ref rn, .int (nI s), .int (nI p), .int u6.1.1, .int u6.1.2.1, .int u6.1.2.2.1, .int u6.1.2.2.2.1, .long u6.1.2.2.2.2.1, .int u6.1.2.2.2.2.2])), (lw, .inr (3, [.ref rn, .int (nI (bL lo s)), .int (nI p), .int u6.2.1, .int u6.2.2.1, .int u6.2.2.2.1, .int u6.2.2.2.2.1, .long u6.2.2.2.2.2.1, .int u6.2.2.2.2.2.2])), (tk, .inr (2, [.ref tK, .ref tF, .ref tL, .int (nI u15.2.2.2)])), (tK, .inl (cI, 1200, .inl u15.1)), (tF, .inl (cI, 1200, .inl u15.2.1)), (tL, .inl (cI, 1200, .inl u15.2.2.1))] := hD
              have hp19 : r17 = nI (b * s) := hp19
              replace hp19 := Eq.symm hp19
              subst hp19
              refine lv_aload_n hx hb dX4_makeDelta_98 rfl (lv_at hl 1 rfl) ?_
              refine va_get (D := D) (ci := 4) (v := .ref bk) (C := RX4) (T := TX4) (N := 8) hx hb ht inA_X4 hown hK.1 hP 0 rfl rfl 3 (by decide) (ht _ iw_15) (fun _ h9 => h9) rfl dX4_makeDelta_99 ?_
              refine lv_iload hx hb dX4_makeDelta_102 (lv_at hl 0 rfl) ?_
              refine ds_calli (wc := [(bk, .inr (0, [.ref ro, .ref bw, .ref bs, .int (nI s), .int (nI (bL lo s)), .int (nI (bn lo s))]))]) (wr := [(d, .inr (4, [.ref ro, .ref rn, .ref rm, .ref bk, .ref uw, .ref lw, .ref tk, .int hd])), (ro, .inr (1, [.ref oo, .int (nI lo)])), (oo, .inl (cI, 1200, .inl fo)), (rn, .inr (1, [.ref qn, .int (nI ln)])), (qn, .inl (cI, 1200, .inl fn)), (rm, .inr (1, [.ref om, .int (nI p)])), (om, .inl (cI, 1200, .inl gm)), (bw, .inl (cI, 300, .inl fw)), (bs, .inl (cL, 300, .inr (.inl fs))), (uw, .inr (3, [.ref rn, .int (nI s), .int (nI p), .int u6.1.1, .int u6.1.2.1, .int u6.1.2.2.1, .int u6.1.2.2.2.1, .long u6.1.2.2.2.2.1, .int u6.1.2.2.2.2.2])), (lw, .inr (3, [.ref rn, .int (nI (bL lo s)), .int (nI p), .int u6.2.1, .int u6.2.2.1, .int u6.2.2.2.1, .int u6.2.2.2.2.1, .long u6.2.2.2.2.2.1, .int u6.2.2.2.2.2.2])), (tk, .inr (2, [.ref tK, .ref tF, .ref tL, .int (nI u15.2.2.2)])), (tK, .inl (cI, 1200, .inl u15.1)), (tF, .inl (cI, 1200, .inl u15.2.1)), (tL, .inl (cI, 1200, .inl u15.2.2.1))]) (wo := (fun u21 : Unit => [(bk, .inr (0, [.ref ro, .ref bw, .ref bs, .int (nI s), .int (nI (bL lo s)), .int (nI (bn lo s))]))])) (wn := (fun u21 : Unit => [(d, .inr (4, [.ref ro, .ref rn, .ref rm, .ref bk, .ref uw, .ref lw, .ref tk, .int hd])), (ro, .inr (1, [.ref oo, .int (nI lo)])), (oo, .inl (cI, 1200, .inl fo)), (rn, .inr (1, [.ref qn, .int (nI ln)])), (qn, .inl (cI, 1200, .inl fn)), (rm, .inr (1, [.ref om, .int (nI p)])), (om, .inl (cI, 1200, .inl gm)), (bk, .inr (0, [.ref ro, .ref bw, .ref bs, .int (nI s), .int (nI (bL lo s)), .int (nI (bn lo s))])), (bw, .inl (cI, 300, .inl fw)), (bs, .inl (cL, 300, .inr (.inl fs))), (uw, .inr (3, [.ref rn, .int (nI s), .int (nI p), .int u6.1.1, .int u6.1.2.1, .int u6.1.2.2.1, .int u6.1.2.2.2.1, .long u6.1.2.2.2.2.1, .int u6.1.2.2.2.2.2])), (lw, .inr (3, [.ref rn, .int (nI (bL lo s)), .int (nI p), .int u6.2.1, .int u6.2.2.1, .int u6.2.2.2.1, .int u6.2.2.2.2.1, .long u6.2.2.2.2.2.1, .int u6.2.2.2.2.2.2])), (tk, .inr (2, [.ref tK, .ref tF, .ref tL, .int (nI u15.2.2.2)])), (tK, .inl (cI, 1200, .inl u15.1)), (tF, .inl (cI, 1200, .inl u15.2.1)), (tL, .inl (cI, 1200, .inl u15.2.2.1))])) (isC := [7]) (isR := [0, 1, 2, 3, 4, 5, 6, 8, 9, 10, 11, 12, 13, 14, 15]) hP hD hS hA ⟨rfl, rfl, by decide, by decide, by decide⟩ [0, 1, 2, 3, 4, 5, 6, 15, 7, 8, 9, 10, 11, 12, 13, 14] (by decide) (fun _ => rfl) (fun hPc hDc => va_runVN (As := [.int (nI b)]) (rest := [.int (nI (b * s)), .ref ro, .ref rm]) ⟨hx, hb, hml, hown, ht⟩ (c_X0_length Ll D cI cL bk ro bw bs s (bL lo s) (bn lo s) b hbn (by omega) H.size) ⟨(va_cnB 1 ht g_X0_length rfl rfl rfl (nmu_16 hK) (ht _ iw_13) hd_X0_length ⟨Nat.le_of_ble_eq_true rfl, Nat.le_of_ble_eq_true rfl⟩), (ht _ iw_112), (ht _ iw_113)⟩ (ds_pV hPc hDc hK (q0 := 0) rfl rfl) rfl rfl hl.1 rfl (lv_room (Nat.le_of_ble_eq_true rfl)) dX4_makeDelta_104 ⟨Nat.le_of_ble_eq_true rfl, Nat.le_of_ble_eq_true rfl⟩) (fun r20 u21 H locs hp22 hP hD hS => ?_)
              have hP : va_P D vwCl [(d, .inr (4, [.ref ro, .ref rn, .ref rm, .ref bk, .ref uw, .ref lw, .ref tk, .int hd])), (ro, .inr (1, [.ref oo, .int (nI lo)])), (oo, .inl (cI, 1200, .inl fo)), (rn, .inr (1, [.ref qn, .int (nI ln)])), (qn, .inl (cI, 1200, .inl fn)), (rm, .inr (1, [.ref om, .int (nI p)])), (om, .inl (cI, 1200, .inl gm)), (bk, .inr (0, [.ref ro, .ref bw, .ref bs, .int (nI s), .int (nI (bL lo s)), .int (nI (bn lo s))])), (bw, .inl (cI, 300, .inl fw)), (bs, .inl (cL, 300, .inr (.inl fs))), (uw, .inr (3, [.ref rn, .int (nI s), .int (nI p), .int u6.1.1, .int u6.1.2.1, .int u6.1.2.2.1, .int u6.1.2.2.2.1, .long u6.1.2.2.2.2.1, .int u6.1.2.2.2.2.2])), (lw, .inr (3, [.ref rn, .int (nI (bL lo s)), .int (nI p), .int u6.2.1, .int u6.2.2.1, .int u6.2.2.2.1, .int u6.2.2.2.2.1, .long u6.2.2.2.2.2.1, .int u6.2.2.2.2.2.2])), (tk, .inr (2, [.ref tK, .ref tF, .ref tL, .int (nI u15.2.2.2)])), (tK, .inl (cI, 1200, .inl u15.1)), (tF, .inl (cI, 1200, .inl u15.2.1)), (tL, .inl (cI, 1200, .inl u15.2.2.1))] H := hP
              have hD : va_D A [(d, .inr (4, [.ref ro, .ref rn, .ref rm, .ref bk, .ref uw, .ref lw, .ref tk, .int hd])), (ro, .inr (1, [.ref oo, .int (nI lo)])), (oo, .inl (cI, 1200, .inl fo)), (rn, .inr (1, [.ref qn, .int (nI ln)])), (qn, .inl (cI, 1200, .inl fn)), (rm, .inr (1, [.ref om, .int (nI p)])), (om, .inl (cI, 1200, .inl gm)), (bk, .inr (0, [.ref ro, .ref bw, .ref bs, .int (nI s), .int (nI (bL lo s)), .int (nI (bn lo s))])), (bw, .inl (cI, 300, .inl fw)), (bs, .inl (cL, 300, .inr (.inl fs))), (uw, .inr (3, [.ref rn, .int (nI s), .int (nI p), .int u6.1.1, .int u6.1.2.1, .int u6.1.2.2.1, .int u6.1.2.2.2.1, .long u6.1.2.2.2.2.1, .int u6.1.2.2.2.2.2])), (lw, .inr (3, [.ref rn, .int (nI (bL lo s)), .int (nI p), .int u6.2.1, .int u6.2.2.1, .int u6.2.2.2.1, .int u6.2.2.2.2.1, .long u6.2.2.2.2.2.1, .int u6.2.2.2.2.2.2])), (tk, .inr (2, [.ref tK, .ref tF, .ref tL, .int (nI u15.2.2.2)])), (tK, .inl (cI, 1200, .inl u15.1)), (tF, .inl (cI, 1200, .inl u15.2.1)), (tL, .inl (cI, 1200, .inl u15.2.2.1))] := hD
              have hp22 : r20 = nI (if b + 1 = (bn lo s) then (bL lo s) else s) := hp22
              replace hp22 := Eq.symm hp22
              subst hp22
              refine ds_top (z := nI (bl lo s b)) rfl ?_
              refine ds_callv (wc := [(rm, .inr (1, [.ref om, .int (nI p)])), (om, .inl (cI, 1200, .inl gm)), (ro, .inr (1, [.ref oo, .int (nI lo)])), (oo, .inl (cI, 1200, .inl fo))]) (wr := [(d, .inr (4, [.ref ro, .ref rn, .ref rm, .ref bk, .ref uw, .ref lw, .ref tk, .int hd])), (rn, .inr (1, [.ref qn, .int (nI ln)])), (qn, .inl (cI, 1200, .inl fn)), (bk, .inr (0, [.ref ro, .ref bw, .ref bs, .int (nI s), .int (nI (bL lo s)), .int (nI (bn lo s))])), (bw, .inl (cI, 300, .inl fw)), (bs, .inl (cL, 300, .inr (.inl fs))), (uw, .inr (3, [.ref rn, .int (nI s), .int (nI p), .int u6.1.1, .int u6.1.2.1, .int u6.1.2.2.1, .int u6.1.2.2.2.1, .long u6.1.2.2.2.2.1, .int u6.1.2.2.2.2.2])), (lw, .inr (3, [.ref rn, .int (nI (bL lo s)), .int (nI p), .int u6.2.1, .int u6.2.2.1, .int u6.2.2.2.1, .int u6.2.2.2.2.1, .long u6.2.2.2.2.2.1, .int u6.2.2.2.2.2.2])), (tk, .inr (2, [.ref tK, .ref tF, .ref tL, .int (nI u15.2.2.2)])), (tK, .inl (cI, 1200, .inl u15.1)), (tF, .inl (cI, 1200, .inl u15.2.1)), (tL, .inl (cI, 1200, .inl u15.2.2.1))]) (wo := (fun u24 : Unit => [(rm, .inr (1, [.ref om, .int (nI (p + (bl lo s b)))])), (om, .inl (cI, 1200, .inl (va_cpy fo gm (b * s) p (bl lo s b)))), (ro, .inr (1, [.ref oo, .int (nI lo)])), (oo, .inl (cI, 1200, .inl fo))])) (wn := (fun u24 : Unit => [(d, .inr (4, [.ref ro, .ref rn, .ref rm, .ref bk, .ref uw, .ref lw, .ref tk, .int hd])), (ro, .inr (1, [.ref oo, .int (nI lo)])), (oo, .inl (cI, 1200, .inl fo)), (rn, .inr (1, [.ref qn, .int (nI ln)])), (qn, .inl (cI, 1200, .inl fn)), (rm, .inr (1, [.ref om, .int (nI (p + (bl lo s b)))])), (om, .inl (cI, 1200, .inl (va_cpy fo gm (b * s) p (bl lo s b)))), (bk, .inr (0, [.ref ro, .ref bw, .ref bs, .int (nI s), .int (nI (bL lo s)), .int (nI (bn lo s))])), (bw, .inl (cI, 300, .inl fw)), (bs, .inl (cL, 300, .inr (.inl fs))), (uw, .inr (3, [.ref rn, .int (nI s), .int (nI p), .int u6.1.1, .int u6.1.2.1, .int u6.1.2.2.1, .int u6.1.2.2.2.1, .long u6.1.2.2.2.2.1, .int u6.1.2.2.2.2.2])), (lw, .inr (3, [.ref rn, .int (nI (bL lo s)), .int (nI p), .int u6.2.1, .int u6.2.2.1, .int u6.2.2.2.1, .int u6.2.2.2.2.1, .long u6.2.2.2.2.2.1, .int u6.2.2.2.2.2.2])), (tk, .inr (2, [.ref tK, .ref tF, .ref tL, .int (nI u15.2.2.2)])), (tK, .inl (cI, 1200, .inl u15.1)), (tF, .inl (cI, 1200, .inl u15.2.1)), (tL, .inl (cI, 1200, .inl u15.2.2.1))])) (isC := [5, 6, 1, 2]) (isR := [0, 3, 4, 7, 8, 9, 10, 11, 12, 13, 14, 15]) hP hD hS hA ⟨rfl, rfl, by decide, by decide, by decide⟩ [0, 14, 15, 1, 2, 12, 13, 3, 4, 5, 6, 7, 8, 9, 10, 11] (by decide) (fun _ => rfl) (fun hPc hDc => va_runVN (As := [.ref ro, .int (nI (b * s)), .int (nI (bl lo s b))]) (rest := []) ⟨hx, hb, hml, hown, ht⟩ (c_X1_append Ll D cI cL rm om p gm ro oo lo fo (b * s) (bl lo s b) (by omega) (by omega) H.size) ⟨(va_cnB 3 ht g_X1_append rfl rfl rfl (nmu_11 hK) (ht _ iw_6) hd_X1_append ⟨Nat.le_of_ble_eq_true rfl, Nat.le_of_ble_eq_true rfl⟩), (ht _ iw_87), (ht _ iw_88)⟩ (ds_pV hPc hDc hK (q0 := 0) rfl rfl) rfl rfl hl.1 rfl (lv_room (Nat.le_of_ble_eq_true rfl)) dX4_makeDelta_107 ⟨Nat.le_of_ble_eq_true rfl, Nat.le_of_ble_eq_true rfl⟩) (fun u24 H locs hp25 hP hD hS => ?_)
              have hP : va_P D vwCl [(d, .inr (4, [.ref ro, .ref rn, .ref rm, .ref bk, .ref uw, .ref lw, .ref tk, .int hd])), (ro, .inr (1, [.ref oo, .int (nI lo)])), (oo, .inl (cI, 1200, .inl fo)), (rn, .inr (1, [.ref qn, .int (nI ln)])), (qn, .inl (cI, 1200, .inl fn)), (rm, .inr (1, [.ref om, .int (nI (p + (bl lo s b)))])), (om, .inl (cI, 1200, .inl (va_cpy fo gm (b * s) p (bl lo s b)))), (bk, .inr (0, [.ref ro, .ref bw, .ref bs, .int (nI s), .int (nI (bL lo s)), .int (nI (bn lo s))])), (bw, .inl (cI, 300, .inl fw)), (bs, .inl (cL, 300, .inr (.inl fs))), (uw, .inr (3, [.ref rn, .int (nI s), .int (nI p), .int u6.1.1, .int u6.1.2.1, .int u6.1.2.2.1, .int u6.1.2.2.2.1, .long u6.1.2.2.2.2.1, .int u6.1.2.2.2.2.2])), (lw, .inr (3, [.ref rn, .int (nI (bL lo s)), .int (nI p), .int u6.2.1, .int u6.2.2.1, .int u6.2.2.2.1, .int u6.2.2.2.2.1, .long u6.2.2.2.2.2.1, .int u6.2.2.2.2.2.2])), (tk, .inr (2, [.ref tK, .ref tF, .ref tL, .int (nI u15.2.2.2)])), (tK, .inl (cI, 1200, .inl u15.1)), (tF, .inl (cI, 1200, .inl u15.2.1)), (tL, .inl (cI, 1200, .inl u15.2.2.1))] H := hP
              have hD : va_D A [(d, .inr (4, [.ref ro, .ref rn, .ref rm, .ref bk, .ref uw, .ref lw, .ref tk, .int hd])), (ro, .inr (1, [.ref oo, .int (nI lo)])), (oo, .inl (cI, 1200, .inl fo)), (rn, .inr (1, [.ref qn, .int (nI ln)])), (qn, .inl (cI, 1200, .inl fn)), (rm, .inr (1, [.ref om, .int (nI (p + (bl lo s b)))])), (om, .inl (cI, 1200, .inl (va_cpy fo gm (b * s) p (bl lo s b)))), (bk, .inr (0, [.ref ro, .ref bw, .ref bs, .int (nI s), .int (nI (bL lo s)), .int (nI (bn lo s))])), (bw, .inl (cI, 300, .inl fw)), (bs, .inl (cL, 300, .inr (.inl fs))), (uw, .inr (3, [.ref rn, .int (nI s), .int (nI p), .int u6.1.1, .int u6.1.2.1, .int u6.1.2.2.1, .int u6.1.2.2.2.1, .long u6.1.2.2.2.2.1, .int u6.1.2.2.2.2.2])), (lw, .inr (3, [.ref rn, .int (nI (bL lo s)), .int (nI p), .int u6.2.1, .int u6.2.2.1, .int u6.2.2.2.1, .int u6.2.2.2.2.1, .long u6.2.2.2.2.2.1, .int u6.2.2.2.2.2.2])), (tk, .inr (2, [.ref tK, .ref tF, .ref tL, .int (nI u15.2.2.2)])), (tK, .inl (cI, 1200, .inl u15.1)), (tF, .inl (cI, 1200, .inl u15.2.1)), (tL, .inl (cI, 1200, .inl u15.2.2.1))] := hD
              have hp25 : True := hp25
              refine lv_iload_n hx hb dX4_makeDelta_110 rfl (lv_at hl 3 rfl) ?_
              refine lv_aload_n hx hb dX4_makeDelta_111 rfl (lv_at hl 1 rfl) ?_
              refine va_get (D := D) (ci := 4) (v := .ref bk) (C := RX4) (T := TX4) (N := 8) hx hb ht inA_X4 hown hK.1 hP 0 rfl rfl 3 (by decide) (ht _ iw_15) (fun _ h9 => h9) rfl dX4_makeDelta_112 ?_
              refine lv_iload hx hb dX4_makeDelta_115 (lv_at hl 0 rfl) ?_
              refine ds_calli (wc := [(bk, .inr (0, [.ref ro, .ref bw, .ref bs, .int (nI s), .int (nI (bL lo s)), .int (nI (bn lo s))]))]) (wr := [(d, .inr (4, [.ref ro, .ref rn, .ref rm, .ref bk, .ref uw, .ref lw, .ref tk, .int hd])), (ro, .inr (1, [.ref oo, .int (nI lo)])), (oo, .inl (cI, 1200, .inl fo)), (rn, .inr (1, [.ref qn, .int (nI ln)])), (qn, .inl (cI, 1200, .inl fn)), (rm, .inr (1, [.ref om, .int (nI (p + (bl lo s b)))])), (om, .inl (cI, 1200, .inl (va_cpy fo gm (b * s) p (bl lo s b)))), (bw, .inl (cI, 300, .inl fw)), (bs, .inl (cL, 300, .inr (.inl fs))), (uw, .inr (3, [.ref rn, .int (nI s), .int (nI p), .int u6.1.1, .int u6.1.2.1, .int u6.1.2.2.1, .int u6.1.2.2.2.1, .long u6.1.2.2.2.2.1, .int u6.1.2.2.2.2.2])), (lw, .inr (3, [.ref rn, .int (nI (bL lo s)), .int (nI p), .int u6.2.1, .int u6.2.2.1, .int u6.2.2.2.1, .int u6.2.2.2.2.1, .long u6.2.2.2.2.2.1, .int u6.2.2.2.2.2.2])), (tk, .inr (2, [.ref tK, .ref tF, .ref tL, .int (nI u15.2.2.2)])), (tK, .inl (cI, 1200, .inl u15.1)), (tF, .inl (cI, 1200, .inl u15.2.1)), (tL, .inl (cI, 1200, .inl u15.2.2.1))]) (wo := (fun u27 : Unit => [(bk, .inr (0, [.ref ro, .ref bw, .ref bs, .int (nI s), .int (nI (bL lo s)), .int (nI (bn lo s))]))])) (wn := (fun u27 : Unit => [(d, .inr (4, [.ref ro, .ref rn, .ref rm, .ref bk, .ref uw, .ref lw, .ref tk, .int hd])), (ro, .inr (1, [.ref oo, .int (nI lo)])), (oo, .inl (cI, 1200, .inl fo)), (rn, .inr (1, [.ref qn, .int (nI ln)])), (qn, .inl (cI, 1200, .inl fn)), (rm, .inr (1, [.ref om, .int (nI (p + (bl lo s b)))])), (om, .inl (cI, 1200, .inl (va_cpy fo gm (b * s) p (bl lo s b)))), (bk, .inr (0, [.ref ro, .ref bw, .ref bs, .int (nI s), .int (nI (bL lo s)), .int (nI (bn lo s))])), (bw, .inl (cI, 300, .inl fw)), (bs, .inl (cL, 300, .inr (.inl fs))), (uw, .inr (3, [.ref rn, .int (nI s), .int (nI p), .int u6.1.1, .int u6.1.2.1, .int u6.1.2.2.1, .int u6.1.2.2.2.1, .long u6.1.2.2.2.2.1, .int u6.1.2.2.2.2.2])), (lw, .inr (3, [.ref rn, .int (nI (bL lo s)), .int (nI p), .int u6.2.1, .int u6.2.2.1, .int u6.2.2.2.1, .int u6.2.2.2.2.1, .long u6.2.2.2.2.2.1, .int u6.2.2.2.2.2.2])), (tk, .inr (2, [.ref tK, .ref tF, .ref tL, .int (nI u15.2.2.2)])), (tK, .inl (cI, 1200, .inl u15.1)), (tF, .inl (cI, 1200, .inl u15.2.1)), (tL, .inl (cI, 1200, .inl u15.2.2.1))])) (isC := [7]) (isR := [0, 1, 2, 3, 4, 5, 6, 8, 9, 10, 11, 12, 13, 14, 15]) hP hD hS hA ⟨rfl, rfl, by decide, by decide, by decide⟩ [0, 1, 2, 3, 4, 5, 6, 15, 7, 8, 9, 10, 11, 12, 13, 14] (by decide) (fun _ => rfl) (fun hPc hDc => va_runVN (As := [.int (nI b)]) (rest := [.int (nI p)]) ⟨hx, hb, hml, hown, ht⟩ (c_X0_length Ll D cI cL bk ro bw bs s (bL lo s) (bn lo s) b hbn (by omega) H.size) ⟨(va_cnB 1 ht g_X0_length rfl rfl rfl (nmu_16 hK) (ht _ iw_13) hd_X0_length ⟨Nat.le_of_ble_eq_true rfl, Nat.le_of_ble_eq_true rfl⟩), (ht _ iw_112), (ht _ iw_113)⟩ (ds_pV hPc hDc hK (q0 := 0) rfl rfl) rfl rfl hl.1 rfl (lv_room (Nat.le_of_ble_eq_true rfl)) dX4_makeDelta_117 ⟨Nat.le_of_ble_eq_true rfl, Nat.le_of_ble_eq_true rfl⟩) (fun r26 u27 H locs hp28 hP hD hS => ?_)
              have hP : va_P D vwCl [(d, .inr (4, [.ref ro, .ref rn, .ref rm, .ref bk, .ref uw, .ref lw, .ref tk, .int hd])), (ro, .inr (1, [.ref oo, .int (nI lo)])), (oo, .inl (cI, 1200, .inl fo)), (rn, .inr (1, [.ref qn, .int (nI ln)])), (qn, .inl (cI, 1200, .inl fn)), (rm, .inr (1, [.ref om, .int (nI (p + (bl lo s b)))])), (om, .inl (cI, 1200, .inl (va_cpy fo gm (b * s) p (bl lo s b)))), (bk, .inr (0, [.ref ro, .ref bw, .ref bs, .int (nI s), .int (nI (bL lo s)), .int (nI (bn lo s))])), (bw, .inl (cI, 300, .inl fw)), (bs, .inl (cL, 300, .inr (.inl fs))), (uw, .inr (3, [.ref rn, .int (nI s), .int (nI p), .int u6.1.1, .int u6.1.2.1, .int u6.1.2.2.1, .int u6.1.2.2.2.1, .long u6.1.2.2.2.2.1, .int u6.1.2.2.2.2.2])), (lw, .inr (3, [.ref rn, .int (nI (bL lo s)), .int (nI p), .int u6.2.1, .int u6.2.2.1, .int u6.2.2.2.1, .int u6.2.2.2.2.1, .long u6.2.2.2.2.2.1, .int u6.2.2.2.2.2.2])), (tk, .inr (2, [.ref tK, .ref tF, .ref tL, .int (nI u15.2.2.2)])), (tK, .inl (cI, 1200, .inl u15.1)), (tF, .inl (cI, 1200, .inl u15.2.1)), (tL, .inl (cI, 1200, .inl u15.2.2.1))] H := hP
              have hD : va_D A [(d, .inr (4, [.ref ro, .ref rn, .ref rm, .ref bk, .ref uw, .ref lw, .ref tk, .int hd])), (ro, .inr (1, [.ref oo, .int (nI lo)])), (oo, .inl (cI, 1200, .inl fo)), (rn, .inr (1, [.ref qn, .int (nI ln)])), (qn, .inl (cI, 1200, .inl fn)), (rm, .inr (1, [.ref om, .int (nI (p + (bl lo s b)))])), (om, .inl (cI, 1200, .inl (va_cpy fo gm (b * s) p (bl lo s b)))), (bk, .inr (0, [.ref ro, .ref bw, .ref bs, .int (nI s), .int (nI (bL lo s)), .int (nI (bn lo s))])), (bw, .inl (cI, 300, .inl fw)), (bs, .inl (cL, 300, .inr (.inl fs))), (uw, .inr (3, [.ref rn, .int (nI s), .int (nI p), .int u6.1.1, .int u6.1.2.1, .int u6.1.2.2.1, .int u6.1.2.2.2.1, .long u6.1.2.2.2.2.1, .int u6.1.2.2.2.2.2])), (lw, .inr (3, [.ref rn, .int (nI (bL lo s)), .int (nI p), .int u6.2.1, .int u6.2.2.1, .int u6.2.2.2.1, .int u6.2.2.2.2.1, .long u6.2.2.2.2.2.1, .int u6.2.2.2.2.2.2])), (tk, .inr (2, [.ref tK, .ref tF, .ref tL, .int (nI u15.2.2.2)])), (tK, .inl (cI, 1200, .inl u15.1)), (tF, .inl (cI, 1200, .inl u15.2.1)), (tL, .inl (cI, 1200, .inl u15.2.2.1))] := hD
              have hp28 : r26 = nI (if b + 1 = (bn lo s) then (bL lo s) else s) := hp28
              replace hp28 := Eq.symm hp28
              subst hp28
              refine ds_top (z := nI (bl lo s b)) rfl ?_
              refine lv_iadd hx hb dX4_makeDelta_120 ?_
              refine ds_top (z := nI (p + (bl lo s b))) (nI_add _ _) ?_
              refine lv_istore_n (lv' := [(3, .int (nI (p + (bl lo s b)))), (6, .int (nI b)), (0, .ref d), (1, .long mk), (4, .int (oI bf)), (5, .int (nI i))]) hx hb dX4_makeDelta_121 rfl hl (Nat.le_of_ble_eq_true rfl) rfl (fun ls hl => ?_)
              refine lv_iload hx hb dX4_makeDelta_122 (lv_at hl 1 rfl) ?_
              refine lv_istore (lv' := [(4, .int (nI b)), (3, .int (nI (p + (bl lo s b)))), (6, .int (nI b)), (0, .ref d), (1, .long mk), (5, .int (nI i))]) hx hb dX4_makeDelta_124 hl (Nat.le_of_ble_eq_true rfl) rfl (fun ls hl => ?_)
              refine lv_iinc (k := 5) (v := nI (i + 1)) (lv' := [(5, .int (nI (i + 1))), (4, .int (nI b)), (3, .int (nI (p + (bl lo s b)))), (6, .int (nI b)), (0, .ref d), (1, .long mk)]) hx hb dX4_makeDelta_126 hl rfl (by rw [nI_succ]; rfl) (Nat.le_of_ble_eq_true rfl) rfl (fun ls hl => ?_)
              refine lv_goto (tgt := 8) hx hb dX4_makeDelta_129 (by decide) ?_
              exact ih3 (p + bl lo s b) (i + 1) u15.2.2.2 (some b) u15.1 u15.2.1 u15.2.2.1 (va_cpy fo gm (b * s) p (bl lo s b)) (nI p) u6.1.1 u6.1.2.1 u6.1.2.2.1 u6.1.2.2.2.1 u6.1.2.2.2.2.1 u6.1.2.2.2.2.2 (nI p) u6.2.1 u6.2.2.1 u6.2.2.2.1 u6.2.2.2.2.1 u6.2.2.2.2.2.1 u6.2.2.2.2.2.2 H locs ls (by omega) (by omega) (by rw [hp16]; exact Nat.le_trans tk_add_c (by omega)) (fun b9 h9 => by cases h9; omega) hI1 hI2 (by rw [hp16]; have e := dl_go (fo := fo) (fn := fn) (lo := lo) (ln := ln) (s := s) (mk := mk) (t := (p, bf, (gk, gf, gl, c), gm)) (i := i) (by show p < ln; omega) (by omega); rw [dl_some hpk] at e; exact e.symm.trans hrun) (by omega) hP hD hS (lv_sub hl [4, 5, 2, 1, 0] rfl)
            ·
              exact absurd h0 (ds_nm1 (by omega))
  exact loop1 _ 0 0 0 none fk ff fl fm upl ui ua ub uk ut uy lpl li la lb lk lt ly H locs ls (Nat.le_refl _) (Nat.zero_le _) (Nat.le_refl _) (fun _ h9 => by cases h9) hui hli rfl (Nat.lt_succ_self _) hP hD hS (lv_sub hl [3, 4, 2, 1, 0] rfl)
end
