section
/-! ===== BEGIN words of one list among another's, by their places ===== -/
theorem goodIn_r {big : List Cond} (ws : List Cond) (ps : List Nat) (hp : ws = ps.filterMap (fun i => big[i]?)) (h : ws.all goodWord = true) : GoodIn big ws := by
  intro w hw
  have h1 := List.all_eq_true.mp h w hw
  rw [hp] at hw
  obtain ⟨i, -, hi⟩ := List.mem_filterMap.mp hw
  have hm : w ∈ big := by first | exact List.mem_of_getElem? hi | exact List.getElem?_mem hi
  exact ⟨hm, good_of_word h1⟩
theorem goodIn_app {big a b : List Cond} (ha : GoodIn big a) (hb : GoodIn big b) : GoodIn big (a ++ b) := fun w h => (List.mem_append.mp h).elim (ha w) (hb w)
theorem goodIn_ca {big a b : List Cond} {c : Cond} (ha : GoodIn big (c :: a)) (hb : GoodIn big b) : GoodIn big (c :: (a ++ b)) := fun w h => (List.mem_cons.mp h).elim (fun e => ha w (List.mem_cons.mpr (Or.inl e))) (fun h => (List.mem_append.mp h).elim (fun h => ha w (List.mem_cons.mpr (Or.inr h))) (hb w))
theorem goodIn_sub {big ws : List Cond} (hm : ∀ w ∈ ws, w ∈ big) (h : ws.all goodWord = true) : GoodIn big ws := fun w hw => ⟨hm w hw, good_of_word (List.all_eq_true.mp h w hw)⟩
/-! ===== END ===== -/

/-! ===== BEGIN exceptions that leave a method, and their catching by the caller (launches without stack traces) ===== -/
section VXA
/-! The laws vx_back, vx_callV, vx_callS, vx_callSW, vx_throw0, vx_throwS follow proofs of the library, with one case more: JvmDerived/Free/Laws.lean (Back.of_free), Shelf42/LK1.lean (callV, callS), Shelf/KitTraced.lean (throwNew0V, throwNewS). -/
/-- where a method has thrown q: the class by its name, the cell, what was written, the world -/
def vx_T (XC : String → State → State → Prop) (st : State) (q : Addr) (t : State) (mc ms : Nat) (free : Addr → Prop) : Prop :=
  ∃ (E : String) (ce : Cell) (L : List Loc), XC E st t ∧ t.heap[q]? = some ce ∧ ce.vm = .none ∧ st.vm.findClass E = some ce.cls ∧ st.WarmedH t.vm ∧ st.sameButNew ({ t with vm := st.vm } : State) L mc ms ∧ ∀ z ∈ L, free z.base
def vx_Q (Qc : Array Value → State → Outcome → State → Prop) (XC : String → State → State → Prop) (mc ms : Nat) (free : Addr → Prop) : Array Value → State → Outcome → State → Prop := fun a st o t =>
  (Qc a st o t ∧ ∃ L, FrameEnd st o t L mc ms ∧ ∀ q ∈ L, free q.base) ∨ ∃ q, o = .threw q ∧ vx_T XC st q t mc ms free
/-- a callee that returns or throws -/
def vx_Met (l : Launch) (y : MethodName) (ws : List Cond) (rm : Room) (Pc : Array Value → State → Prop) (Qc : Array Value → State → Outcome → State → Prop) (XC : String → State → State → Prop) (mc ms : Nat) (free : Addr → Prop) : Prop :=
  MetFree l y (headSpec ws rm) Pc (fun _ _ _ _ _ => True) (vx_Q Qc XC mc ms free)
def vx_Post (XC : String → State → State → Prop) (mc ms : Nat) (free : Addr → Prop) : Pt → Array Value → Addr → Pt → Prop := fun A a q B =>
  ∃ (g : JFrame) (mk : MethodId) (t : State) (L : List Loc) (E : String) (ce : Cell), B.U.heap = t.heap ∧ B.U.vm = t.vm ∧ XC E (A.U.calling g mk a) t ∧ t.heap[q]? = some ce ∧ ce.vm = .none ∧ A.U.vm.findClass E = some ce.cls ∧ B.locs = A.locs ++ L ∧ (∀ z ∈ L, free z.base) ∧ B.cells = A.cells + mc ∧ B.slots = A.slots + ms
def vx_Back (l : Launch) (R : Room) (p : Program) (e : Env) (below : List Frame) (s : State) (sargs : Array Value) (y : MethodName) (len W9 : Nat)
    (Pre : Pt → Array Value → Prop) (Post : Pt → Array Value → Option Value → Pt → Prop) (PostX : Pt → Array Value → Addr → Pt → Prop) : Prop :=
  ∀ (m : MethodId) (meth : Method) (c : Code) (A : Pt) (g : JFrame) (ig : Instr) (mk : MethodId) (a : Array Value),
    Stand p l e R s m sargs below meth c A.U A.locs A.cells A.slots → g.method = m → g.locals.size = c.maxLocals → decode c.code g.pc = .ok (ig, len) →
    2 * g.monitorRoom + (g.stack.map fun v => v.category).sum ≤ W9 → A.U.methodNamed? y = some mk → Pre A a →
    (∃ (v : Option Value) (B : Pt), Stand p l e R s m sargs below meth c B.U B.locs B.cells B.slots ∧ Post A a v B ∧
      Steps p.tables e below (doInvoke e (A.U.setTop g) [] mk a).1 (B.U.setTop { g with pc := g.pc + len, stack := v.toList ++ g.stack })) ∨
    (∃ (q : Addr) (B : Pt), Stand p l e R s m sargs below meth c B.U B.locs B.cells B.slots ∧ PostX A a q B ∧
      Steps p.tables e below (doInvoke e (A.U.setTop g) [] mk a).1 ((B.U.setTop g).pushFrame (.throwing q)))
section Payer
variable {l : Launch} {R : Room} {p : Program} {e : Env} {below : List Frame} {s : State} {sargs : Array Value} {y : MethodName} {len W9 : Nat}
theorem vx_back {ws : List Cond} {rm : Room} {Pc : Array Value → State → Prop} {Qc : Array Value → State → Outcome → State → Prop} {XC : String → State → State → Prop} {mc ms : Nat} {free : Addr → Prop} {bytes : ByteArray} {maxL : Nat} {ret : Option FieldType}
    (hM : vx_Met l y ws rm Pc Qc XC mc ms free) (hblind : FrameBlind Pc) (hrc : rm.cells = mc) (hrs : rm.slots = ms)
    (hframes : rm.frames + 1 ≤ R.frames) (hlocals : W9 + (maxL + 11) + rm.locals ≤ R.locals)
    (hws : ∀ w ∈ ws, ∀ a' U, s.WarmedH U.vm → w.before a' U = true) (hcode : Cond.code y bytes maxL ret ∈ ws) (hinit : ∀ a' U, s.WarmedH U.vm → (Cond.initialized y.cls).before a' U = true) :
    vx_Back l R p e below s sargs y len W9 (PreOf R mc ms Pc) (PostOf Qc mc ms free) (vx_Post XC mc ms free) := by
  intro m meth c A g ig mk a X hg hsize hdg hW hn hp
  have h1 : (headSpec ws rm).pre.before a A.U = true := atoms_intro fun w hw => hws w hw _ _ X.warmed
  have h2 : (Cond.code y bytes maxL ret).before a A.U = true := hws _ hcode _ _ X.warmed
  have h3 : (Cond.initialized y.cls).before a A.U = true := hinit _ _ X.warmed
  have h4 : A.cells + (headSpec ws rm).room.cells ≤ R.cells := by rw [show (headSpec ws rm).room.cells = mc from hrc]; exact hp.1
  have h5 : A.slots + (headSpec ws rm).room.slots ≤ R.slots := by rw [show (headSpec ws rm).room.slots = ms from hrs]; exact hp.2.1
  have hPc : Pc a (A.U.calling g mk a) := hblind _ _ _ _ hp.2.2
  obtain ⟨U, Ls, c0, s0⟩ := A
  dsimp only [Pt.U, Pt.locs, Pt.cells, Pt.slots] at h1 h2 h3 h4 h5 X hn hPc ⊢
  obtain ⟨methY, cY, hmY, hcY, -, hlY, -, -, -, -⟩ := Cond.code_spec hn h2
  obtain ⟨kY, hkY, -⟩ := className_of_methodNamed hn
  have hinitY : kY.init = .initialized := Cond.initialized_spec (findClass_of_methodNamed hn) hkY h3
  have h : At U g.method c below := by rw [hg]; exact X.here
  have hlocals9 : W9 + (maxL + 11) + (headSpec ws rm).room.locals ≤ R.locals := hlocals
  have happ : (headSpec ws rm).appliesLoose y e.platform (U.calling g mk a) = true :=
    Spec.appliesLoose_calling (g := g) h hdg hn hkY hinitY
      (X.room_calling (g := g) (R' := (headSpec ws rm).room) hsize hmY hcY hframes (by rw [hlY]; omega) h4 h5) h1
  obtain ⟨mid, hmid⟩ := h.above
  have hfr : (U.setTop g).frames = (.java g :: mid) ++ below := by rw [State.frames_setTop' g h.top, hmid]; rfl
  obtain ⟨o, s₂, hsteps, -, hend, hq⟩ := Steps.callFree hM p X.admits X.cas X.clock (acts := []) hfr happ hPc trivial
  have hq' : vx_Q Qc XC mc ms free a (U.calling g mk a) o s₂ := hq
  rw [State.frames_setTop' g h.top] at hend
  obtain ⟨g₀, hg0⟩ := Option.isSome_iff_exists.mp h.top
  obtain ⟨r, hr⟩ := State.topJava?_eq_some.mp hg0
  have hr' : (({ U with heap := s₂.heap, slotsUsed := s₂.slotsUsed } : State).setVm s₂.vm).frames = .java g₀ :: r := hr
  rcases hq' with ⟨hqc, L, hfe, hL⟩ | ⟨q, rfl, E, ce, L, hx, hce, hcv, hcl, hW₂, hsm, hL⟩
  · obtain ⟨⟨v, rfl⟩, hW₂, e2, q2, q3, q4, q5, q6⟩ := id hfe
    have e3 : s₂ = ({ (U.calling g mk a).setFrames s₂.frames with heap := s₂.heap, slotsUsed := s₂.slotsUsed } : State).setVm s₂.vm := by
      have : s₂ = ({ s₂ with vm := (U.calling g mk a).vm } : State).setVm s₂.vm := rfl
      rw [e2] at this
      exact this
    obtain ⟨c₂, i₂, len₂, hc₂, hd₂, hf₂⟩ := hend
    have hW' : U.WarmedH s₂.vm := hW₂
    have hcc : c₂ = c := by
      have h1 : s₂.code? g.method = U.code? g.method := by
        rw [State.code?_eq, State.code?_eq, hW'.alike.method?]
      exact Option.some.inj (hc₂.symm.trans (h1.trans h.code))
    subst hcc
    have hlen : len₂ = len := by rw [hdg] at hd₂; cases hd₂; rfl
    subst hlen
    have hs₂ : s₂ = (({ U with heap := s₂.heap, slotsUsed := s₂.slotsUsed } : State).setVm s₂.vm).setTop { g with pc := g.pc + len₂, stack := v.toList ++ g.stack } := by
      refine e3.trans ?_
      rw [hf₂, State.calling_eq h.top, State.setFrames_setFrames, State.setTop_of_frames _ hr', hr]
      rfl
    have hsame : U.sameButNew ({ U with heap := s₂.heap, slotsUsed := s₂.slotsUsed } : State) L mc ms := by
      refine ⟨?_, q2, q3, q4, q5, q6⟩
      obtain ⟨t, ht, -⟩ := State.frames_cons hr
      show ({ U with heap := s₂.heap, slotsUsed := s₂.slotsUsed } : State) = { U.setFrames U.frames with heap := s₂.heap, slotsUsed := s₂.slotsUsed }
      rw [State.setFrames_self ht]
    subst hg
    refine Or.inl ⟨v, ⟨(({ U with heap := s₂.heap, slotsUsed := s₂.slotsUsed } : State).setVm s₂.vm), Ls ++ L, c0 + mc, s0 + ms⟩,
      ⟨X.admits, X.cas, X.clock, X.frames, X.room, X.hears, X.method, X.code, (X.here.setHeapUsed s₂.heap s₂.slotsUsed).setVm hW'.alike, X.tail, State.WarmedH.trans X.warmed hW', X.limits, X.bytes, X.same.trans (hsame.setVm s.vm)⟩,
      ⟨g, mk, s₂, L, rfl, rfl, hqc, rfl, hL, rfl, rfl⟩, ?_⟩
    show Steps p.tables e below _ ((({ U with heap := s₂.heap, slotsUsed := s₂.slotsUsed } : State).setVm s₂.vm).setTop { g with pc := g.pc + len₂, stack := v.toList ++ g.stack })
    rw [← hs₂]
    exact hsteps
  · obtain ⟨e2, q2, q3, q4, q5, q6⟩ := id hsm
    have e3 : s₂ = ({ (U.calling g mk a).setFrames s₂.frames with heap := s₂.heap, slotsUsed := s₂.slotsUsed } : State).setVm s₂.vm := by
      have : s₂ = ({ s₂ with vm := (U.calling g mk a).vm } : State).setVm s₂.vm := rfl
      rw [e2] at this
      exact this
    have hf₂ : s₂.frames = .throwing q :: .java g :: U.frames.tail := hend
    have hW' : U.WarmedH s₂.vm := hW₂
    have hs₂ : s₂ = ((({ U with heap := s₂.heap, slotsUsed := s₂.slotsUsed } : State).setVm s₂.vm).setTop g).pushFrame (.throwing q) := by
      refine e3.trans ?_
      rw [hf₂, State.calling_eq h.top, State.setFrames_setFrames, State.pushFrame, State.frames_setTop _ hr', State.setTop_of_frames _ hr', State.setFrames_setFrames, hr]
      rfl
    have hsame : U.sameButNew ({ U with heap := s₂.heap, slotsUsed := s₂.slotsUsed } : State) L mc ms := by
      refine ⟨?_, q2, q3, q4, q5, q6⟩
      obtain ⟨t, ht, -⟩ := State.frames_cons hr
      show ({ U with heap := s₂.heap, slotsUsed := s₂.slotsUsed } : State) = { U.setFrames U.frames with heap := s₂.heap, slotsUsed := s₂.slotsUsed }
      rw [State.setFrames_self ht]
    subst hg
    refine Or.inr ⟨q, ⟨(({ U with heap := s₂.heap, slotsUsed := s₂.slotsUsed } : State).setVm s₂.vm), Ls ++ L, c0 + mc, s0 + ms⟩,
      ⟨X.admits, X.cas, X.clock, X.frames, X.room, X.hears, X.method, X.code, (X.here.setHeapUsed s₂.heap s₂.slotsUsed).setVm hW'.alike, X.tail, State.WarmedH.trans X.warmed hW', X.limits, X.bytes, X.same.trans (hsame.setVm s.vm)⟩,
      ⟨g, mk, s₂, L, E, ce, rfl, rfl, hx, hce, hcv, hcl, rfl, hL, rfl, rfl⟩, ?_⟩
    show Steps p.tables e below _ (((({ U with heap := s₂.heap, slotsUsed := s₂.slotsUsed } : State).setVm s₂.vm).setTop g).pushFrame (.throwing q))
    rw [← hs₂]
    exact hsteps
end Payer
section Calls
variable {p : Program} {l : Launch} {e : Env} {R : Room} {s : State} {m : MethodId} {args : Array Value} {below : List Frame} {meth : Method} {c : Code} {T : State} {locs : List Loc} {cells slots : Nat}
theorem vx_callV (X : Stand p l e R s m args below meth c T locs cells slots) (hexec : p.tables.exec = Jvm.exec) {own C : String} {index : Nat} {y : MethodName} {bytes : ByteArray} {maxL : Nat} {ret : Option FieldType}
    (hown : s.vm.findClass own = some m.cls) (hlink : (Cond.methodLink own index y).before args s = true) (hinst : (Cond.instanceMethod y).before args s = true) (hsel : (Cond.selects C y y).before args s = true)
    (hcode : (Cond.code y bytes maxL ret).before args s = true) (hy : y.cls ≠ "java/lang/invoke/MethodHandle" ∧ y.cls ≠ "java/lang/invoke/VarHandle")
    {W9 : Nat} {Pre : Pt → Array Value → Prop} {Post : Pt → Array Value → Option Value → Pt → Prop} {PostX : Pt → Array Value → Addr → Pt → Prop} (hK : vx_Back l R p e below s args y 3 W9 Pre Post PostX)
    {b : Addr} {cellB : Cell} (hcell : T.heap[b]? = some cellB) (hobj : cellB.vm.isStatics = false) (hcls : s.vm.findClass C = some cellB.cls)
    {g : JFrame} (hg : g.method = m) (hsize : g.locals.size = c.maxLocals) {argsL rest : List Value} (hlen : ∀ sig, parseMethodDescriptor y.desc = some sig → argsL.length = sig.parameters.length)
    (hstack : g.stack = argsL.reverse ++ .ref b :: rest) (hW : 2 * g.monitorRoom + (rest.map fun v => v.category).sum ≤ W9) (hdg : decode c.code g.pc = .ok (.invokevirtual index, 3))
    (hpre : ∀ vm₁, s.WarmedH vm₁ → Pre ⟨T.setVm vm₁, locs, cells, slots⟩ (Value.ref b :: argsL).toArray) :
    (∃ (v : Option Value) (vm₁ : Vm) (B : Pt), s.WarmedH vm₁ ∧ Stand p l e R s m args below meth c B.U B.locs B.cells B.slots ∧ Post ⟨T.setVm vm₁, locs, cells, slots⟩ (Value.ref b :: argsL).toArray v B ∧
      ∀ target, Steps p.tables e below (B.U.setTop { g with pc := g.pc + 3, stack := v.toList ++ rest }) target → Steps p.tables e below (T.setTop g) target) ∨
    (∃ (q : Addr) (vm₁ : Vm) (B : Pt), s.WarmedH vm₁ ∧ Stand p l e R s m args below meth c B.U B.locs B.cells B.slots ∧ PostX ⟨T.setVm vm₁, locs, cells, slots⟩ (Value.ref b :: argsL).toArray q B ∧
      Steps p.tables e below (T.setTop g) ((B.U.setTop { g with stack := rest }).pushFrame (.throwing q))) := by
  obtain ⟨mk, methM, hnamed, hmethM, hstM, habM⟩ := Cond.instanceMethod_spec hinst
  obtain ⟨methM', cM, hmethM', -, -, -, -, -, -, hsigM⟩ := Cond.code_spec hnamed hcode
  cases hmethM.symm.trans hmethM'
  obtain ⟨c2, r2, m2, q1, q2, q3, q4, kP, hkP, hkPi⟩ := Cond.selects_spec hsel
  cases hcls.symm.trans q1
  cases (State.methodFound?_of_named hnamed hy).symm.trans q2
  cases hnamed.symm.trans q3
  have hselP : selectMethod e.platform s.vm cellB.cls mk = .method mk := by rw [Launch.admits_selectMethod X.admits]; exact q4
  obtain ⟨vm₁, X₁, hstep₁⟩ := X.invokevirtual hexec hown hlink hnamed hmethM hstM hkP hkPi hy (a := b) (cell := cellB) hcell
    (fun z h => by rw [h] at hobj; cases hobj) hselP hmethM habM hkP hkPi (g := g) hg (argsL := argsL) (rest := rest) (hlen _ hsigM) hstack hdg
  rcases hK m meth c ⟨T.setVm vm₁, locs, cells, slots⟩ { g with stack := rest } (.invokevirtual index) mk (Value.ref b :: argsL).toArray X₁ hg hsize hdg hW (X₁.named hnamed) (hpre vm₁ X₁.warmed) with ⟨v, B, X', hpost, hsteps⟩ | ⟨q, B, X', hpost, hsteps⟩
  · exact Or.inl ⟨v, vm₁, B, X₁.warmed, X', hpost, fun target h => hstep₁ _ fun acts => by rw [doInvoke_state]; exact hsteps.trans h⟩
  · exact Or.inr ⟨q, vm₁, B, X₁.warmed, X', hpost, hstep₁ _ fun acts => by rw [doInvoke_state]; exact hsteps⟩
theorem vx_callS (X : Stand p l e R s m args below meth c T locs cells slots) (hexec : p.tables.exec = Jvm.exec) {own : String} {index : Nat} {y : MethodName} {bytes : ByteArray} {maxL : Nat} {ret : Option FieldType}
    (hown : s.vm.findClass own = some m.cls) (hlink : (Cond.methodLink own index y).before args s = true) (hstat : (Cond.static y).before args s = true) (hinit : (Cond.initialized y.cls).before args s = true)
    (hcode : (Cond.code y bytes maxL ret).before args s = true) (hy : y.cls ≠ "java/lang/invoke/MethodHandle" ∧ y.cls ≠ "java/lang/invoke/VarHandle")
    {W9 : Nat} {Pre : Pt → Array Value → Prop} {Post : Pt → Array Value → Option Value → Pt → Prop} {PostX : Pt → Array Value → Addr → Pt → Prop} (hK : vx_Back l R p e below s args y 3 W9 Pre Post PostX)
    {g : JFrame} (hg : g.method = m) (hsize : g.locals.size = c.maxLocals) {argsL rest : List Value} (hlen : ∀ sig, parseMethodDescriptor y.desc = some sig → argsL.length = sig.parameters.length)
    (hstack : g.stack = argsL.reverse ++ rest) (hW : 2 * g.monitorRoom + (rest.map fun v => v.category).sum ≤ W9) (hdg : decode c.code g.pc = .ok (.invokestatic index, 3))
    (hpre : ∀ vm₁, s.WarmedH vm₁ → Pre ⟨T.setVm vm₁, locs, cells, slots⟩ argsL.toArray) :
    (∃ (v : Option Value) (vm₁ : Vm) (B : Pt), s.WarmedH vm₁ ∧ Stand p l e R s m args below meth c B.U B.locs B.cells B.slots ∧ Post ⟨T.setVm vm₁, locs, cells, slots⟩ argsL.toArray v B ∧
      ∀ target, Steps p.tables e below (B.U.setTop { g with pc := g.pc + 3, stack := v.toList ++ rest }) target → Steps p.tables e below (T.setTop g) target) ∨
    (∃ (q : Addr) (vm₁ : Vm) (B : Pt), s.WarmedH vm₁ ∧ Stand p l e R s m args below meth c B.U B.locs B.cells B.slots ∧ PostX ⟨T.setVm vm₁, locs, cells, slots⟩ argsL.toArray q B ∧
      Steps p.tables e below (T.setTop g) ((B.U.setTop { g with stack := rest }).pushFrame (.throwing q))) := by
  obtain ⟨mk, hnamed⟩ := Cond.code_named hcode
  obtain ⟨methM, cM, hmethM, -, -, -, -, -, -, hsigM⟩ := Cond.code_spec hnamed hcode
  have hstatic : methM.isStatic = true := Cond.static_spec hnamed hmethM hstat
  obtain ⟨kP, hkP, -⟩ := className_of_methodNamed hnamed
  have hinitP : kP.init = .initialized := Cond.initialized_spec (findClass_of_methodNamed hnamed) hkP hinit
  obtain ⟨vm₁, X₁, hstep₁⟩ := X.invokestatic hexec hown hlink hnamed hmethM hstatic hkP hinitP hy (g := g) hg (argsL := argsL) (rest := rest) (hlen _ hsigM) hstack hdg
  rcases hK m meth c ⟨T.setVm vm₁, locs, cells, slots⟩ { g with stack := rest } (.invokestatic index) mk argsL.toArray X₁ hg hsize hdg hW (X₁.named hnamed) (hpre vm₁ X₁.warmed) with ⟨v, B, X', hpost, hsteps⟩ | ⟨q, B, X', hpost, hsteps⟩
  · exact Or.inl ⟨v, vm₁, B, X₁.warmed, X', hpost, fun target h => hstep₁ _ fun acts => by rw [doInvoke_state]; exact hsteps.trans h⟩
  · exact Or.inr ⟨q, vm₁, B, X₁.warmed, X', hpost, hstep₁ _ fun acts => by rw [doInvoke_state]; exact hsteps⟩
end Calls
theorem vx_cls {s : State} {T : State} {vm₁ : Vm} {E : String} {k : ClassId} (hW : s.WarmedH vm₁) (h : (T.setVm vm₁).vm.findClass E = some k) : s.vm.findClass E = some k := by
  have h1 : vm₁.findClass E = some k := h
  rw [hW.alike.findClass] at h1
  exact h1
/-- the method's frame g, with q thrown over it -/
def vx_W (p : Program) (l : Launch) (e : Env) (R : Room) (s : State) (m : MethodId) (args : Array Value) (below : List Frame) (meth : Method) (c : Code) (H : Heap) (locs : List Loc) (cells slots : Nat) (Q : State → Prop) (g : JFrame) (q : Addr) : Prop :=
  ∀ T : State, T.heap = H → Stand p l e R s m args below meth c T locs cells slots → ∃ t, Steps p.tables e below ((T.setTop g).pushFrame (.throwing q)) t ∧ Q t
def vx_Run (p : Program) (l : Launch) (e : Env) (R : Room) (s : State) (m : MethodId) (args : Array Value) (below : List Frame) (meth : Method) (c : Code) (H : Heap) (locs : List Loc) (cells slots mc ms : Nat) (g : JFrame) (rest : List Value) (Qa : State → Outcome → State → Prop) (XC : String → State → State → Prop) (free : Addr → Prop) : Prop :=
  ∀ T : State, T.heap = H → Stand p l e R s m args below meth c T locs cells slots →
    (∃ (v : Option Value) (st₀ t T' : State) (L : List Loc), st₀.heap = H ∧ Stand p l e R s m args below meth c T' (locs ++ L) (cells + mc) (slots + ms) ∧ (∀ q ∈ L, free q.base) ∧ T'.heap = t.heap ∧ T'.vm = t.vm ∧ Qa st₀ (.returned v) t ∧
      Goes p e below T g T' { g with pc := g.pc + 3, stack := v.toList ++ rest }) ∨
    (∃ (q : Addr) (st₀ t T' : State) (L : List Loc) (E : String) (ce : Cell), st₀.heap = H ∧ Stand p l e R s m args below meth c T' (locs ++ L) (cells + mc) (slots + ms) ∧ (∀ z ∈ L, free z.base) ∧ T'.heap = t.heap ∧ T'.vm = t.vm ∧ XC E st₀ t ∧ t.heap[q]? = some ce ∧ ce.vm = .none ∧ s.vm.findClass E = some ce.cls ∧
      Steps p.tables e below (T.setTop g) ((T'.setTop { g with stack := rest }).pushFrame (.throwing q)))
def vx_X {S : Type} (px : S → Prop) (B : String → S → State → Prop) (A : Nat → Prop) : String → State → State → Prop := fun E st t => ∃ u : S, px u ∧ B E u t ∧ va_F A st t
section Runs
variable {p : Program} {l : Launch} {e : Env} {R : Room} {s : State} {m : MethodId} {args : Array Value} {below : List Frame} {meth : Method} {c : Code} {H : Heap} {locs : List Loc} {cells slots : Nat}
variable {y : MethodName} {bytes cc : ByteArray} {maxL nL mc ms n index : Nat} {ret : Option FieldType} {ws : List Cond} {rm : Room} {Pc : Array Value → State → Prop} {Qc : Array Value → State → Outcome → State → Prop} {XC : String → State → State → Prop} {free : Addr → Prop} {Ts : List Cond} {own C : String} {b : Addr} {As rest : List Value} {g : JFrame}
theorem vx_callBack (cb : CallB R s args own index y bytes maxL ret ws rm mc ms n) (hM : vx_Met l y ws rm Pc Qc XC mc ms free) (hbl : FrameBlind Pc) : vx_Back l R p e below s args y 3 8 (PreOf R mc ms Pc) (PostOf Qc mc ms free) (vx_Post XC mc ms free) := by
  obtain ⟨hrc, hrs, hfr, hlo, hws, hcw, -, hini, -⟩ := cb
  exact vx_back (bytes := bytes) (maxL := maxL) (ret := ret) hM hbl hrc hrs hfr hlo hws hcw (fun a' U hW => word_at hW (Or.inl (by first | rfl | simp [Cond.onTables, Cond.keeps, Cond.steady])) hini)
theorem vx_runV (S : CallFix p m c cc nL s args Ts own) (hM : vx_Met l y ws rm Pc Qc XC mc ms free) (cw : CallW R s args own C index y bytes maxL ret ws rm mc ms n) (hp : PreV s H C b Pc As)
    (hg : g.method = m) (hn : As.length = n) (hsize : g.locals.size = nL) (hstack : g.stack = As.reverse ++ .ref b :: rest) (hW : 2 * g.monitorRoom + (rest.map fun v => v.category).sum ≤ 8) (hdg : decode cc g.pc = .ok (.invokevirtual index, 3)) (hf : cells + mc ≤ R.cells ∧ slots + ms ≤ R.slots) :
    vx_Run p l e R s m args below meth c H locs cells slots mc ms g rest (Qc (Value.ref b :: As).toArray) XC free := by
  have hK : vx_Back l R p e below s args y 3 8 (PreOf R mc ms Pc) (PostOf Qc mc ms free) (vx_Post XC mc ms free) := vx_callBack cw.1 hM hp.1
  obtain ⟨⟨-, -, -, -, -, -, hcode, -, hy, hlen, hl⟩, hin, hse⟩ := cw
  obtain ⟨hx, hb, hml, ho, -⟩ := S
  obtain ⟨-, ⟨cellB, hcB, hoB, hclB⟩, hPc⟩ := hp
  intro T hT X
  rcases vx_callV X hx (C := C) (bytes := bytes) (maxL := maxL) (ret := ret) ho hl hin hse hcode hy hK (by rw [hT]; exact hcB) hoB hclB hg (hsize.trans hml.symm) (argsL := As) (rest := rest) (fun sig h => hn.trans (hlen sig h)) hstack hW (by rw [hb]; exact hdg)
    (fun vm₁ hW₁ => ⟨hf.1, hf.2, hPc (T.setVm vm₁) hT hW₁⟩) with ⟨v, vm₁, ⟨U', l2, c2, s2⟩, hW₁, X', ⟨g', mk, t, L, e1, e2, hq, h1, hL, h2, h3⟩, st⟩ | ⟨q, vm₁, ⟨U', l2, c2, s2⟩, hW₁, X', ⟨g', mk, t, L, E, ce, e1, e2, hq, hce, hcv, hcl, h1, hL, h2, h3⟩, st⟩
  · dsimp only [Pt.U, Pt.locs, Pt.cells, Pt.slots] at X' e1 e2 h1 h2 h3 st
    subst h1; subst h2; subst h3
    exact Or.inl ⟨v, (T.setVm vm₁).calling g' mk (Value.ref b :: As).toArray, t, U', L, hT, X', hL, e1, e2, hq, st⟩
  · dsimp only [Pt.U, Pt.locs, Pt.cells, Pt.slots] at X' e1 e2 h1 h2 h3 st hcl
    subst h1; subst h2; subst h3
    exact Or.inr ⟨q, (T.setVm vm₁).calling g' mk (Value.ref b :: As).toArray, t, U', L, E, ce, hT, X', hL, e1, e2, hq, hce, hcv, vx_cls hW₁ hcl, st⟩
theorem vx_runS (S : CallFix p m c cc nL s args Ts own) (hM : vx_Met l y ws rm Pc Qc XC mc ms free) (cw : CallB R s args own index y bytes maxL ret ws rm mc ms n ∧ (Cond.static y).before args s = true) (hp : PreS s H Pc As)
    (hg : g.method = m) (hn : As.length = n) (hsize : g.locals.size = nL) (hstack : g.stack = As.reverse ++ rest) (hW : 2 * g.monitorRoom + (rest.map fun v => v.category).sum ≤ 8) (hdg : decode cc g.pc = .ok (.invokestatic index, 3)) (hf : cells + mc ≤ R.cells ∧ slots + ms ≤ R.slots) :
    vx_Run p l e R s m args below meth c H locs cells slots mc ms g rest (Qc As.toArray) XC free := by
  have hK : vx_Back l R p e below s args y 3 8 (PreOf R mc ms Pc) (PostOf Qc mc ms free) (vx_Post XC mc ms free) := vx_callBack cw.1 hM hp.1
  obtain ⟨⟨-, -, -, -, -, -, hcode, hini, hy, hlen, hl⟩, hstt⟩ := cw
  obtain ⟨hx, hb, hml, ho, -⟩ := S
  intro T hT X
  rcases vx_callS X hx (bytes := bytes) (maxL := maxL) (ret := ret) ho hl hstt hini hcode hy hK hg (hsize.trans hml.symm) (argsL := As) (rest := rest) (fun sig h => hn.trans (hlen sig h)) hstack hW (by rw [hb]; exact hdg)
    (fun vm₁ hW₁ => ⟨hf.1, hf.2, hp.2 (T.setVm vm₁) hT hW₁⟩) with ⟨v, vm₁, ⟨U', l2, c2, s2⟩, hW₁, X', ⟨g', mk, t, L, e1, e2, hq, h1, hL, h2, h3⟩, st⟩ | ⟨q, vm₁, ⟨U', l2, c2, s2⟩, hW₁, X', ⟨g', mk, t, L, E, ce, e1, e2, hq, hce, hcv, hcl, h1, hL, h2, h3⟩, st⟩
  · dsimp only [Pt.U, Pt.locs, Pt.cells, Pt.slots] at X' e1 e2 h1 h2 h3 st
    subst h1; subst h2; subst h3
    exact Or.inl ⟨v, (T.setVm vm₁).calling g' mk As.toArray, t, U', L, hT, X', hL, e1, e2, hq, st⟩
  · dsimp only [Pt.U, Pt.locs, Pt.cells, Pt.slots] at X' e1 e2 h1 h2 h3 st hcl
    subst h1; subst h2; subst h3
    exact Or.inr ⟨q, (T.setVm vm₁).calling g' mk As.toArray, t, U', L, E, ce, hT, X', hL, e1, e2, hq, hce, hcv, vx_cls hW₁ hcl, st⟩
end Runs
section Rows
variable {p : Program} {l : Launch} {e : Env} {R : Room} {s : State} {m : MethodId} {args : Array Value} {below : List Frame} {meth : Method} {c : Code} {H : Heap} {locs : List Loc} {cells slots : Nat} {Q : State → Prop}
variable {mc ms : Nat} {free : Addr → Prop} {A0 A1 : Nat → Prop} {H0 : Heap} {a : Array Value} {pc : Nat} {ls : Array Slot} {st0 rest : List Value}
theorem vx_keep {st₀ t T' : State} {L : List Loc} (h0 : st₀.heap = H) (e1 : T'.heap = t.heap) (hS : va_S A0 H0 H locs) (hA : ∀ q, q < H.size → A1 q → A0 q) (hf : ∀ q, free q → A0 q) (hL : ∀ q ∈ L, free q.base) (hF : va_F A1 st₀ t) :
    H.size ≤ T'.heap.size ∧ (∀ q : Nat, q < H.size → ¬ A1 q → T'.heap[q]? = H[q]?) ∧ va_S A0 H0 T'.heap (locs ++ L) := by
  obtain ⟨hz, hk⟩ := hF
  rw [h0] at hz hk
  exact ⟨by rw [e1]; exact hz, fun q h1 h2 => by rw [e1]; exact hk q h1 h2,
    ⟨Nat.le_trans hS.1 (by rw [e1]; exact hz), fun q h1 h2 => by rw [e1, hk q (Nat.lt_of_lt_of_le h1 hS.1) (fun z => h2 (hA q (Nat.lt_of_lt_of_le h1 hS.1) z))]; exact hS.2.1 q h1 h2, fun q hq => by
      rcases List.mem_append.mp hq with h | h
      · exact hS.2.2 q h
      · exact hf _ (hL q h)⟩⟩
theorem vx_calli {S SX : Type} {post : Int32 → S → Prop} {px : SX → Prop} {B : S → State → Prop} {BX : String → SX → State → Prop} {AX : Nat → Prop} (hr : vx_Run p l e R s m args below meth c H locs cells slots mc ms (F0 m pc ls st0) rest (va_Qi post B A1 a) (vx_X px BX AX) free) (hS : va_S A0 H0 H locs) (hA : ∀ q, q < H.size → A1 q → A0 q) (hf : ∀ q, free q → A0 q) (hAX : ∀ q, q < H.size → AX q → A0 q)
    (kx : ∀ (E : String) (ce : Cell) (q9 : Addr) (u : SX) (t : State) (H1 : Heap) (locs1 : List Loc), t.heap = H1 → s.vm.Alike t.vm → px u → BX E u t → H.size ≤ H1.size → (∀ q : Nat, q < H.size → ¬ AX q → H1[q]? = H[q]?) → va_S A0 H0 H1 locs1 → H1[q9]? = some ce → ce.vm = .none → s.vm.findClass E = some ce.cls → vx_W p l e R s m args below meth c H1 locs1 (cells + mc) (slots + ms) Q (F0 m pc ls rest) q9)
    (kk : ∀ (r : Int32) (u : S) (t : State) (H1 : Heap) (locs1 : List Loc), t.heap = H1 → s.vm.Alike t.vm → post r u → B u t → H.size ≤ H1.size → (∀ q : Nat, q < H.size → ¬ A1 q → H1[q]? = H[q]?) → va_S A0 H0 H1 locs1 → W p l e R s m args below meth c H1 locs1 (cells + mc) (slots + ms) Q (F0 m (pc + 3) ls (.int r :: rest))) : W p l e R s m args below meth c H locs cells slots Q (F0 m pc ls st0) := by
  intro T hT X
  rcases hr T hT X with ⟨v, st₀, t, T', L, h0, X', hL, e1, e2, ⟨⟨r, u, hv, hp, hb⟩, hF⟩, st⟩ | ⟨q, st₀, t, T', L, E, ce, h0, X', hL, e1, e2, ⟨u, hp, hb, hF⟩, hce, hcv, hcl, st⟩
  · cases hv
    obtain ⟨k1, k2, k3⟩ := vx_keep h0 e1 hS hA hf hL hF
    obtain ⟨t2, a1, b1⟩ := kk r u t T'.heap (locs ++ L) e1.symm (by rw [← e2]; exact X'.warmed.alike) hp hb k1 k2 k3 T' rfl X'
    exact ⟨t2, st t2 a1, b1⟩
  · obtain ⟨k1, k2, k3⟩ := vx_keep h0 e1 hS hAX hf hL hF
    obtain ⟨t2, a1, b1⟩ := kx E ce q u t T'.heap (locs ++ L) e1.symm (by rw [← e2]; exact X'.warmed.alike) hp hb k1 k2 k3 (by rw [e1]; exact hce) hcv hcl T' rfl X'
    exact ⟨t2, st.trans a1, b1⟩
theorem vx_calll {S SX : Type} {post : Int64 → S → Prop} {px : SX → Prop} {B : S → State → Prop} {BX : String → SX → State → Prop} {AX : Nat → Prop} (hr : vx_Run p l e R s m args below meth c H locs cells slots mc ms (F0 m pc ls st0) rest (va_Ql post B A1 a) (vx_X px BX AX) free) (hS : va_S A0 H0 H locs) (hA : ∀ q, q < H.size → A1 q → A0 q) (hf : ∀ q, free q → A0 q) (hAX : ∀ q, q < H.size → AX q → A0 q)
    (kx : ∀ (E : String) (ce : Cell) (q9 : Addr) (u : SX) (t : State) (H1 : Heap) (locs1 : List Loc), t.heap = H1 → s.vm.Alike t.vm → px u → BX E u t → H.size ≤ H1.size → (∀ q : Nat, q < H.size → ¬ AX q → H1[q]? = H[q]?) → va_S A0 H0 H1 locs1 → H1[q9]? = some ce → ce.vm = .none → s.vm.findClass E = some ce.cls → vx_W p l e R s m args below meth c H1 locs1 (cells + mc) (slots + ms) Q (F0 m pc ls rest) q9)
    (kk : ∀ (r : Int64) (u : S) (t : State) (H1 : Heap) (locs1 : List Loc), t.heap = H1 → s.vm.Alike t.vm → post r u → B u t → H.size ≤ H1.size → (∀ q : Nat, q < H.size → ¬ A1 q → H1[q]? = H[q]?) → va_S A0 H0 H1 locs1 → W p l e R s m args below meth c H1 locs1 (cells + mc) (slots + ms) Q (F0 m (pc + 3) ls (.long r :: rest))) : W p l e R s m args below meth c H locs cells slots Q (F0 m pc ls st0) := by
  intro T hT X
  rcases hr T hT X with ⟨v, st₀, t, T', L, h0, X', hL, e1, e2, ⟨⟨r, u, hv, hp, hb⟩, hF⟩, st⟩ | ⟨q, st₀, t, T', L, E, ce, h0, X', hL, e1, e2, ⟨u, hp, hb, hF⟩, hce, hcv, hcl, st⟩
  · cases hv
    obtain ⟨k1, k2, k3⟩ := vx_keep h0 e1 hS hA hf hL hF
    obtain ⟨t2, a1, b1⟩ := kk r u t T'.heap (locs ++ L) e1.symm (by rw [← e2]; exact X'.warmed.alike) hp hb k1 k2 k3 T' rfl X'
    exact ⟨t2, st t2 a1, b1⟩
  · obtain ⟨k1, k2, k3⟩ := vx_keep h0 e1 hS hAX hf hL hF
    obtain ⟨t2, a1, b1⟩ := kx E ce q u t T'.heap (locs ++ L) e1.symm (by rw [← e2]; exact X'.warmed.alike) hp hb k1 k2 k3 (by rw [e1]; exact hce) hcv hcl T' rfl X'
    exact ⟨t2, st.trans a1, b1⟩
theorem vx_callf {S SX : Type} {post : UInt32 → S → Prop} {px : SX → Prop} {B : S → State → Prop} {BX : String → SX → State → Prop} {AX : Nat → Prop} (hr : vx_Run p l e R s m args below meth c H locs cells slots mc ms (F0 m pc ls st0) rest (va_Qf post B A1 a) (vx_X px BX AX) free) (hS : va_S A0 H0 H locs) (hA : ∀ q, q < H.size → A1 q → A0 q) (hf : ∀ q, free q → A0 q) (hAX : ∀ q, q < H.size → AX q → A0 q)
    (kx : ∀ (E : String) (ce : Cell) (q9 : Addr) (u : SX) (t : State) (H1 : Heap) (locs1 : List Loc), t.heap = H1 → s.vm.Alike t.vm → px u → BX E u t → H.size ≤ H1.size → (∀ q : Nat, q < H.size → ¬ AX q → H1[q]? = H[q]?) → va_S A0 H0 H1 locs1 → H1[q9]? = some ce → ce.vm = .none → s.vm.findClass E = some ce.cls → vx_W p l e R s m args below meth c H1 locs1 (cells + mc) (slots + ms) Q (F0 m pc ls rest) q9)
    (kk : ∀ (r : UInt32) (u : S) (t : State) (H1 : Heap) (locs1 : List Loc), t.heap = H1 → s.vm.Alike t.vm → post r u → B u t → H.size ≤ H1.size → (∀ q : Nat, q < H.size → ¬ A1 q → H1[q]? = H[q]?) → va_S A0 H0 H1 locs1 → W p l e R s m args below meth c H1 locs1 (cells + mc) (slots + ms) Q (F0 m (pc + 3) ls (.float r :: rest))) : W p l e R s m args below meth c H locs cells slots Q (F0 m pc ls st0) := by
  intro T hT X
  rcases hr T hT X with ⟨v, st₀, t, T', L, h0, X', hL, e1, e2, ⟨⟨r, u, hv, hp, hb⟩, hF⟩, st⟩ | ⟨q, st₀, t, T', L, E, ce, h0, X', hL, e1, e2, ⟨u, hp, hb, hF⟩, hce, hcv, hcl, st⟩
  · cases hv
    obtain ⟨k1, k2, k3⟩ := vx_keep h0 e1 hS hA hf hL hF
    obtain ⟨t2, a1, b1⟩ := kk r u t T'.heap (locs ++ L) e1.symm (by rw [← e2]; exact X'.warmed.alike) hp hb k1 k2 k3 T' rfl X'
    exact ⟨t2, st t2 a1, b1⟩
  · obtain ⟨k1, k2, k3⟩ := vx_keep h0 e1 hS hAX hf hL hF
    obtain ⟨t2, a1, b1⟩ := kx E ce q u t T'.heap (locs ++ L) e1.symm (by rw [← e2]; exact X'.warmed.alike) hp hb k1 k2 k3 (by rw [e1]; exact hce) hcv hcl T' rfl X'
    exact ⟨t2, st.trans a1, b1⟩
theorem vx_calld {S SX : Type} {post : UInt64 → S → Prop} {px : SX → Prop} {B : S → State → Prop} {BX : String → SX → State → Prop} {AX : Nat → Prop} (hr : vx_Run p l e R s m args below meth c H locs cells slots mc ms (F0 m pc ls st0) rest (va_Qd post B A1 a) (vx_X px BX AX) free) (hS : va_S A0 H0 H locs) (hA : ∀ q, q < H.size → A1 q → A0 q) (hf : ∀ q, free q → A0 q) (hAX : ∀ q, q < H.size → AX q → A0 q)
    (kx : ∀ (E : String) (ce : Cell) (q9 : Addr) (u : SX) (t : State) (H1 : Heap) (locs1 : List Loc), t.heap = H1 → s.vm.Alike t.vm → px u → BX E u t → H.size ≤ H1.size → (∀ q : Nat, q < H.size → ¬ AX q → H1[q]? = H[q]?) → va_S A0 H0 H1 locs1 → H1[q9]? = some ce → ce.vm = .none → s.vm.findClass E = some ce.cls → vx_W p l e R s m args below meth c H1 locs1 (cells + mc) (slots + ms) Q (F0 m pc ls rest) q9)
    (kk : ∀ (r : UInt64) (u : S) (t : State) (H1 : Heap) (locs1 : List Loc), t.heap = H1 → s.vm.Alike t.vm → post r u → B u t → H.size ≤ H1.size → (∀ q : Nat, q < H.size → ¬ A1 q → H1[q]? = H[q]?) → va_S A0 H0 H1 locs1 → W p l e R s m args below meth c H1 locs1 (cells + mc) (slots + ms) Q (F0 m (pc + 3) ls (.double r :: rest))) : W p l e R s m args below meth c H locs cells slots Q (F0 m pc ls st0) := by
  intro T hT X
  rcases hr T hT X with ⟨v, st₀, t, T', L, h0, X', hL, e1, e2, ⟨⟨r, u, hv, hp, hb⟩, hF⟩, st⟩ | ⟨q, st₀, t, T', L, E, ce, h0, X', hL, e1, e2, ⟨u, hp, hb, hF⟩, hce, hcv, hcl, st⟩
  · cases hv
    obtain ⟨k1, k2, k3⟩ := vx_keep h0 e1 hS hA hf hL hF
    obtain ⟨t2, a1, b1⟩ := kk r u t T'.heap (locs ++ L) e1.symm (by rw [← e2]; exact X'.warmed.alike) hp hb k1 k2 k3 T' rfl X'
    exact ⟨t2, st t2 a1, b1⟩
  · obtain ⟨k1, k2, k3⟩ := vx_keep h0 e1 hS hAX hf hL hF
    obtain ⟨t2, a1, b1⟩ := kx E ce q u t T'.heap (locs ++ L) e1.symm (by rw [← e2]; exact X'.warmed.alike) hp hb k1 k2 k3 (by rw [e1]; exact hce) hcv hcl T' rfl X'
    exact ⟨t2, st.trans a1, b1⟩
theorem vx_callv {S SX : Type} {post : S → Prop} {px : SX → Prop} {B : S → State → Prop} {BX : String → SX → State → Prop} {AX : Nat → Prop} (hr : vx_Run p l e R s m args below meth c H locs cells slots mc ms (F0 m pc ls st0) rest (va_Qv post B A1 a) (vx_X px BX AX) free) (hS : va_S A0 H0 H locs) (hA : ∀ q, q < H.size → A1 q → A0 q) (hf : ∀ q, free q → A0 q) (hAX : ∀ q, q < H.size → AX q → A0 q)
    (kx : ∀ (E : String) (ce : Cell) (q9 : Addr) (u : SX) (t : State) (H1 : Heap) (locs1 : List Loc), t.heap = H1 → s.vm.Alike t.vm → px u → BX E u t → H.size ≤ H1.size → (∀ q : Nat, q < H.size → ¬ AX q → H1[q]? = H[q]?) → va_S A0 H0 H1 locs1 → H1[q9]? = some ce → ce.vm = .none → s.vm.findClass E = some ce.cls → vx_W p l e R s m args below meth c H1 locs1 (cells + mc) (slots + ms) Q (F0 m pc ls rest) q9)
    (kk : ∀ (u : S) (t : State) (H1 : Heap) (locs1 : List Loc), t.heap = H1 → s.vm.Alike t.vm → post u → B u t → H.size ≤ H1.size → (∀ q : Nat, q < H.size → ¬ A1 q → H1[q]? = H[q]?) → va_S A0 H0 H1 locs1 → W p l e R s m args below meth c H1 locs1 (cells + mc) (slots + ms) Q (F0 m (pc + 3) ls (rest))) : W p l e R s m args below meth c H locs cells slots Q (F0 m pc ls st0) := by
  intro T hT X
  rcases hr T hT X with ⟨v, st₀, t, T', L, h0, X', hL, e1, e2, ⟨⟨u, hv, hp, hb⟩, hF⟩, st⟩ | ⟨q, st₀, t, T', L, E, ce, h0, X', hL, e1, e2, ⟨u, hp, hb, hF⟩, hce, hcv, hcl, st⟩
  · cases hv
    obtain ⟨k1, k2, k3⟩ := vx_keep h0 e1 hS hA hf hL hF
    obtain ⟨t2, a1, b1⟩ := kk u t T'.heap (locs ++ L) e1.symm (by rw [← e2]; exact X'.warmed.alike) hp hb k1 k2 k3 T' rfl X'
    exact ⟨t2, st t2 a1, b1⟩
  · obtain ⟨k1, k2, k3⟩ := vx_keep h0 e1 hS hAX hf hL hF
    obtain ⟨t2, a1, b1⟩ := kx E ce q u t T'.heap (locs ++ L) e1.symm (by rw [← e2]; exact X'.warmed.alike) hp hb k1 k2 k3 (by rw [e1]; exact hce) hcv hcl T' rfl X'
    exact ⟨t2, st.trans a1, b1⟩
/-- caught by the row x of this method's table; the rows ahead don't take it -/
theorem vx_catch {own name : String} {E : String} {ce : Cell} {q : Addr} (hown : s.vm.findClass own = some m.cls) (pre : List ExceptionTableEntry) (x : ExceptionTableEntry) (suf : List ExceptionTableEntry) (hsplit : c.exceptionTable.toList = pre ++ x :: suf)
    (hpass : ∀ z ∈ pre, covers z pc = false ∨ (z.catchType ≠ 0 ∧ ∃ nm : String, (Cond.classLink own z.catchType nm).before args s = true ∧ va_Nc E nm s)) (hx : covers x pc = true) (h0 : x.catchType ≠ 0)
    (hlink : (Cond.classLink own x.catchType name).before args s = true) (hcast : (Cond.castable E name).before args s = true) (hcell : H[q]? = some ce) (hv : ce.vm = .none) (hcl : s.vm.findClass E = some ce.cls)
    (kk : W p l e R s m args below meth c H locs cells slots Q (F0 m x.handlerPc ls [.ref q])) : vx_W p l e R s m args below meth c H locs cells slots Q (F0 m pc ls rest) q := by
  intro T hT X
  have hpl : e.platform.magicAccessors = ({} : Platform).magicAccessors := by rw [X.admits.platform]
  obtain ⟨c3, c4, hc3, hc4, hasg⟩ := Cond.castable_spec hcast
  cases Option.some.inj (hc3.symm.trans hcl)
  obtain ⟨c5, hc5, hcl5⟩ := Cond.classLink_spec hown hlink e.platform hpl
  cases Option.some.inj (hc4.symm.trans hc5)
  obtain ⟨vm', X', st⟩ := X.thenCaughtThrough q (g := F0 m pc ls rest) rfl (Steps.refl _) (by rw [hT]; exact hcell) (by rw [hv]; rfl) (by obtain ⟨k9, h9, -⟩ := Vm.findClass_spec hcl; exact ⟨k9, h9⟩) pre x suf hsplit
    (fun z hz => by
      rcases hpass z hz with h | ⟨hz0, nm, hl1, hn1⟩
      · exact Or.inl h
      · obtain ⟨c6, hc6, hcl6⟩ := Cond.classLink_spec hown hl1 e.platform hpl
        obtain ⟨a8, b8, h1, h2, h3⟩ := hn1
        cases Option.some.inj (h1.symm.trans hcl)
        cases Option.some.inj (h2.symm.trans hc6)
        exact Or.inr ⟨hz0, _, hcl6, h3⟩) hx (Or.inr ⟨h0, c4, hcl5, hasg⟩)
  obtain ⟨t, a1, b1⟩ := kk (T.setVm vm') hT X'
  exact ⟨t, st.trans a1, b1⟩
end Rows
section Ends
variable {p : Program} {l : Launch} {e : Env} {R : Room} {s : State} {m : MethodId} {args : Array Value} {below : List Frame} {meth : Method} {c : Code} {H : Heap} {locs : List Loc} {cells slots : Nat} {Q : State → Prop}
variable {mc ms : Nat} {free : Addr → Prop} {A0 A1 : Nat → Prop} {H0 : Heap} {a : Array Value} {ls : Array Slot} {st0 rest : List Value}
variable {Qc : Array Value → State → Outcome → State → Prop} {XC : String → State → State → Prop}
/-- what a body that may throw owes at its end -/
def vx_MQ (below : List Frame) (Qc : Array Value → State → Outcome → State → Prop) (XC : String → State → State → Prop) (a : Array Value) (s : State) (mc ms : Nat) (free : Addr → Prop) : State → Prop := fun t =>
  ∃ o, t.status = .running ∧ Ended t below o ∧ vx_Q Qc XC mc ms free a s o t
theorem vx_ret {g : JFrame} {mc ms : Nat} (k : W p l e R s m args below meth c H locs cells slots (MQ below Qc args s mc ms free) g) : W p l e R s m args below meth c H locs cells slots (vx_MQ below Qc XC args s mc ms free) g := by
  intro T hT X
  obtain ⟨t, a1, o, b1, b2, b3, b4⟩ := k T hT X
  exact ⟨t, a1, o, b1, b2, Or.inl ⟨b3, b4⟩⟩
/-- not caught here: it goes on to the caller -/
theorem vx_widen {g : JFrame} {q : Addr} {k n : Nat} (h1 : cells ≤ k) (h2 : slots ≤ n) (kk : vx_W p l e R s m args below meth c H locs k n Q g q) : vx_W p l e R s m args below meth c H locs cells slots Q g q := fun T hT X => kk T hT (stand_widen X h1 h2)
theorem vx_out {pc : Nat} {E : String} {ce : Cell} {q : Addr} {mc ms : Nat} (hout : ∀ x ∈ c.exceptionTable.toList, covers x pc = false) (hlocks : meth.locks = false) (hcell : H[q]? = some ce) (hv : ce.vm = .none) (hcl : s.vm.findClass E = some ce.cls)
    (hx : ∀ t : State, t.heap = H → s.vm.Alike t.vm → XC E s t) (hf : ∀ z ∈ locs, free z.base) (hc : cells ≤ mc) (hs : slots ≤ ms) :
    vx_W p l e R s m args below meth c H locs cells slots (vx_MQ below Qc XC args s mc ms free) (F0 m pc ls rest) q := by
  intro T hT X
  obtain ⟨st1, hrun, hend, hW, hsm⟩ := X.leaveThrown q (g := F0 m pc ls rest) rfl rfl rfl hout hlocks
  have hcell9 : (T.setFrames (.throwing q :: below)).heap[q]? = some ce := by
    show T.heap[q]? = some ce
    rw [hT]; exact hcell
  exact ⟨_, st1, .threw q, hrun, hend, Or.inr ⟨q, rfl, E, ce, locs, hx _ hT hW.alike, hcell9, hv, hcl, hW, hsm.mono hc hs, hf⟩⟩
theorem vx_frame {U : State} {k n : Nat} (h : s.sameButNew ({ U with vm := s.vm } : State) locs k n) : s.heap.size ≤ U.heap.size ∧ ∀ q : Nat, q < s.heap.size → (∀ z ∈ locs, z.base ≠ q) → U.heap[q]? = s.heap[q]? := by
  obtain ⟨-, h2, -, -, -, h6⟩ := h
  refine ⟨h2, fun q hq hz => ?_⟩
  obtain ⟨c9, e1, e2, e3, e4⟩ := h6 q _ (Array.getElem?_eq_getElem hq)
  have hs : c9.slots = (s.heap[q]).slots := Array.ext_getElem? fun i => e4 i fun hm => hz _ hm rfl
  have h9 : c9 = s.heap[q] := by
    rw [hs] at e2
    exact e2
  have e5 : U.heap[q]? = some c9 := e1
  rw [e5, h9, Array.getElem?_eq_getElem hq]
/-- the words of a throw but the four that speak of the heap -/
def vx_no (w : Cond) : Bool := decide (w ≠ .isRef (.static Bundle.tN "UNASSIGNED_STACK" Bundle.steD)) && decide (w ≠ .isRef (.static Bundle.tN "SUPPRESSED_SENTINEL" Bundle.listD)) && decide (w ≠ .laysStatic Bundle.tN "UNASSIGNED_STACK" Bundle.steD) && decide (w ≠ .laysStatic Bundle.tN "SUPPRESSED_SENTINEL" Bundle.listD)
def vx_at0 (own : String) (ic : Nat) (X : String) (names : List String) : List Cond := (Bundle.ownAtoms0 own ic X names).filter vx_no
def vx_atS (own : String) (ic : Nat) (X : String) (names : List String) : List Cond := (Bundle.ownAtoms own ic X names).filter vx_no
/-- a word that the tables alone decide, or a good one -/
def vx_ot (w : Cond) : Bool := w.onTables || goodWord w
theorem vx_ot_at {args a' : Array Value} {s U : State} {w : Cond} (hW : s.WarmedH U.vm) (hvm : s.vm = U.vm) (hg : vx_ot w = true) (h : w.before args s = true) : w.before a' U = true := by
  simp only [vx_ot, Bool.or_eq_true] at hg
  rcases hg with hg | hg
  · exact va_tabs hg hvm h
  · exact word_at hW (good_of_word hg) h
/-- a list's words: the good ones out of the method's own list, the others by premises of their own -/
theorem vx_hat {args : Array Value} {s : State} {L B : List Cond} (h1 : ∀ w ∈ L.filter goodWord, w.before args s = true) (h2 : ∀ w ∈ L.filter (fun w => !goodWord w), w ∈ B) (h3 : ∀ w ∈ B, w.before args s = true) : ∀ w ∈ L, w.before args s = true := by
  intro w hw
  by_cases g : goodWord w = true
  · exact h1 w (List.mem_filter.mpr ⟨hw, g⟩)
  · refine h3 w (h2 w (List.mem_filter.mpr ⟨hw, ?_⟩))
    show (!goodWord w) = true
    cases hgw : goodWord w
    · rfl
    · exact absurd hgw g
theorem vx_c {args : Array Value} {s : State} {w : Cond} {B : List Cond} (h : w.before args s = true) (t : ∀ w ∈ B, w.before args s = true) : ∀ w' ∈ w :: B, w'.before args s = true := fun w' h' => (List.mem_cons.mp h').elim (fun e => by rw [e]; exact h) (t w')
theorem vx_n {args : Array Value} {s : State} : ∀ w ∈ ([] : List Cond), w.before args s = true := fun _ h => nomatch h
theorem vx_own {args : Array Value} {s : State} {L : List Cond} (h1 : ∀ w ∈ L.filter vx_no, w.before args s = true)
    (hU : (Cond.isRef (.static Bundle.tN "UNASSIGNED_STACK" Bundle.steD)).before args s = true) (hN : (Cond.isRef (.static Bundle.tN "SUPPRESSED_SENTINEL" Bundle.listD)).before args s = true)
    (lU : (Cond.laysStatic Bundle.tN "UNASSIGNED_STACK" Bundle.steD).before args s = true) (lN : (Cond.laysStatic Bundle.tN "SUPPRESSED_SENTINEL" Bundle.listD).before args s = true) : ∀ w ∈ L, w.before args s = true := by
  intro w hw
  by_cases e1 : w = .isRef (.static Bundle.tN "UNASSIGNED_STACK" Bundle.steD)
  · rw [e1]; exact hU
  · by_cases e2 : w = .isRef (.static Bundle.tN "SUPPRESSED_SENTINEL" Bundle.listD)
    · rw [e2]; exact hN
    · by_cases e3 : w = .laysStatic Bundle.tN "UNASSIGNED_STACK" Bundle.steD
      · rw [e3]; exact lU
      · by_cases e4 : w = .laysStatic Bundle.tN "SUPPRESSED_SENTINEL" Bundle.listD
        · rw [e4]; exact lN
        · exact h1 w (List.mem_filter.mpr ⟨hw, by unfold vx_no; rw [decide_eq_true e1, decide_eq_true e2, decide_eq_true e3, decide_eq_true e4]; rfl⟩)
/-- where a static field lies, its class's statics cell in H -/
def vx_L (C n d : String) (A : Nat → Prop) (U : State) (H : Heap) : Prop := ∃ (c : ClassId) (k : Class) (i : Nat) (f : Field) (a : Nat) (cell : Cell), U.vm.findClass C = some c ∧ U.fieldFound? C n d = some (c, k, i, f) ∧ f.isStatic = true ∧ k.statics = some a ∧ H[a]? = some cell ∧ cell.vm.isStatics = true ∧ cell.cls = c ∧ f.slot < cell.slots.size ∧ k.staticTypes[f.slot]? = some f.type ∧ ¬ A a
theorem vx_L.moved {C n d : String} {A : Nat → Prop} {u U : State} {H : Heap} (hvm : u.vm.Alike U.vm) (h : vx_L C n d A u H) : vx_L C n d A U H := by
  obtain ⟨c, k, i, f, a, cell, h1, h2, h3, h4, h5, h6, h7, h8, h9, h10⟩ := h
  obtain ⟨k', hi', he⟩ := State.fieldFound?_setVm hvm h2
  exact ⟨c, k', i, f, a, cell, by rw [hvm.findClass]; exact h1, hi', h3, by rw [he]; exact h4, h5, h6, h7, h8, by rw [he]; exact h9, h10⟩
theorem vx_L.kept {C n d : String} {A : Nat → Prop} {U : State} {H H1 : Heap} (h : vx_L C n d A U H) (hq : ∀ a : Nat, a < H.size → ¬ A a → H1[a]? = H[a]?) : vx_L C n d A U H1 := by
  obtain ⟨c, k, i, f, a, cell, h1, h2, h3, h4, h5, h6, h7, h8, h9, h10⟩ := h
  exact ⟨c, k, i, f, a, cell, h1, h2, h3, h4, by rw [hq a (Array.getElem?_eq_some_iff.mp h5).1 h10]; exact h5, h6, h7, h8, h9, h10⟩
theorem vx_L.narrow {C n d : String} {A B : Nat → Prop} {U : State} {H : Heap} (h : vx_L C n d A U H) (hAB : ∀ q, B q → A q) : vx_L C n d B U H := by
  obtain ⟨c, k, i, f, a, cell, h1, h2, h3, h4, h5, h6, h7, h8, h9, h10⟩ := h
  exact ⟨c, k, i, f, a, cell, h1, h2, h3, h4, h5, h6, h7, h8, h9, fun z => h10 (hAB _ z)⟩
theorem vx_L.word {C n d : String} {A : Nat → Prop} {s : State} {args : Array Value} (h : vx_L C n d A s s.heap) : (Cond.laysStatic C n d).before args s = true := by
  obtain ⟨c, k, i, f, a, cell, h1, h2, h3, h4, h5, h6, h7, h8, h9, -⟩ := h
  show (Cond.laysStatic C n d).holds args s none s [] = true
  exact Cond.laysStatic_of h1 h2 h3 h4 h5 h6 h7 h8 h9
/-- .. and what it holds: null or some reference -/
def vx_Zq (C n d : String) (A : Nat → Prop) (U : State) (H : Heap) : Prop := va_Zq C n d A U H ∧ vx_L C n d A U H
theorem vx_Zq.moved {C n d : String} {A : Nat → Prop} {u U : State} {H : Heap} (hvm : u.vm.Alike U.vm) (h : vx_Zq C n d A u H) : vx_Zq C n d A U H := ⟨va_Zq.moved hvm h.1, vx_L.moved hvm h.2⟩
theorem vx_Zq.kept {C n d : String} {A : Nat → Prop} {U : State} {H H1 : Heap} (h : vx_Zq C n d A U H) (hq : ∀ a : Nat, a < H.size → ¬ A a → H1[a]? = H[a]?) : vx_Zq C n d A U H1 := ⟨va_Zq.kept h.1 hq, vx_L.kept h.2 hq⟩
theorem vx_Zq.narrow {C n d : String} {A B : Nat → Prop} {U : State} {H : Heap} (h : vx_Zq C n d A U H) (hAB : ∀ q, B q → A q) : vx_Zq C n d B U H := ⟨va_Zq.narrow h.1 hAB, vx_L.narrow h.2 hAB⟩
theorem vx_Zqof {args : Array Value} {s : State} {C n d : String} {A : Nat → Prop} (hl : (Cond.laysStatic C n d).before args s = true) (hini : (Cond.initialized C).before args s = true) (h : (Cond.isRef (.static C n d)).before args s = true) (hA : ∀ a : Nat, a < s.heap.size → ¬ A a) : vx_Zq C n d A s s.heap := by
  refine ⟨va_Zqof hl hini h hA, ?_⟩
  obtain ⟨c, k, i, f, a, cell, h1, h2, h3, h4, h5, h6, h7, h8, h9⟩ := Cond.laysStatic_spec hl
  exact ⟨c, k, i, f, a, cell, h1, h2, h3, h4, h5, h6, h7, h8, h9, hA a (Array.getElem?_eq_some_iff.mp h5).1⟩
theorem vx_isRef {C n d : String} {v : Value} {A : Nat → Prop} {s : State} {args : Array Value} (h : va_Z C n d v A s s.heap) (hv : v.isRef = true) : (Cond.isRef (.static C n d)).before args s = true := by
  obtain ⟨cf, kf, fi, f, a, cell, h1, h2, h3, h4, h5, h6, h7, -⟩ := h
  have he : (Term.static C n d).eval args s none [] s = some v := by
    simp [Term.eval, State.fieldNamed?, h1, h2, h4, h5, h6, h7]
  simp only [Cond.before, Cond.holds, Cond.value, he]
  cases v <;> simp_all [Value.isRef]
theorem vx_isRefq {C n d : String} {A : Nat → Prop} {s : State} {args : Array Value} (h : va_Zq C n d A s s.heap) : (Cond.isRef (.static C n d)).before args s = true := by
  rcases h with h | ⟨t, h⟩
  · exact vx_isRef h rfl
  · exact vx_isRef h rfl
/-- the same frame, seen from here: as if the method were called anew in this heap -/
theorem vx_rebase {T : State} (X : Stand p l e R s m args below meth c T locs cells slots) {R' : Room} (hf : R'.frames ≤ R.frames) (hl : R'.locals ≤ R.locals) (hc : cells + R'.cells ≤ R.cells) (hs : slots + R'.slots ≤ R.slots) :
    Stand p l e R' ((T.setVm s.vm).setFrames (.invoking m args :: below)) m args below meth c T [] 0 0 := by
  have htop : (T.setVm s.vm).topJava?.isSome := X.here.top
  have hF : ((T.setVm s.vm).setFrames (.invoking m args :: below)).frames = .invoking m args :: below := State.frames_setFrames _ (State.cur_lt_of_top htop)
  obtain ⟨g₀, hg0⟩ := Option.isSome_iff_exists.mp htop
  obtain ⟨r, hr⟩ := State.topJava?_eq_some.mp hg0
  have hl9 : e.platform.stackLimits (T.setVm s.vm).me = e.platform.stackLimits s.me := X.limits
  have hb9 : (T.setVm s.vm).me.stackBytes = s.me.stackBytes := X.bytes
  refine ⟨X.admits, X.cas, X.clock, hF, ?_, X.hears, X.method, X.code, X.here, X.tail, X.warmed, ?_, ?_, ?_⟩
  · have h := X.room
    have hU : ((T.setVm s.vm).setFrames (.invoking m args :: below)).localsInUse = s.localsInUse := by
      rw [State.localsInUse_invoking hF (meth := meth) (c := c) X.method X.code, State.localsInUse_invoking X.frames X.method X.code]
    simp only [State.hasRoom, Bool.and_eq_true, decide_eq_true_eq] at h ⊢
    obtain ⟨⟨⟨⟨h1, h2, h3, h4, h5, h6⟩, h7⟩, h8⟩, h9⟩ := h
    rw [X.frames, List.length_cons] at h2 h3
    have q1 := X.heapSize
    have q2 := X.used
    simp only [hF, hU, List.length_cons, State.stackLimits_setFrames, State.stackBytes_setFrames, hl9, hb9]
    refine ⟨⟨⟨⟨by omega, by omega, by omega, by omega, by omega, h6⟩, ?_⟩, ?_⟩, X.book⟩
    · show T.heap.size + R'.cells ≤ e.platform.maxCells
      omega
    · show T.slotsUsed + R'.slots ≤ e.platform.maxSlots
      omega
  · rw [State.stackLimits_setFrames]; rfl
  · rw [State.stackBytes_setFrames]; rfl
  · refine ⟨?_, Nat.le_refl _, Nat.le_refl _, ?_, ?_, fun a c9 h9 => ⟨c9, h9, rfl, rfl, fun _ _ => rfl⟩⟩
    · obtain ⟨t, ht, -⟩ := State.frames_cons hr
      show T.setVm s.vm = { ((T.setVm s.vm).setFrames (.invoking m args :: below)).setFrames (T.setVm s.vm).frames with heap := T.heap, slotsUsed := T.slotsUsed }
      rw [State.setFrames_setFrames, State.setFrames_self ht]
      rfl
    · show T.slotsUsed = T.slotsUsed + ((T.heap.toList.drop T.heap.size).map (·.slots.size)).sum
      rw [List.drop_eq_nil_of_le (Nat.le_of_eq Array.length_toList)]
      rfl
    · show ((T.heap.toList.drop T.heap.size).map (·.slots.size)).sum ≤ 0
      rw [List.drop_eq_nil_of_le (Nat.le_of_eq Array.length_toList)]
      exact Nat.le_refl _
/-- 'throw new E()': new; dup; invokespecial; athrow -/
theorem vx_throw0 {cc : ByteArray} {pc : Nat} (hexec : p.tables.exec = Jvm.exec) (hb : c.code = cc) (hl : l.stackTraces = false) {own cls : String} {names : List String} {ik ic mc ms : Nat} {A : Nat → Prop}
    (hown : s.vm.findClass own = some m.cls) (hcls : Bundle.fit cls = true) (hnames : ∀ n ∈ names, Bundle.fit n = true)
    (hk : (Cond.classLink own ik cls).before args s = true) (hini : (Cond.initialized cls).before args s = true) (hat : ∀ w ∈ vx_at0 own ic cls names, w.before args s = true)
    (hgood : ∀ w ∈ Cond.classLink own ik cls :: Cond.initialized cls :: vx_at0 own ic cls names, vx_ot w = true)
    (hU : vx_Zq Bundle.tN "UNASSIGNED_STACK" Bundle.steD A s s.heap) (hN : vx_Zq Bundle.tN "SUPPRESSED_SENTINEL" Bundle.listD A s s.heap) (hS : va_S A s.heap H locs) (hsize : ls.size = c.maxLocals)
    (d0 : decode cc pc = .ok (.new ik, 3)) (d3 : decode cc (pc + 3) = .ok (.dup, 1)) (d4 : decode cc (pc + 4) = .ok (.invokespecial ic, 3)) (d7 : decode cc (pc + 7) = .ok (.athrow, 1))
    (hout : ∀ x ∈ c.exceptionTable.toList, covers x (pc + 7) = false)
    (hRframes : names.length + 3 < R.frames) (hRlocals : (rest.map fun v => v.category).sum + (13 * (names.length + 1) + 42) ≤ R.locals) (hRcells : cells + 1 ≤ R.cells) (hRslots : slots + 6 ≤ R.slots) (hlocks : meth.locks = false)
    (hx : ∀ t : State, s.vm.Alike t.vm → H.size ≤ t.heap.size → (∀ q : Nat, q < H.size → t.heap[q]? = H[q]?) → XC cls s t)
    (hf : ∀ z ∈ locs, free z.base) (hc : cells + 1 ≤ mc) (hs : slots + 6 ≤ ms) :
    W p l e R s m args below meth c H locs cells slots (vx_MQ below Qc XC args s mc ms free) (F0 m pc ls rest) := by
  intro T hT X
  have htr : e.platform.stackTraces = false := (show e.platform.stackTraces = l.stackTraces by rw [X.admits.platform]).trans hl
  have Y := vx_rebase X (R' := { frames := R.frames, locals := R.locals, cells := 1, slots := 6 }) (Nat.le_refl _) (Nat.le_refl _) hRcells hRslots
  obtain ⟨s', hA⟩ : ∃ z, z = (T.setVm s.vm).setFrames (.invoking m args :: below) := ⟨_, rfl⟩
  rw [← hA] at Y
  have hvm : s'.vm = s.vm := by rw [hA]; rfl
  have hhp : s'.heap = H := by rw [hA]; exact hT
  have hW0 : s.WarmedH s'.vm := by rw [hvm]; exact State.WarmedH.refl s
  have hat' : ∀ w ∈ vx_at0 own ic cls names, w.before args s' = true := fun w hw => vx_ot_at hW0 hvm.symm (hgood w (List.mem_cons_of_mem _ (List.mem_cons_of_mem _ hw))) (hat w hw)
  have hk' : (Cond.classLink own ik cls).before args s' = true := vx_ot_at hW0 hvm.symm (hgood _ List.mem_cons_self) hk
  have hini' : (Cond.initialized cls).before args s' = true := vx_ot_at hW0 hvm.symm (hgood _ (List.mem_cons_of_mem _ List.mem_cons_self)) hini
  have hU' : vx_Zq Bundle.tN "UNASSIGNED_STACK" Bundle.steD A s' s'.heap := by rw [hhp]; exact vx_Zq.moved hW0.alike (hU.kept hS.2.1)
  have hN' : vx_Zq Bundle.tN "SUPPRESSED_SENTINEL" Bundle.listD A s' s'.heap := by rw [hhp]; exact vx_Zq.moved hW0.alike (hN.kept hS.2.1)
  have h : ∀ w ∈ Bundle.ownAtoms0 own ic cls names, w.before args s' = true := vx_own hat' (vx_isRefq hU'.1) (vx_isRefq hN'.1) hU'.2.word hN'.2.word
  have hown' : s'.vm.findClass own = some m.cls := by rw [hvm]; exact hown
  have hins : (Cond.instantiable cls 6).before args s' = true := h _ (by simp [Bundle.ownAtoms0])
  obtain ⟨vm₁, cX, kX, hfX, hkX, -, -, X₁, st1⟩ := Y.newCold hexec (own := own) (C := cls) (index := ik) (n := 6) hown' hk' hins hini'
    (g := F0 m pc ls rest) rfl (by rw [hb]; exact d0) (Nat.le_refl _) (Nat.le_refl _)
  generalize hT1 : (T.setVm vm₁).pushCell { cls := cX, slots := kX.instanceTypes.map defaultValue, vm := .none } = T1 at X₁ st1
  have hcat : (Value.ref T.heap.size).category = 1 := rfl
  have hcellA : T1.heap[T.heap.size]? = some (freshCell cX kX) := by rw [← hT1]; exact State.heap_pushCell_size _ _
  have d3' : decode c.code (pc + 3) = .ok (.dup, 1) := by rw [hb]; exact d3
  obtain ⟨U, hsteps, hrun, hend, hW, hsame, ce, hce, hO⟩ := X₁.ctorThrow0 hexec htr (own := own) (cls := cls) (names := names) (ic := ic) hown' hcls hnames h (fun x hx => nomatch hx) hfX hkX hcellA (by rw [hhp, hT]; exact Nat.le_refl _)
    (g := { method := m, pc := pc + 4, locals := ls, stack := .ref T.heap.size :: .ref T.heap.size :: rest, locked := none }) rfl hsize rfl rfl (rest := rest) rfl
    (by rw [hb]; exact d4) (by rw [hb]; exact d7) hout hRframes (by simp only [List.map_cons, List.sum_cons, hcat]; omega) hlocks
  obtain ⟨f1, f2⟩ := vx_frame hsame
  rw [hhp] at f1 f2
  have hWs : s.WarmedH U.vm := State.WarmedH.trans hW0 hW
  have hcl : s.vm.findClass cls = some ce.cls := by
    have h9 := hO.cls
    rw [hvm] at h9
    exact h9
  have hall : s.sameButNew ({ U with vm := s.vm } : State) locs mc ms := by
    subst hA
    obtain ⟨e1, e2⟩ := hsame
    rw [State.setFrames_setFrames] at e1
    have h2 : (T.setVm s.vm).sameButNew ({ U with vm := s.vm } : State) [] (0 + 1) (0 + 6) := ⟨e1, e2⟩
    have h3 := X.same.trans h2
    rw [List.append_nil] at h3
    exact h3.mono hc hs
  refine ⟨U, ?_, .threw T.heap.size, hrun, hend, Or.inr ⟨T.heap.size, rfl, cls, ce, locs, hx U hWs.alike f1 (fun q hq => f2 q hq (fun z hz => nomatch hz)), hce, hO.vm, hcl, hWs, hall, hf⟩⟩
  refine st1 _ ?_
  show Steps p.tables e below (T1.setTop { method := m, pc := pc + 3, locals := ls, stack := .ref T.heap.size :: rest, locked := none }) _
  jvm_step X₁.here [X₁.here.top, hexec, d3', Value.category]
  exact hsteps
/-- 'throw new E("text")': new; dup; ldc; invokespecial; athrow -/
theorem vx_throwS {cc : ByteArray} {pc : Nat} (hexec : p.tables.exec = Jvm.exec) (hb : c.code = cc) (hl : l.stackTraces = false) {own cls text : String} {names : List String} {ik is ic mc ms sa : Nat} {A : Nat → Prop}
    (hown : s.vm.findClass own = some m.cls) (hcls : Bundle.fit cls = true) (hnames : ∀ n ∈ names, Bundle.fit n = true)
    (hk : (Cond.classLink own ik cls).before args s = true) (hini : (Cond.initialized cls).before args s = true) (hstr : vk_R own is text sa s) (hat : ∀ w ∈ vx_atS own ic cls names, w.before args s = true)
    (hgood : ∀ w ∈ Cond.classLink own ik cls :: Cond.initialized cls :: vx_atS own ic cls names, vx_ot w = true)
    (hU : vx_Zq Bundle.tN "UNASSIGNED_STACK" Bundle.steD A s s.heap) (hN : vx_Zq Bundle.tN "SUPPRESSED_SENTINEL" Bundle.listD A s s.heap) (hS : va_S A s.heap H locs) (hsize : ls.size = c.maxLocals)
    (d0 : decode cc pc = .ok (.new ik, 3)) (d3 : decode cc (pc + 3) = .ok (.dup, 1)) (d4 : decode cc (pc + 4) = .ok (.ldc is, 2)) (d6 : decode cc (pc + 6) = .ok (.invokespecial ic, 3)) (d9 : decode cc (pc + 9) = .ok (.athrow, 1))
    (hout : ∀ x ∈ c.exceptionTable.toList, covers x (pc + 9) = false)
    (hRframes : names.length + 3 < R.frames) (hRlocals : (rest.map fun v => v.category).sum + (13 * (names.length + 1) + 43) ≤ R.locals) (hRcells : cells + 1 ≤ R.cells) (hRslots : slots + 6 ≤ R.slots) (hlocks : meth.locks = false)
    (hx : ∀ t : State, s.vm.Alike t.vm → H.size ≤ t.heap.size → (∀ q : Nat, q < H.size → t.heap[q]? = H[q]?) → XC cls s t)
    (hf : ∀ z ∈ locs, free z.base) (hc : cells + 1 ≤ mc) (hs : slots + 6 ≤ ms) :
    W p l e R s m args below meth c H locs cells slots (vx_MQ below Qc XC args s mc ms free) (F0 m pc ls rest) := by
  intro T hT X
  have htr : e.platform.stackTraces = false := (show e.platform.stackTraces = l.stackTraces by rw [X.admits.platform]).trans hl
  have Y := vx_rebase X (R' := { frames := R.frames, locals := R.locals, cells := 1, slots := 6 }) (Nat.le_refl _) (Nat.le_refl _) hRcells hRslots
  obtain ⟨s', hA⟩ : ∃ z, z = (T.setVm s.vm).setFrames (.invoking m args :: below) := ⟨_, rfl⟩
  rw [← hA] at Y
  have hvm : s'.vm = s.vm := by rw [hA]; rfl
  have hhp : s'.heap = H := by rw [hA]; exact hT
  have hW0 : s.WarmedH s'.vm := by rw [hvm]; exact State.WarmedH.refl s
  have hat' : ∀ w ∈ vx_atS own ic cls names, w.before args s' = true := fun w hw => vx_ot_at hW0 hvm.symm (hgood w (List.mem_cons_of_mem _ (List.mem_cons_of_mem _ hw))) (hat w hw)
  have hk' : (Cond.classLink own ik cls).before args s' = true := vx_ot_at hW0 hvm.symm (hgood _ List.mem_cons_self) hk
  have hini' : (Cond.initialized cls).before args s' = true := vx_ot_at hW0 hvm.symm (hgood _ (List.mem_cons_of_mem _ List.mem_cons_self)) hini
  have hU' : vx_Zq Bundle.tN "UNASSIGNED_STACK" Bundle.steD A s' s'.heap := by rw [hhp]; exact vx_Zq.moved hW0.alike (hU.kept hS.2.1)
  have hN' : vx_Zq Bundle.tN "SUPPRESSED_SENTINEL" Bundle.listD A s' s'.heap := by rw [hhp]; exact vx_Zq.moved hW0.alike (hN.kept hS.2.1)
  have h : ∀ w ∈ Bundle.ownAtoms own ic cls names, w.before args s' = true := vx_own hat' (vx_isRefq hU'.1) (vx_isRefq hN'.1) hU'.2.word hN'.2.word
  have hown' : s'.vm.findClass own = some m.cls := by rw [hvm]; exact hown
  have hins : (Cond.instantiable cls 6).before args s' = true := h _ (by simp [Bundle.ownAtoms])
  obtain ⟨vm₁, cX, kX, hfX, hkX, -, -, X₁, st1⟩ := Y.newCold hexec (own := own) (C := cls) (index := ik) (n := 6) hown' hk' hins hini'
    (g := F0 m pc ls rest) rfl (by rw [hb]; exact d0) (Nat.le_refl _) (Nat.le_refl _)
  generalize hT1 : (T.setVm vm₁).pushCell { cls := cX, slots := kX.instanceTypes.map defaultValue, vm := .none } = T1 at X₁ st1
  have hcat : (Value.ref T.heap.size).category = 1 := rfl
  have hcellA : T1.heap[T.heap.size]? = some (freshCell cX kX) := by rw [← hT1]; exact State.heap_pushCell_size _ _
  have d3' : decode c.code (pc + 3) = .ok (.dup, 1) := by rw [hb]; exact d3
  have d4' : decode c.code (pc + 4) = .ok (.ldc is, 2) := by rw [hb]; exact d4
  have hstr' : vk_R own is text sa s' := vk_R.warm hW0 hstr
  obtain ⟨U, hsteps, hrun, hend, hW, hsame, ce, hce, hO⟩ := X₁.ctorThrowS hexec htr (own := own) (cls := cls) (names := names) (ic := ic) hown' hcls hnames h (fun x hx => nomatch hx) hfX hkX hcellA (by rw [hhp, hT]; exact Nat.le_refl _) (msg := .ref sa) rfl
    (g := { method := m, pc := pc + 6, locals := ls, stack := .ref sa :: .ref T.heap.size :: .ref T.heap.size :: rest, locked := none }) rfl hsize rfl rfl (rest := rest) rfl
    (by rw [hb]; exact d6) (by rw [hb]; exact d9) hout hRframes (by simp only [List.map_cons, List.sum_cons, hcat]; omega) hlocks
  obtain ⟨f1, f2⟩ := vx_frame hsame
  rw [hhp] at f1 f2
  have hWs : s.WarmedH U.vm := State.WarmedH.trans hW0 hW
  have hcl : s.vm.findClass cls = some ce.cls := by
    have h9 := hO.cls
    rw [hvm] at h9
    exact h9
  have hall : s.sameButNew ({ U with vm := s.vm } : State) locs mc ms := by
    subst hA
    obtain ⟨e1, e2⟩ := hsame
    rw [State.setFrames_setFrames] at e1
    have h2 : (T.setVm s.vm).sameButNew ({ U with vm := s.vm } : State) [] (0 + 1) (0 + 6) := ⟨e1, e2⟩
    have h3 := X.same.trans h2
    rw [List.append_nil] at h3
    exact h3.mono hc hs
  refine ⟨U, ?_, .threw T.heap.size, hrun, hend, Or.inr ⟨T.heap.size, rfl, cls, ce, locs, hx U hWs.alike f1 (fun q hq => f2 q hq (fun z hz => nomatch hz)), hce, hO.vm, hcl, hWs, hall, hf⟩⟩
  refine st1 _ ?_
  show Steps p.tables e below (T1.setTop { method := m, pc := pc + 3, locals := ls, stack := .ref T.heap.size :: rest, locked := none }) _
  jvm_step X₁.here [X₁.here.top, hexec, d3', Value.category]
  exact X₁.ldcString hexec (own := own) (text := text) (index := is) (a := sa) hown' hstr'.1 hstr'.2
    (g := { method := m, pc := pc + 4, locals := ls, stack := .ref T.heap.size :: .ref T.heap.size :: rest, locked := none }) rfl d4' _ hsteps
/-- 'throw new E("text")', the text by a wide index -/
theorem vx_throwSW {cc : ByteArray} {pc : Nat} (hexec : p.tables.exec = Jvm.exec) (hb : c.code = cc) (hl : l.stackTraces = false) {own cls text : String} {names : List String} {ik is ic mc ms sa : Nat} {A : Nat → Prop}
    (hown : s.vm.findClass own = some m.cls) (hcls : Bundle.fit cls = true) (hnames : ∀ n ∈ names, Bundle.fit n = true)
    (hk : (Cond.classLink own ik cls).before args s = true) (hini : (Cond.initialized cls).before args s = true) (hstr : vk_R own is text sa s) (hat : ∀ w ∈ vx_atS own ic cls names, w.before args s = true)
    (hgood : ∀ w ∈ Cond.classLink own ik cls :: Cond.initialized cls :: vx_atS own ic cls names, vx_ot w = true)
    (hU : vx_Zq Bundle.tN "UNASSIGNED_STACK" Bundle.steD A s s.heap) (hN : vx_Zq Bundle.tN "SUPPRESSED_SENTINEL" Bundle.listD A s s.heap) (hS : va_S A s.heap H locs) (hsize : ls.size = c.maxLocals)
    (d0 : decode cc pc = .ok (.new ik, 3)) (d3 : decode cc (pc + 3) = .ok (.dup, 1)) (d4 : decode cc (pc + 4) = .ok (.ldc_w is, 3)) (d7 : decode cc (pc + 7) = .ok (.invokespecial ic, 3)) (d10 : decode cc (pc + 10) = .ok (.athrow, 1))
    (hout : ∀ x ∈ c.exceptionTable.toList, covers x (pc + 10) = false)
    (hRframes : names.length + 3 < R.frames) (hRlocals : (rest.map fun v => v.category).sum + (13 * (names.length + 1) + 43) ≤ R.locals) (hRcells : cells + 1 ≤ R.cells) (hRslots : slots + 6 ≤ R.slots) (hlocks : meth.locks = false)
    (hx : ∀ t : State, s.vm.Alike t.vm → H.size ≤ t.heap.size → (∀ q : Nat, q < H.size → t.heap[q]? = H[q]?) → XC cls s t)
    (hf : ∀ z ∈ locs, free z.base) (hc : cells + 1 ≤ mc) (hs : slots + 6 ≤ ms) :
    W p l e R s m args below meth c H locs cells slots (vx_MQ below Qc XC args s mc ms free) (F0 m pc ls rest) := by
  intro T hT X
  have htr : e.platform.stackTraces = false := (show e.platform.stackTraces = l.stackTraces by rw [X.admits.platform]).trans hl
  have Y := vx_rebase X (R' := { frames := R.frames, locals := R.locals, cells := 1, slots := 6 }) (Nat.le_refl _) (Nat.le_refl _) hRcells hRslots
  obtain ⟨s', hA⟩ : ∃ z, z = (T.setVm s.vm).setFrames (.invoking m args :: below) := ⟨_, rfl⟩
  rw [← hA] at Y
  have hvm : s'.vm = s.vm := by rw [hA]; rfl
  have hhp : s'.heap = H := by rw [hA]; exact hT
  have hW0 : s.WarmedH s'.vm := by rw [hvm]; exact State.WarmedH.refl s
  have hat' : ∀ w ∈ vx_atS own ic cls names, w.before args s' = true := fun w hw => vx_ot_at hW0 hvm.symm (hgood w (List.mem_cons_of_mem _ (List.mem_cons_of_mem _ hw))) (hat w hw)
  have hk' : (Cond.classLink own ik cls).before args s' = true := vx_ot_at hW0 hvm.symm (hgood _ List.mem_cons_self) hk
  have hini' : (Cond.initialized cls).before args s' = true := vx_ot_at hW0 hvm.symm (hgood _ (List.mem_cons_of_mem _ List.mem_cons_self)) hini
  have hU' : vx_Zq Bundle.tN "UNASSIGNED_STACK" Bundle.steD A s' s'.heap := by rw [hhp]; exact vx_Zq.moved hW0.alike (hU.kept hS.2.1)
  have hN' : vx_Zq Bundle.tN "SUPPRESSED_SENTINEL" Bundle.listD A s' s'.heap := by rw [hhp]; exact vx_Zq.moved hW0.alike (hN.kept hS.2.1)
  have h : ∀ w ∈ Bundle.ownAtoms own ic cls names, w.before args s' = true := vx_own hat' (vx_isRefq hU'.1) (vx_isRefq hN'.1) hU'.2.word hN'.2.word
  have hown' : s'.vm.findClass own = some m.cls := by rw [hvm]; exact hown
  have hins : (Cond.instantiable cls 6).before args s' = true := h _ (by simp [Bundle.ownAtoms])
  obtain ⟨vm₁, cX, kX, hfX, hkX, -, -, X₁, st1⟩ := Y.newCold hexec (own := own) (C := cls) (index := ik) (n := 6) hown' hk' hins hini'
    (g := F0 m pc ls rest) rfl (by rw [hb]; exact d0) (Nat.le_refl _) (Nat.le_refl _)
  generalize hT1 : (T.setVm vm₁).pushCell { cls := cX, slots := kX.instanceTypes.map defaultValue, vm := .none } = T1 at X₁ st1
  have hcat : (Value.ref T.heap.size).category = 1 := rfl
  have hcellA : T1.heap[T.heap.size]? = some (freshCell cX kX) := by rw [← hT1]; exact State.heap_pushCell_size _ _
  have d3' : decode c.code (pc + 3) = .ok (.dup, 1) := by rw [hb]; exact d3
  have d4' : decode c.code (pc + 4) = .ok (.ldc_w is, 3) := by rw [hb]; exact d4
  have hstr' : vk_R own is text sa s' := vk_R.warm hW0 hstr
  obtain ⟨U, hsteps, hrun, hend, hW, hsame, ce, hce, hO⟩ := X₁.ctorThrowS hexec htr (own := own) (cls := cls) (names := names) (ic := ic) hown' hcls hnames h (fun x hx => nomatch hx) hfX hkX hcellA (by rw [hhp, hT]; exact Nat.le_refl _) (msg := .ref sa) rfl
    (g := { method := m, pc := pc + 7, locals := ls, stack := .ref sa :: .ref T.heap.size :: .ref T.heap.size :: rest, locked := none }) rfl hsize rfl rfl (rest := rest) rfl
    (by rw [hb]; exact d7) (by rw [hb]; exact d10) hout hRframes (by simp only [List.map_cons, List.sum_cons, hcat]; omega) hlocks
  obtain ⟨f1, f2⟩ := vx_frame hsame
  rw [hhp] at f1 f2
  have hWs : s.WarmedH U.vm := State.WarmedH.trans hW0 hW
  have hcl : s.vm.findClass cls = some ce.cls := by
    have h9 := hO.cls
    rw [hvm] at h9
    exact h9
  have hall : s.sameButNew ({ U with vm := s.vm } : State) locs mc ms := by
    subst hA
    obtain ⟨e1, e2⟩ := hsame
    rw [State.setFrames_setFrames] at e1
    have h2 : (T.setVm s.vm).sameButNew ({ U with vm := s.vm } : State) [] (0 + 1) (0 + 6) := ⟨e1, e2⟩
    have h3 := X.same.trans h2
    rw [List.append_nil] at h3
    exact h3.mono hc hs
  refine ⟨U, ?_, .threw T.heap.size, hrun, hend, Or.inr ⟨T.heap.size, rfl, cls, ce, locs, hx U hWs.alike f1 (fun q hq => f2 q hq (fun z hz => nomatch hz)), hce, hO.vm, hcl, hWs, hall, hf⟩⟩
  refine st1 _ ?_
  show Steps p.tables e below (T1.setTop { method := m, pc := pc + 3, locals := ls, stack := .ref T.heap.size :: rest, locked := none }) _
  jvm_step X₁.here [X₁.here.top, hexec, d3', Value.category]
  exact X₁.ldcStringW hexec (own := own) (text := text) (index := is) (a := sa) hown' hstr'.1 hstr'.2
    (g := { method := m, pc := pc + 4, locals := ls, stack := .ref T.heap.size :: .ref T.heap.size :: rest, locked := none }) rfl d4' _ hsteps
end Ends
section Bodies
variable {l : Launch}
theorem vx_ofW {y : MethodName} {ws ws' : List Cond} {rm : Room} {Pc : Array Value → State → Prop} {Qc : Array Value → State → Outcome → State → Prop} {XC : String → State → State → Prop} {mc ms : Nat} {free : Addr → Prop} {cc : ByteArray} {maxL : Nat} {ret : Option FieldType}
    (hy : plainName y.cls = true) (hw : ws = Cond.code y cc maxL ret :: ws')
    (body : ∀ p e s m args below meth c s₁, BodyLoose p l y (headSpec ws rm) cc maxL ret e s m args below meth c s₁ → c.maxLocals = maxL → (∀ x ∈ c.exceptionTable.toList, False) → Pc args s →
      W p l e (headSpec ws rm).room s m args below meth c s.heap [] 0 0 (vx_MQ below Qc XC args s mc ms free) (entryFrame m args maxL)) : vx_Met l y ws rm Pc Qc XC mc ms free := by
  refine MetFree.of_bodyS (code := cc) (maxLocals := maxL) (ret := ret) hy ?_ ?_
  · intro args s m h hn
    obtain ⟨meth, c, h1, h2, h3, h4, h5, h6, -, -⟩ := Cond.code_spec hn (atoms_spec (ws := ws) h _ (by rw [hw]; exact List.mem_cons_self))
    exact ⟨meth, c, h1, h2, h3, h4, h5, h6⟩
  · intro p e s m args below meth c s₁ B hml hP _
    have hh0 : s₁.heap = s.heap := by rw [B.state]; rfl
    have ht : ∀ x ∈ c.exceptionTable.toList, False := by
      obtain ⟨meth9, c9, h1, h2, -, -, -, -, h7, -⟩ := Cond.code_spec B.named (atoms_spec (ws := ws) B.pre _ (by rw [hw]; exact List.mem_cons_self))
      cases Option.some.inj (h1.symm.trans B.method)
      cases Option.some.inj (h2.symm.trans (Stand.of_body B).code)
      intro x hx
      rw [Array.isEmpty_iff.mp h7] at hx
      cases hx
    obtain ⟨t, a1, o, b1, b2, b3⟩ := body p e s m args below meth c s₁ B hml ht hP s₁ hh0 (Stand.of_body B)
    exact ⟨t, o, a1, b1, b2, b3⟩
/-- the table of a body with handlers -/
theorem vx_table {p : Program} {x y : MethodName} {S : Spec} {cc bytes : ByteArray} {maxL maxL' : Nat} {ret ret' : Option FieldType} {e : Env} {s s₁ : State} {m : MethodId} {args : Array Value} {below : List Frame} {meth : Method} {c : Code} {hh : List (Nat × Nat × Nat × Nat)}
    (B : BodyLoose p l y S cc maxL ret e s m args below meth c s₁) (h : (Cond.codeWith y bytes maxL' ret' hh).before args s = true) : c.exceptionTable.toList = tableOf hh := by
  obtain ⟨m9, meth9, c9, hn9, h1, h2, -, -, h6, -⟩ := Cond.codeWith_spec h
  cases Option.some.inj (hn9.symm.trans B.named)
  cases Option.some.inj (h1.symm.trans B.method)
  cases Option.some.inj (h2.symm.trans (Stand.of_body B).code)
  rw [← h6, table_eq]
end Bodies
end VXA
/-! ===== END ===== -/
/-! ===== BEGIN a static call of a method with an exception table ===== -/
section VXS
variable {p : Program} {l : Launch} {e : Env} {R : Room} {s : State} {m : MethodId} {args : Array Value} {below : List Frame} {meth : Method} {c : Code} {T : State} {H : Heap} {locs : List Loc} {cells slots : Nat}
abbrev vx_CSW (R : Room) (s : State) (args : Array Value) (own : String) (index : Nat) (y : MethodName) (bytes : ByteArray) (maxL : Nat) (ret : Option FieldType) (hh : List (Nat × Nat × Nat × Nat)) (ws : List Cond) (rm : Room) (mc ms n : Nat) : Prop :=
  (rm.cells = mc ∧ rm.slots = ms ∧ rm.frames + 1 ≤ R.frames ∧ 8 + (maxL + 11) + rm.locals ≤ R.locals ∧ (∀ w ∈ ws, ∀ (a' : Array Value) (U : State), s.WarmedH U.vm → w.before a' U = true) ∧ Cond.codeWith y bytes maxL ret hh ∈ ws) ∧
  (Cond.codeWith y bytes maxL ret hh).before args s = true ∧ (Cond.initialized y.cls).before args s = true ∧ (y.cls ≠ "java/lang/invoke/MethodHandle" ∧ y.cls ≠ "java/lang/invoke/VarHandle") ∧
  (∀ sig, parseMethodDescriptor y.desc = some sig → n = sig.parameters.length) ∧ (Cond.methodLink own index y).before args s = true ∧ (Cond.static y).before args s = true
theorem vx_cwSW {own : String} {index maxL mc ms : Nat} {y : MethodName} {bytes : ByteArray} {ret : Option FieldType} {hh : List (Nat × Nat × Nat × Nat)} {Ts ws ws' : List Cond} {rm : Room} (n : Nat) (ht : ∀ w ∈ Ts, w.before args s = true) (hT : GoodIn Ts (va_wsS own index y ws)) (hw : ws = Cond.codeWith y bytes maxL ret hh :: ws') (hrc : rm.cells = mc) (hrs : rm.slots = ms)
    (hd : y.cls ≠ "java/lang/invoke/MethodHandle" ∧ y.cls ≠ "java/lang/invoke/VarHandle" ∧ (parseMethodDescriptor y.desc).map (fun d => d.parameters.length) = some n) (hR : rm.frames + 1 ≤ R.frames ∧ 8 + (maxL + 11) + rm.locals ≤ R.locals) :
    vx_CSW R s args own index y bytes maxL ret hh ws rm mc ms n := by
  have ok : ∀ w ∈ va_wsS own index y ws, w.before args s = true := fun w h => ht w (hT w h).1
  have hG : GoodIn Ts ws := fun w h => hT w (by unfold va_wsS; exact List.mem_append_right _ h)
  have hc : Cond.codeWith y bytes maxL ret hh ∈ ws := by rw [hw]; exact List.mem_cons_self
  refine ⟨⟨hrc, hrs, hR.1, hR.2, pay_in ht hG, hc⟩, ht _ (hG _ hc).1, ok _ (by simp [va_wsS]), ⟨hd.1, hd.2.1⟩, fun sig h => ?_, ok _ (by simp [va_wsS]), ok _ (by simp [va_wsS])⟩
  have h2 := hd.2.2
  rw [h] at h2
  exact (Option.some.inj h2).symm
theorem vx_callSW (X : Stand p l e R s m args below meth c T locs cells slots) (hexec : p.tables.exec = Jvm.exec) {own : String} {index : Nat} {y : MethodName} {bytes : ByteArray} {maxL : Nat} {ret : Option FieldType} {hh : List (Nat × Nat × Nat × Nat)}
    (hown : s.vm.findClass own = some m.cls) (hlink : (Cond.methodLink own index y).before args s = true) (hstat : (Cond.static y).before args s = true) (hinit : (Cond.initialized y.cls).before args s = true)
    (hcode : (Cond.codeWith y bytes maxL ret hh).before args s = true) (hy : y.cls ≠ "java/lang/invoke/MethodHandle" ∧ y.cls ≠ "java/lang/invoke/VarHandle")
    {W9 : Nat} {Pre : Pt → Array Value → Prop} {Post : Pt → Array Value → Option Value → Pt → Prop} (hK : Back l R p e below s args y 3 W9 Pre Post)
    {g : JFrame} (hg : g.method = m) (hsize : g.locals.size = c.maxLocals) {argsL rest : List Value} (hlen : ∀ sig, parseMethodDescriptor y.desc = some sig → argsL.length = sig.parameters.length)
    (hstack : g.stack = argsL.reverse ++ rest) (hW : 2 * g.monitorRoom + (rest.map fun v => v.category).sum ≤ W9) (hdg : decode c.code g.pc = .ok (.invokestatic index, 3))
    (hpre : ∀ vm₁, s.WarmedH vm₁ → Pre ⟨T.setVm vm₁, locs, cells, slots⟩ argsL.toArray) :
    ∃ (v : Option Value) (vm₁ : Vm) (B : Pt), s.WarmedH vm₁ ∧ Stand p l e R s m args below meth c B.U B.locs B.cells B.slots ∧ Post ⟨T.setVm vm₁, locs, cells, slots⟩ argsL.toArray v B ∧
      ∀ target, Steps p.tables e below (B.U.setTop { g with pc := g.pc + 3, stack := v.toList ++ rest }) target → Steps p.tables e below (T.setTop g) target := by
  obtain ⟨mk, methM, cM, hnamed, hmethM, -, -, -, -, -, -, hsigM⟩ := Cond.codeWith_spec hcode
  have hstatic : methM.isStatic = true := Cond.static_spec hnamed hmethM hstat
  obtain ⟨kP, hkP, -⟩ := className_of_methodNamed hnamed
  have hinitP : kP.init = .initialized := Cond.initialized_spec (findClass_of_methodNamed hnamed) hkP hinit
  obtain ⟨vm₁, X₁, hstep₁⟩ := X.invokestatic hexec hown hlink hnamed hmethM hstatic hkP hinitP hy (g := g) hg (argsL := argsL) (rest := rest) (hlen _ hsigM) hstack hdg
  obtain ⟨v, B, X', hpost, hsteps⟩ := hK m meth c ⟨T.setVm vm₁, locs, cells, slots⟩ { g with stack := rest } (.invokestatic index) mk argsL.toArray X₁ hg hsize hdg hW (X₁.named hnamed) (hpre vm₁ X₁.warmed)
  exact ⟨v, vm₁, B, X₁.warmed, X', hpost, fun target h => hstep₁ _ fun acts => by rw [doInvoke_state]; exact hsteps.trans h⟩
theorem vx_runSW {y : MethodName} {bytes cc : ByteArray} {maxL nL mc ms n index : Nat} {ret : Option FieldType} {hh : List (Nat × Nat × Nat × Nat)} {ws : List Cond} {rm : Room} {Pc : Array Value → State → Prop} {Qc : Array Value → State → Outcome → State → Prop} {free : Addr → Prop} {Ts : List Cond} {own : String} {As rest : List Value} {g : JFrame}
    (S : CallFix p m c cc nL s args Ts own) (hM : Met l y ws rm Pc Qc mc ms free) (cw : vx_CSW R s args own index y bytes maxL ret hh ws rm mc ms n) (hp : PreS s H Pc As)
    (hg : g.method = m) (hn : As.length = n) (hsize : g.locals.size = nL) (hstack : g.stack = As.reverse ++ rest) (hW : 2 * g.monitorRoom + (rest.map fun v => v.category).sum ≤ 8) (hdg : decode cc g.pc = .ok (.invokestatic index, 3)) (hf : cells + mc ≤ R.cells ∧ slots + ms ≤ R.slots) :
    va_Run p l e R s m args below meth c H locs cells slots mc ms g rest (Qc As.toArray) (free) := by
  obtain ⟨⟨hrc, hrs, hfr, hlo, hws, hcw⟩, hcode, hini, hy, hlen, hl, hstt⟩ := cw
  have hK : Back l R p e below s args y 3 8 (PreOf R mc ms Pc) (PostOf Qc mc ms free) := va_backW (hh := hh) (bytes := bytes) (maxL := maxL) (ret := ret) hM hp.1 hrc hrs hfr hlo hws hcw (fun a' U hW => word_at hW (Or.inl (by first | rfl | simp [Cond.onTables, Cond.keeps, Cond.steady])) hini)
  obtain ⟨hx, hb, hml, ho, -⟩ := S
  intro T hT X
  obtain ⟨v, vm₁, ⟨U', l2, c2, s2⟩, hW₁, X', ⟨g', mk, t, L, e1, e2, hq, h1, hL, h2, h3⟩, st⟩ := vx_callSW X hx (hh := hh) (bytes := bytes) (maxL := maxL) (ret := ret) ho hl hstt hini hcode hy hK hg (hsize.trans hml.symm) (argsL := As) (rest := rest) (fun sig h => hn.trans (hlen sig h)) hstack hW (by rw [hb]; exact hdg)
    (fun vm₁ hW₁ => ⟨hf.1, hf.2, hp.2 (T.setVm vm₁) hT hW₁⟩)
  dsimp only [Pt.U, Pt.locs, Pt.cells, Pt.slots] at X' e1 e2 h1 h2 h3 st
  subst h1; subst h2; subst h3
  exact ⟨v, (T.setVm vm₁).calling g' mk As.toArray, t, U', L, hT, X', hL, e1, e2, hq, st⟩
/-- not caught here, past rows that name other classes: it goes on to the caller -/
theorem vx_outP {p : Program} {l : Launch} {e : Env} {R : Room} {s : State} {m : MethodId} {args : Array Value} {below : List Frame} {meth : Method} {c : Code} {H : Heap} {locs : List Loc} {cells slots : Nat} {free : Addr → Prop} {ls : Array Slot} {rest : List Value} {Qc : Array Value → State → Outcome → State → Prop} {XC : String → State → State → Prop}
    {pc : Nat} {own E : String} {ce : Cell} {q : Addr} {mc ms : Nat} (hown : s.vm.findClass own = some m.cls) (hlocks : meth.locks = false)
    (hpass : ∀ z ∈ c.exceptionTable.toList, covers z pc = false ∨ (z.catchType ≠ 0 ∧ ∃ nm : String, (Cond.classLink own z.catchType nm).before args s = true ∧ va_Nc E nm s)) (hcell : H[q]? = some ce) (hv : ce.vm = .none) (hcl : s.vm.findClass E = some ce.cls)
    (hx : ∀ t : State, t.heap = H → s.vm.Alike t.vm → XC E s t) (hf : ∀ z ∈ locs, free z.base) (hc : cells ≤ mc) (hs : slots ≤ ms) :
    vx_W p l e R s m args below meth c H locs cells slots (vx_MQ below Qc XC args s mc ms free) (F0 m pc ls rest) q := by
  intro T hT X
  have hpl : e.platform.magicAccessors = ({} : Platform).magicAccessors := by rw [X.admits.platform]
  obtain ⟨vm', hW', X', st⟩ := X.outThrough hlocks q (g := F0 m pc ls rest) rfl rfl rfl (cell := ce) (by rw [hT]; exact hcell) (by rw [hv]; rfl)
    (by obtain ⟨k9, h9, -⟩ := Vm.findClass_spec hcl; exact ⟨k9, h9⟩) (fun z hz => by
      rcases hpass z hz with h | ⟨hz0, nm, hl1, hn1⟩
      · exact Or.inl h
      · obtain ⟨c6, hc6, hcl6⟩ := Cond.classLink_spec hown hl1 e.platform hpl
        obtain ⟨a8, b8, h1, h2, h3⟩ := hn1
        cases Option.some.inj (h1.symm.trans hcl)
        cases Option.some.inj (h2.symm.trans hc6)
        exact Or.inr ⟨hz0, _, hcl6, h3⟩)
  obtain ⟨g₀, hfr⟩ := X'.frames_eq
  have hcell9 : ((T.setVm vm').setFrames (.throwing q :: below)).heap[q]? = some ce := by
    show T.heap[q]? = some ce
    rw [hT]; exact hcell
  have hend : Ended ((T.setVm vm').setFrames (.throwing q :: below)) below (.threw q) := State.frames_setFrames _ (State.cur_lt_of_frames hfr)
  refine ⟨(T.setVm vm').setFrames (.throwing q :: below), ?_, .threw q, X'.here.running, hend, Or.inr ⟨q, rfl, E, ce, locs, hx _ hT (X'.ends _).1.alike, hcell9, hv, hcl, (X'.ends _).1, (X'.ends _).2.mono hc hs, hf⟩⟩
  rw [X.pushThrowing_eq]
  exact st
/-- a thing of a world lies in the heap -/
theorem vx_lt {D : va_G} {cl : List vw_C} {ws : va_W} {H1 : Heap} (h : va_P D cl ws H1) {k : Nat} {q : Nat × va_E} (hk : ws[k]? = some q) : q.1 < H1.size := (h k q hk).lt
end VXS
/-! ===== END ===== -/
/-! ===== BEGIN methods with a table of their own: called by a name, returning or throwing ===== -/
section VXH
/-! vx_backW, vx_callVX, vx_callSX, vx_callVW, vx_runVW, vx_runVX, vx_runSX, vx_ofWH follow the same proofs as their sisters above (Free/Laws.lean, Shelf42/LK1.lean); vx_outP calls Shelf42/NT130.lean (outThrough). -/
section
variable {l : Launch} {R : Room} {p : Program} {e : Env} {below : List Frame} {s : State} {sargs : Array Value} {y : MethodName} {len W9 : Nat}
theorem vx_backW {ws : List Cond} {rm : Room} {Pc : Array Value → State → Prop} {Qc : Array Value → State → Outcome → State → Prop} {XC : String → State → State → Prop} {mc ms : Nat} {free : Addr → Prop} {bytes : ByteArray} {maxL : Nat} {ret : Option FieldType} {hh : List (Nat × Nat × Nat × Nat)}
    (hM : vx_Met l y ws rm Pc Qc XC mc ms free) (hblind : FrameBlind Pc) (hrc : rm.cells = mc) (hrs : rm.slots = ms)
    (hframes : rm.frames + 1 ≤ R.frames) (hlocals : W9 + (maxL + 11) + rm.locals ≤ R.locals)
    (hws : ∀ w ∈ ws, ∀ a' U, s.WarmedH U.vm → w.before a' U = true) (hcode : Cond.codeWith y bytes maxL ret hh ∈ ws) (hinit : ∀ a' U, s.WarmedH U.vm → (Cond.initialized y.cls).before a' U = true) :
    vx_Back l R p e below s sargs y len W9 (PreOf R mc ms Pc) (PostOf Qc mc ms free) (vx_Post XC mc ms free) := by
  intro m meth c A g ig mk a X hg hsize hdg hW hn hp
  have h1 : (headSpec ws rm).pre.before a A.U = true := atoms_intro fun w hw => hws w hw _ _ X.warmed
  have h2 : (Cond.codeWith y bytes maxL ret hh).before a A.U = true := hws _ hcode _ _ X.warmed
  have h3 : (Cond.initialized y.cls).before a A.U = true := hinit _ _ X.warmed
  have h4 : A.cells + (headSpec ws rm).room.cells ≤ R.cells := by rw [show (headSpec ws rm).room.cells = mc from hrc]; exact hp.1
  have h5 : A.slots + (headSpec ws rm).room.slots ≤ R.slots := by rw [show (headSpec ws rm).room.slots = ms from hrs]; exact hp.2.1
  have hPc : Pc a (A.U.calling g mk a) := hblind _ _ _ _ hp.2.2
  obtain ⟨U, Ls, c0, s0⟩ := A
  dsimp only [Pt.U, Pt.locs, Pt.cells, Pt.slots] at h1 h2 h3 h4 h5 X hn hPc ⊢
  obtain ⟨m9, methY, cY, hn9, hmY, hcY, -, hlY, -⟩ := Cond.codeWith_spec h2
  cases Option.some.inj (hn9.symm.trans hn)
  obtain ⟨kY, hkY, -⟩ := className_of_methodNamed hn
  have hinitY : kY.init = .initialized := Cond.initialized_spec (findClass_of_methodNamed hn) hkY h3
  have h : At U g.method c below := by rw [hg]; exact X.here
  have hlocals9 : W9 + (maxL + 11) + (headSpec ws rm).room.locals ≤ R.locals := hlocals
  have happ : (headSpec ws rm).appliesLoose y e.platform (U.calling g mk a) = true :=
    Spec.appliesLoose_calling (g := g) h hdg hn hkY hinitY
      (X.room_calling (g := g) (R' := (headSpec ws rm).room) hsize hmY hcY hframes (by rw [hlY]; omega) h4 h5) h1
  obtain ⟨mid, hmid⟩ := h.above
  have hfr : (U.setTop g).frames = (.java g :: mid) ++ below := by rw [State.frames_setTop' g h.top, hmid]; rfl
  obtain ⟨o, s₂, hsteps, -, hend, hq⟩ := Steps.callFree hM p X.admits X.cas X.clock (acts := []) hfr happ hPc trivial
  have hq' : vx_Q Qc XC mc ms free a (U.calling g mk a) o s₂ := hq
  rw [State.frames_setTop' g h.top] at hend
  obtain ⟨g₀, hg0⟩ := Option.isSome_iff_exists.mp h.top
  obtain ⟨r, hr⟩ := State.topJava?_eq_some.mp hg0
  have hr' : (({ U with heap := s₂.heap, slotsUsed := s₂.slotsUsed } : State).setVm s₂.vm).frames = .java g₀ :: r := hr
  rcases hq' with ⟨hqc, L, hfe, hL⟩ | ⟨q, rfl, E, ce, L, hx, hce, hcv, hcl, hW₂, hsm, hL⟩
  · obtain ⟨⟨v, rfl⟩, hW₂, e2, q2, q3, q4, q5, q6⟩ := id hfe
    have e3 : s₂ = ({ (U.calling g mk a).setFrames s₂.frames with heap := s₂.heap, slotsUsed := s₂.slotsUsed } : State).setVm s₂.vm := by
      have : s₂ = ({ s₂ with vm := (U.calling g mk a).vm } : State).setVm s₂.vm := rfl
      rw [e2] at this
      exact this
    obtain ⟨c₂, i₂, len₂, hc₂, hd₂, hf₂⟩ := hend
    have hW' : U.WarmedH s₂.vm := hW₂
    have hcc : c₂ = c := by
      have h1 : s₂.code? g.method = U.code? g.method := by
        rw [State.code?_eq, State.code?_eq, hW'.alike.method?]
      exact Option.some.inj (hc₂.symm.trans (h1.trans h.code))
    subst hcc
    have hlen : len₂ = len := by rw [hdg] at hd₂; cases hd₂; rfl
    subst hlen
    have hs₂ : s₂ = (({ U with heap := s₂.heap, slotsUsed := s₂.slotsUsed } : State).setVm s₂.vm).setTop { g with pc := g.pc + len₂, stack := v.toList ++ g.stack } := by
      refine e3.trans ?_
      rw [hf₂, State.calling_eq h.top, State.setFrames_setFrames, State.setTop_of_frames _ hr', hr]
      rfl
    have hsame : U.sameButNew ({ U with heap := s₂.heap, slotsUsed := s₂.slotsUsed } : State) L mc ms := by
      refine ⟨?_, q2, q3, q4, q5, q6⟩
      obtain ⟨t, ht, -⟩ := State.frames_cons hr
      show ({ U with heap := s₂.heap, slotsUsed := s₂.slotsUsed } : State) = { U.setFrames U.frames with heap := s₂.heap, slotsUsed := s₂.slotsUsed }
      rw [State.setFrames_self ht]
    subst hg
    refine Or.inl ⟨v, ⟨(({ U with heap := s₂.heap, slotsUsed := s₂.slotsUsed } : State).setVm s₂.vm), Ls ++ L, c0 + mc, s0 + ms⟩,
      ⟨X.admits, X.cas, X.clock, X.frames, X.room, X.hears, X.method, X.code, (X.here.setHeapUsed s₂.heap s₂.slotsUsed).setVm hW'.alike, X.tail, State.WarmedH.trans X.warmed hW', X.limits, X.bytes, X.same.trans (hsame.setVm s.vm)⟩,
      ⟨g, mk, s₂, L, rfl, rfl, hqc, rfl, hL, rfl, rfl⟩, ?_⟩
    show Steps p.tables e below _ ((({ U with heap := s₂.heap, slotsUsed := s₂.slotsUsed } : State).setVm s₂.vm).setTop { g with pc := g.pc + len₂, stack := v.toList ++ g.stack })
    rw [← hs₂]
    exact hsteps
  · obtain ⟨e2, q2, q3, q4, q5, q6⟩ := id hsm
    have e3 : s₂ = ({ (U.calling g mk a).setFrames s₂.frames with heap := s₂.heap, slotsUsed := s₂.slotsUsed } : State).setVm s₂.vm := by
      have : s₂ = ({ s₂ with vm := (U.calling g mk a).vm } : State).setVm s₂.vm := rfl
      rw [e2] at this
      exact this
    have hf₂ : s₂.frames = .throwing q :: .java g :: U.frames.tail := hend
    have hW' : U.WarmedH s₂.vm := hW₂
    have hs₂ : s₂ = ((({ U with heap := s₂.heap, slotsUsed := s₂.slotsUsed } : State).setVm s₂.vm).setTop g).pushFrame (.throwing q) := by
      refine e3.trans ?_
      rw [hf₂, State.calling_eq h.top, State.setFrames_setFrames, State.pushFrame, State.frames_setTop _ hr', State.setTop_of_frames _ hr', State.setFrames_setFrames, hr]
      rfl
    have hsame : U.sameButNew ({ U with heap := s₂.heap, slotsUsed := s₂.slotsUsed } : State) L mc ms := by
      refine ⟨?_, q2, q3, q4, q5, q6⟩
      obtain ⟨t, ht, -⟩ := State.frames_cons hr
      show ({ U with heap := s₂.heap, slotsUsed := s₂.slotsUsed } : State) = { U.setFrames U.frames with heap := s₂.heap, slotsUsed := s₂.slotsUsed }
      rw [State.setFrames_self ht]
    subst hg
    refine Or.inr ⟨q, ⟨(({ U with heap := s₂.heap, slotsUsed := s₂.slotsUsed } : State).setVm s₂.vm), Ls ++ L, c0 + mc, s0 + ms⟩,
      ⟨X.admits, X.cas, X.clock, X.frames, X.room, X.hears, X.method, X.code, (X.here.setHeapUsed s₂.heap s₂.slotsUsed).setVm hW'.alike, X.tail, State.WarmedH.trans X.warmed hW', X.limits, X.bytes, X.same.trans (hsame.setVm s.vm)⟩,
      ⟨g, mk, s₂, L, E, ce, rfl, rfl, hx, hce, hcv, hcl, rfl, hL, rfl, rfl⟩, ?_⟩
    show Steps p.tables e below _ (((({ U with heap := s₂.heap, slotsUsed := s₂.slotsUsed } : State).setVm s₂.vm).setTop g).pushFrame (.throwing q))
    rw [← hs₂]
    exact hsteps
end
variable {p : Program} {l : Launch} {e : Env} {R : Room} {s : State} {m : MethodId} {args : Array Value} {below : List Frame} {meth : Method} {c : Code} {T : State} {H : Heap} {locs : List Loc} {cells slots : Nat}
theorem vx_callVX (X : Stand p l e R s m args below meth c T locs cells slots) (hexec : p.tables.exec = Jvm.exec) {own C : String} {index : Nat} {y : MethodName} {bytes : ByteArray} {maxL : Nat} {ret : Option FieldType} {hh : List (Nat × Nat × Nat × Nat)}
    (hown : s.vm.findClass own = some m.cls) (hlink : (Cond.methodLink own index y).before args s = true) (hinst : (Cond.instanceMethod y).before args s = true) (hsel : (Cond.selects C y y).before args s = true)
    (hcode : (Cond.codeWith y bytes maxL ret hh).before args s = true) (hy : y.cls ≠ "java/lang/invoke/MethodHandle" ∧ y.cls ≠ "java/lang/invoke/VarHandle")
    {W9 : Nat} {Pre : Pt → Array Value → Prop} {Post : Pt → Array Value → Option Value → Pt → Prop} {PostX : Pt → Array Value → Addr → Pt → Prop} (hK : vx_Back l R p e below s args y 3 W9 Pre Post PostX)
    {b : Addr} {cellB : Cell} (hcell : T.heap[b]? = some cellB) (hobj : cellB.vm.isStatics = false) (hcls : s.vm.findClass C = some cellB.cls)
    {g : JFrame} (hg : g.method = m) (hsize : g.locals.size = c.maxLocals) {argsL rest : List Value} (hlen : ∀ sig, parseMethodDescriptor y.desc = some sig → argsL.length = sig.parameters.length)
    (hstack : g.stack = argsL.reverse ++ .ref b :: rest) (hW : 2 * g.monitorRoom + (rest.map fun v => v.category).sum ≤ W9) (hdg : decode c.code g.pc = .ok (.invokevirtual index, 3))
    (hpre : ∀ vm₁, s.WarmedH vm₁ → Pre ⟨T.setVm vm₁, locs, cells, slots⟩ (Value.ref b :: argsL).toArray) :
    (∃ (v : Option Value) (vm₁ : Vm) (B : Pt), s.WarmedH vm₁ ∧ Stand p l e R s m args below meth c B.U B.locs B.cells B.slots ∧ Post ⟨T.setVm vm₁, locs, cells, slots⟩ (Value.ref b :: argsL).toArray v B ∧
      ∀ target, Steps p.tables e below (B.U.setTop { g with pc := g.pc + 3, stack := v.toList ++ rest }) target → Steps p.tables e below (T.setTop g) target) ∨
    (∃ (q : Addr) (vm₁ : Vm) (B : Pt), s.WarmedH vm₁ ∧ Stand p l e R s m args below meth c B.U B.locs B.cells B.slots ∧ PostX ⟨T.setVm vm₁, locs, cells, slots⟩ (Value.ref b :: argsL).toArray q B ∧
      Steps p.tables e below (T.setTop g) ((B.U.setTop { g with stack := rest }).pushFrame (.throwing q))) := by
  obtain ⟨mk, methM, hnamed, hmethM, hstM, habM⟩ := Cond.instanceMethod_spec hinst
  obtain ⟨m8, methM', cM, hn8, hmethM', -, -, -, -, -, -, hsigM⟩ := Cond.codeWith_spec hcode
  cases Option.some.inj (hn8.symm.trans hnamed)
  cases hmethM.symm.trans hmethM'
  obtain ⟨c2, r2, m2, q1, q2, q3, q4, kP, hkP, hkPi⟩ := Cond.selects_spec hsel
  cases hcls.symm.trans q1
  cases (State.methodFound?_of_named hnamed hy).symm.trans q2
  cases hnamed.symm.trans q3
  have hselP : selectMethod e.platform s.vm cellB.cls mk = .method mk := by rw [Launch.admits_selectMethod X.admits]; exact q4
  obtain ⟨vm₁, X₁, hstep₁⟩ := X.invokevirtual hexec hown hlink hnamed hmethM hstM hkP hkPi hy (a := b) (cell := cellB) hcell
    (fun z h => by rw [h] at hobj; cases hobj) hselP hmethM habM hkP hkPi (g := g) hg (argsL := argsL) (rest := rest) (hlen _ hsigM) hstack hdg
  rcases hK m meth c ⟨T.setVm vm₁, locs, cells, slots⟩ { g with stack := rest } (.invokevirtual index) mk (Value.ref b :: argsL).toArray X₁ hg hsize hdg hW (X₁.named hnamed) (hpre vm₁ X₁.warmed) with ⟨v, B, X', hpost, hsteps⟩ | ⟨q, B, X', hpost, hsteps⟩
  · exact Or.inl ⟨v, vm₁, B, X₁.warmed, X', hpost, fun target h => hstep₁ _ fun acts => by rw [doInvoke_state]; exact hsteps.trans h⟩
  · exact Or.inr ⟨q, vm₁, B, X₁.warmed, X', hpost, hstep₁ _ fun acts => by rw [doInvoke_state]; exact hsteps⟩
theorem vx_callSX (X : Stand p l e R s m args below meth c T locs cells slots) (hexec : p.tables.exec = Jvm.exec) {own : String} {index : Nat} {y : MethodName} {bytes : ByteArray} {maxL : Nat} {ret : Option FieldType} {hh : List (Nat × Nat × Nat × Nat)}
    (hown : s.vm.findClass own = some m.cls) (hlink : (Cond.methodLink own index y).before args s = true) (hstat : (Cond.static y).before args s = true) (hinit : (Cond.initialized y.cls).before args s = true)
    (hcode : (Cond.codeWith y bytes maxL ret hh).before args s = true) (hy : y.cls ≠ "java/lang/invoke/MethodHandle" ∧ y.cls ≠ "java/lang/invoke/VarHandle")
    {W9 : Nat} {Pre : Pt → Array Value → Prop} {Post : Pt → Array Value → Option Value → Pt → Prop} {PostX : Pt → Array Value → Addr → Pt → Prop} (hK : vx_Back l R p e below s args y 3 W9 Pre Post PostX)
    {g : JFrame} (hg : g.method = m) (hsize : g.locals.size = c.maxLocals) {argsL rest : List Value} (hlen : ∀ sig, parseMethodDescriptor y.desc = some sig → argsL.length = sig.parameters.length)
    (hstack : g.stack = argsL.reverse ++ rest) (hW : 2 * g.monitorRoom + (rest.map fun v => v.category).sum ≤ W9) (hdg : decode c.code g.pc = .ok (.invokestatic index, 3))
    (hpre : ∀ vm₁, s.WarmedH vm₁ → Pre ⟨T.setVm vm₁, locs, cells, slots⟩ argsL.toArray) :
    (∃ (v : Option Value) (vm₁ : Vm) (B : Pt), s.WarmedH vm₁ ∧ Stand p l e R s m args below meth c B.U B.locs B.cells B.slots ∧ Post ⟨T.setVm vm₁, locs, cells, slots⟩ argsL.toArray v B ∧
      ∀ target, Steps p.tables e below (B.U.setTop { g with pc := g.pc + 3, stack := v.toList ++ rest }) target → Steps p.tables e below (T.setTop g) target) ∨
    (∃ (q : Addr) (vm₁ : Vm) (B : Pt), s.WarmedH vm₁ ∧ Stand p l e R s m args below meth c B.U B.locs B.cells B.slots ∧ PostX ⟨T.setVm vm₁, locs, cells, slots⟩ argsL.toArray q B ∧
      Steps p.tables e below (T.setTop g) ((B.U.setTop { g with stack := rest }).pushFrame (.throwing q))) := by
  obtain ⟨mk, methM, cM, hnamed, hmethM, -, -, -, -, -, -, hsigM⟩ := Cond.codeWith_spec hcode
  have hstatic : methM.isStatic = true := Cond.static_spec hnamed hmethM hstat
  obtain ⟨kP, hkP, -⟩ := className_of_methodNamed hnamed
  have hinitP : kP.init = .initialized := Cond.initialized_spec (findClass_of_methodNamed hnamed) hkP hinit
  obtain ⟨vm₁, X₁, hstep₁⟩ := X.invokestatic hexec hown hlink hnamed hmethM hstatic hkP hinitP hy (g := g) hg (argsL := argsL) (rest := rest) (hlen _ hsigM) hstack hdg
  rcases hK m meth c ⟨T.setVm vm₁, locs, cells, slots⟩ { g with stack := rest } (.invokestatic index) mk argsL.toArray X₁ hg hsize hdg hW (X₁.named hnamed) (hpre vm₁ X₁.warmed) with ⟨v, B, X', hpost, hsteps⟩ | ⟨q, B, X', hpost, hsteps⟩
  · exact Or.inl ⟨v, vm₁, B, X₁.warmed, X', hpost, fun target h => hstep₁ _ fun acts => by rw [doInvoke_state]; exact hsteps.trans h⟩
  · exact Or.inr ⟨q, vm₁, B, X₁.warmed, X', hpost, hstep₁ _ fun acts => by rw [doInvoke_state]; exact hsteps⟩
theorem vx_callVW (X : Stand p l e R s m args below meth c T locs cells slots) (hexec : p.tables.exec = Jvm.exec) {own C : String} {index : Nat} {y : MethodName} {bytes : ByteArray} {maxL : Nat} {ret : Option FieldType} {hh : List (Nat × Nat × Nat × Nat)}
    (hown : s.vm.findClass own = some m.cls) (hlink : (Cond.methodLink own index y).before args s = true) (hinst : (Cond.instanceMethod y).before args s = true) (hsel : (Cond.selects C y y).before args s = true)
    (hcode : (Cond.codeWith y bytes maxL ret hh).before args s = true) (hy : y.cls ≠ "java/lang/invoke/MethodHandle" ∧ y.cls ≠ "java/lang/invoke/VarHandle")
    {W9 : Nat} {Pre : Pt → Array Value → Prop} {Post : Pt → Array Value → Option Value → Pt → Prop} (hK : Back l R p e below s args y 3 W9 Pre Post)
    {b : Addr} {cellB : Cell} (hcell : T.heap[b]? = some cellB) (hobj : cellB.vm.isStatics = false) (hcls : s.vm.findClass C = some cellB.cls)
    {g : JFrame} (hg : g.method = m) (hsize : g.locals.size = c.maxLocals) {argsL rest : List Value} (hlen : ∀ sig, parseMethodDescriptor y.desc = some sig → argsL.length = sig.parameters.length)
    (hstack : g.stack = argsL.reverse ++ .ref b :: rest) (hW : 2 * g.monitorRoom + (rest.map fun v => v.category).sum ≤ W9) (hdg : decode c.code g.pc = .ok (.invokevirtual index, 3))
    (hpre : ∀ vm₁, s.WarmedH vm₁ → Pre ⟨T.setVm vm₁, locs, cells, slots⟩ (Value.ref b :: argsL).toArray) :
    ∃ (v : Option Value) (vm₁ : Vm) (B : Pt), s.WarmedH vm₁ ∧ Stand p l e R s m args below meth c B.U B.locs B.cells B.slots ∧ Post ⟨T.setVm vm₁, locs, cells, slots⟩ (Value.ref b :: argsL).toArray v B ∧
      ∀ target, Steps p.tables e below (B.U.setTop { g with pc := g.pc + 3, stack := v.toList ++ rest }) target → Steps p.tables e below (T.setTop g) target := by
  obtain ⟨mk, methM, hnamed, hmethM, hstM, habM⟩ := Cond.instanceMethod_spec hinst
  obtain ⟨m8, methM', cM, hn8, hmethM', -, -, -, -, -, -, hsigM⟩ := Cond.codeWith_spec hcode
  cases Option.some.inj (hn8.symm.trans hnamed)
  cases hmethM.symm.trans hmethM'
  obtain ⟨c2, r2, m2, q1, q2, q3, q4, kP, hkP, hkPi⟩ := Cond.selects_spec hsel
  cases hcls.symm.trans q1
  cases (State.methodFound?_of_named hnamed hy).symm.trans q2
  cases hnamed.symm.trans q3
  have hselP : selectMethod e.platform s.vm cellB.cls mk = .method mk := by rw [Launch.admits_selectMethod X.admits]; exact q4
  obtain ⟨vm₁, X₁, hstep₁⟩ := X.invokevirtual hexec hown hlink hnamed hmethM hstM hkP hkPi hy (a := b) (cell := cellB) hcell
    (fun z h => by rw [h] at hobj; cases hobj) hselP hmethM habM hkP hkPi (g := g) hg (argsL := argsL) (rest := rest) (hlen _ hsigM) hstack hdg
  obtain ⟨v, B, X', hpost, hsteps⟩ := hK m meth c ⟨T.setVm vm₁, locs, cells, slots⟩ { g with stack := rest } (.invokevirtual index) mk (Value.ref b :: argsL).toArray X₁ hg hsize hdg hW (X₁.named hnamed) (hpre vm₁ X₁.warmed)
  exact ⟨v, vm₁, B, X₁.warmed, X', hpost, fun target h => hstep₁ _ fun acts => by rw [doInvoke_state]; exact hsteps.trans h⟩
abbrev vx_CVW (R : Room) (s : State) (args : Array Value) (own C : String) (index : Nat) (y : MethodName) (bytes : ByteArray) (maxL : Nat) (ret : Option FieldType) (hh : List (Nat × Nat × Nat × Nat)) (ws : List Cond) (rm : Room) (mc ms n : Nat) : Prop :=
  (rm.cells = mc ∧ rm.slots = ms ∧ rm.frames + 1 ≤ R.frames ∧ 8 + (maxL + 11) + rm.locals ≤ R.locals ∧ (∀ w ∈ ws, ∀ (a' : Array Value) (U : State), s.WarmedH U.vm → w.before a' U = true) ∧ Cond.codeWith y bytes maxL ret hh ∈ ws) ∧
  (Cond.codeWith y bytes maxL ret hh).before args s = true ∧ (Cond.initialized y.cls).before args s = true ∧ (y.cls ≠ "java/lang/invoke/MethodHandle" ∧ y.cls ≠ "java/lang/invoke/VarHandle") ∧
  (∀ sig, parseMethodDescriptor y.desc = some sig → n = sig.parameters.length) ∧ (Cond.methodLink own index y).before args s = true ∧ (Cond.instanceMethod y).before args s = true ∧ (Cond.selects C y y).before args s = true
theorem vx_cwVW {own C : String} {index maxL mc ms : Nat} {y : MethodName} {bytes : ByteArray} {ret : Option FieldType} {hh : List (Nat × Nat × Nat × Nat)} {Ts ws ws' : List Cond} {rm : Room} (n : Nat) (ht : ∀ w ∈ Ts, w.before args s = true) (hT : GoodIn Ts (wsV own index C y ws)) (hw : ws = Cond.codeWith y bytes maxL ret hh :: ws') (hrc : rm.cells = mc) (hrs : rm.slots = ms)
    (hd : y.cls = C ∧ y.cls ≠ "java/lang/invoke/MethodHandle" ∧ y.cls ≠ "java/lang/invoke/VarHandle" ∧ (parseMethodDescriptor y.desc).map (fun d => d.parameters.length) = some n) (hR : rm.frames + 1 ≤ R.frames ∧ 8 + (maxL + 11) + rm.locals ≤ R.locals) :
    vx_CVW R s args own C index y bytes maxL ret hh ws rm mc ms n := by
  obtain ⟨hC, hd⟩ := hd
  subst hC
  have ok : ∀ w ∈ wsV own index y.cls y ws, w.before args s = true := fun w h => ht w (hT w h).1
  have hG : GoodIn Ts ws := fun w h => hT w (by unfold wsV; exact List.mem_append_right _ h)
  have hc : Cond.codeWith y bytes maxL ret hh ∈ ws := by rw [hw]; exact List.mem_cons_self
  refine ⟨⟨hrc, hrs, hR.1, hR.2, pay_in ht hG, hc⟩, ht _ (hG _ hc).1, ok _ (by simp [wsV]), ⟨hd.1, hd.2.1⟩, fun sig h => ?_, ok _ (by simp [wsV]), ok _ (by simp [wsV]), ok _ (by simp [wsV])⟩
  have h2 := hd.2.2
  rw [h] at h2
  exact (Option.some.inj h2).symm
theorem vx_runVW {y : MethodName} {bytes cc : ByteArray} {maxL nL mc ms n index : Nat} {ret : Option FieldType} {hh : List (Nat × Nat × Nat × Nat)} {ws : List Cond} {rm : Room} {Pc : Array Value → State → Prop} {Qc : Array Value → State → Outcome → State → Prop} {free : Addr → Prop} {Ts : List Cond} {own C : String} {b : Addr} {As rest : List Value} {g : JFrame}
    (S : CallFix p m c cc nL s args Ts own) (hM : Met l y ws rm Pc Qc mc ms free) (cw : vx_CVW R s args own C index y bytes maxL ret hh ws rm mc ms n) (hp : PreV s H C b Pc As)
    (hg : g.method = m) (hn : As.length = n) (hsize : g.locals.size = nL) (hstack : g.stack = As.reverse ++ .ref b :: rest) (hW : 2 * g.monitorRoom + (rest.map fun v => v.category).sum ≤ 8) (hdg : decode cc g.pc = .ok (.invokevirtual index, 3)) (hf : cells + mc ≤ R.cells ∧ slots + ms ≤ R.slots) :
    va_Run p l e R s m args below meth c H locs cells slots mc ms g rest (Qc (Value.ref b :: As).toArray) free := by
  obtain ⟨⟨hrc, hrs, hfr, hlo, hws, hcw⟩, hcode, hini, hy, hlen, hl, hin, hse⟩ := cw
  have hK : Back l R p e below s args y 3 8 (PreOf R mc ms Pc) (PostOf Qc mc ms free) := va_backW (hh := hh) (bytes := bytes) (maxL := maxL) (ret := ret) hM hp.1 hrc hrs hfr hlo hws hcw (fun a' U hW => word_at hW (Or.inl (by first | rfl | simp [Cond.onTables, Cond.keeps, Cond.steady])) hini)
  obtain ⟨hx, hb, hml, ho, -⟩ := S
  obtain ⟨-, ⟨cellB, hcB, hoB, hclB⟩, hPc⟩ := hp
  intro T hT X
  obtain ⟨v, vm₁, ⟨U', l2, c2, s2⟩, hW₁, X', ⟨g', mk, t, L, e1, e2, hq, h1, hL, h2, h3⟩, st⟩ := vx_callVW X hx (C := C) (hh := hh) (bytes := bytes) (maxL := maxL) (ret := ret) ho hl hin hse hcode hy hK (by rw [hT]; exact hcB) hoB hclB hg (hsize.trans hml.symm) (argsL := As) (rest := rest) (fun sig h => hn.trans (hlen sig h)) hstack hW (by rw [hb]; exact hdg)
    (fun vm₁ hW₁ => ⟨hf.1, hf.2, hPc (T.setVm vm₁) hT hW₁⟩)
  dsimp only [Pt.U, Pt.locs, Pt.cells, Pt.slots] at X' e1 e2 h1 h2 h3 st
  subst h1; subst h2; subst h3
  exact ⟨v, (T.setVm vm₁).calling g' mk (Value.ref b :: As).toArray, t, U', L, hT, X', hL, e1, e2, hq, st⟩
section
variable {y : MethodName} {bytes cc : ByteArray} {maxL nL mc ms n index : Nat} {ret : Option FieldType} {ws : List Cond} {rm : Room} {Pc : Array Value → State → Prop} {Qc : Array Value → State → Outcome → State → Prop} {XC : String → State → State → Prop} {free : Addr → Prop} {Ts : List Cond} {own C : String} {b : Addr} {As rest : List Value} {g : JFrame}
theorem vx_runVX {hh : List (Nat × Nat × Nat × Nat)} (S : CallFix p m c cc nL s args Ts own) (hM : vx_Met l y ws rm Pc Qc XC mc ms free) (cw : vx_CVW R s args own C index y bytes maxL ret hh ws rm mc ms n) (hp : PreV s H C b Pc As)
    (hg : g.method = m) (hn : As.length = n) (hsize : g.locals.size = nL) (hstack : g.stack = As.reverse ++ .ref b :: rest) (hW : 2 * g.monitorRoom + (rest.map fun v => v.category).sum ≤ 8) (hdg : decode cc g.pc = .ok (.invokevirtual index, 3)) (hf : cells + mc ≤ R.cells ∧ slots + ms ≤ R.slots) :
    vx_Run p l e R s m args below meth c H locs cells slots mc ms g rest (Qc (Value.ref b :: As).toArray) XC free := by
  obtain ⟨⟨hrc, hrs, hfr, hlo, hws, hcw⟩, hcode, hini, hy, hlen, hl, hin, hse⟩ := cw
  have hK : vx_Back l R p e below s args y 3 8 (PreOf R mc ms Pc) (PostOf Qc mc ms free) (vx_Post XC mc ms free) := vx_backW (hh := hh) (bytes := bytes) (maxL := maxL) (ret := ret) hM hp.1 hrc hrs hfr hlo hws hcw (fun a' U hW => word_at hW (Or.inl (by first | rfl | simp [Cond.onTables, Cond.keeps, Cond.steady])) hini)
  obtain ⟨hx, hb, hml, ho, -⟩ := S
  obtain ⟨-, ⟨cellB, hcB, hoB, hclB⟩, hPc⟩ := hp
  intro T hT X
  rcases vx_callVX X hx (C := C) (hh := hh) (bytes := bytes) (maxL := maxL) (ret := ret) ho hl hin hse hcode hy hK (by rw [hT]; exact hcB) hoB hclB hg (hsize.trans hml.symm) (argsL := As) (rest := rest) (fun sig h => hn.trans (hlen sig h)) hstack hW (by rw [hb]; exact hdg)
    (fun vm₁ hW₁ => ⟨hf.1, hf.2, hPc (T.setVm vm₁) hT hW₁⟩) with ⟨v, vm₁, ⟨U', l2, c2, s2⟩, hW₁, X', ⟨g', mk, t, L, e1, e2, hq, h1, hL, h2, h3⟩, st⟩ | ⟨q, vm₁, ⟨U', l2, c2, s2⟩, hW₁, X', ⟨g', mk, t, L, E, ce, e1, e2, hq, hce, hcv, hcl, h1, hL, h2, h3⟩, st⟩
  · dsimp only [Pt.U, Pt.locs, Pt.cells, Pt.slots] at X' e1 e2 h1 h2 h3 st
    subst h1; subst h2; subst h3
    exact Or.inl ⟨v, (T.setVm vm₁).calling g' mk (Value.ref b :: As).toArray, t, U', L, hT, X', hL, e1, e2, hq, st⟩
  · dsimp only [Pt.U, Pt.locs, Pt.cells, Pt.slots] at X' e1 e2 h1 h2 h3 st hcl
    subst h1; subst h2; subst h3
    exact Or.inr ⟨q, (T.setVm vm₁).calling g' mk (Value.ref b :: As).toArray, t, U', L, E, ce, hT, X', hL, e1, e2, hq, hce, hcv, vx_cls hW₁ hcl, st⟩
theorem vx_runSX {hh : List (Nat × Nat × Nat × Nat)} (S : CallFix p m c cc nL s args Ts own) (hM : vx_Met l y ws rm Pc Qc XC mc ms free) (cw : vx_CSW R s args own index y bytes maxL ret hh ws rm mc ms n) (hp : PreS s H Pc As)
    (hg : g.method = m) (hn : As.length = n) (hsize : g.locals.size = nL) (hstack : g.stack = As.reverse ++ rest) (hW : 2 * g.monitorRoom + (rest.map fun v => v.category).sum ≤ 8) (hdg : decode cc g.pc = .ok (.invokestatic index, 3)) (hf : cells + mc ≤ R.cells ∧ slots + ms ≤ R.slots) :
    vx_Run p l e R s m args below meth c H locs cells slots mc ms g rest (Qc As.toArray) XC free := by
  obtain ⟨⟨hrc, hrs, hfr, hlo, hws, hcw⟩, hcode, hini, hy, hlen, hl, hstt⟩ := cw
  have hK : vx_Back l R p e below s args y 3 8 (PreOf R mc ms Pc) (PostOf Qc mc ms free) (vx_Post XC mc ms free) := vx_backW (hh := hh) (bytes := bytes) (maxL := maxL) (ret := ret) hM hp.1 hrc hrs hfr hlo hws hcw (fun a' U hW => word_at hW (Or.inl (by first | rfl | simp [Cond.onTables, Cond.keeps, Cond.steady])) hini)
  obtain ⟨hx, hb, hml, ho, -⟩ := S
  intro T hT X
  rcases vx_callSX X hx (hh := hh) (bytes := bytes) (maxL := maxL) (ret := ret) ho hl hstt hini hcode hy hK hg (hsize.trans hml.symm) (argsL := As) (rest := rest) (fun sig h => hn.trans (hlen sig h)) hstack hW (by rw [hb]; exact hdg)
    (fun vm₁ hW₁ => ⟨hf.1, hf.2, hp.2 (T.setVm vm₁) hT hW₁⟩) with ⟨v, vm₁, ⟨U', l2, c2, s2⟩, hW₁, X', ⟨g', mk, t, L, e1, e2, hq, h1, hL, h2, h3⟩, st⟩ | ⟨q, vm₁, ⟨U', l2, c2, s2⟩, hW₁, X', ⟨g', mk, t, L, E, ce, e1, e2, hq, hce, hcv, hcl, h1, hL, h2, h3⟩, st⟩
  · dsimp only [Pt.U, Pt.locs, Pt.cells, Pt.slots] at X' e1 e2 h1 h2 h3 st
    subst h1; subst h2; subst h3
    exact Or.inl ⟨v, (T.setVm vm₁).calling g' mk As.toArray, t, U', L, hT, X', hL, e1, e2, hq, st⟩
  · dsimp only [Pt.U, Pt.locs, Pt.cells, Pt.slots] at X' e1 e2 h1 h2 h3 st hcl
    subst h1; subst h2; subst h3
    exact Or.inr ⟨q, (T.setVm vm₁).calling g' mk As.toArray, t, U', L, E, ce, hT, X', hL, e1, e2, hq, hce, hcv, vx_cls hW₁ hcl, st⟩
end
end VXH
theorem vx_ofWH {l : Launch} {y : MethodName} {ws ws' : List Cond} {rm : Room} {Pc : Array Value → State → Prop} {Qc : Array Value → State → Outcome → State → Prop} {XC : String → State → State → Prop} {mc ms : Nat} {free : Addr → Prop} {cc : ByteArray} {maxL : Nat} {ret : Option FieldType} {hh : List (Nat × Nat × Nat × Nat)}
    (hy : plainName y.cls = true) (hw : ws = Cond.codeWith y cc maxL ret hh :: ws')
    (body : ∀ p e s m args below meth c s₁, BodyLoose p l y (headSpec ws rm) cc maxL ret e s m args below meth c s₁ → c.maxLocals = maxL → Pc args s →
      W p l e (headSpec ws rm).room s m args below meth c s.heap [] 0 0 (vx_MQ below Qc XC args s mc ms free) (entryFrame m args maxL)) : vx_Met l y ws rm Pc Qc XC mc ms free := by
  refine MetFree.of_bodyS (code := cc) (maxLocals := maxL) (ret := ret) hy ?_ ?_
  · intro args s m h hn
    obtain ⟨m9, meth, c, hn9, h1, h2, h3, h4, -, h5, h6, -⟩ := Cond.codeWith_spec (atoms_spec (ws := ws) h _ (by rw [hw]; exact List.mem_cons_self))
    cases hn.symm.trans hn9
    exact ⟨meth, c, h1, h2, h3, h4, h5, h6⟩
  · intro p e s m args below meth c s₁ B hml hP _
    have hh0 : s₁.heap = s.heap := by rw [B.state]; rfl
    obtain ⟨t, a1, o, b1, b2, b3⟩ := body p e s m args below meth c s₁ B hml hP s₁ hh0 (Stand.of_body B)
    exact ⟨t, o, a1, b1, b2, b3⟩
/-! ===== END ===== -/
end
section
/-! ===== names of the class, printed by wip/whole/names.py ===== -/
def RX0 : String := "DeltaDesk$Blocks"
def TX0 : u_T := fun k => match k with
  | 0 => ("DeltaDesk$Blocks", "row", "LDeltaDesk$Row;", true)
  | 1 => ("DeltaDesk$Blocks", "weaks", "[I", true)
  | 2 => ("DeltaDesk$Blocks", "strongs", "[J", true)
  | 3 => ("DeltaDesk$Blocks", "usualSize", "I", false)
  | 4 => ("DeltaDesk$Blocks", "lastSize", "I", false)
  | _ => ("DeltaDesk$Blocks", "count", "I", false)
def tyX0 : Nat → FieldType := fun k => match k with
  | 0 => .object "DeltaDesk$Row"
  | 1 => .array .int
  | 2 => .array .long
  | 3 => .int
  | 4 => .int
  | _ => .int
abbrev wsX00 : List Cond := u_ws RX0 TX0 6
theorem nmX0 : ∀ a, a < 6 → ∀ b, b < 6 → a ≠ b → (TX0 a).2.1 ≠ (TX0 b).2.1 := by decide +kernel
theorem tyX0_ok : ∀ k, k < 6 → parseFieldDescriptor (TX0 k).2.2.1 = some (tyX0 k) := by decide +kernel
def RX1 : String := "DeltaDesk$Row"
def TX1 : u_T := fun k => match k with
  | 0 => ("DeltaDesk$Row", "octets", "[I", true)
  | _ => ("DeltaDesk$Row", "length", "I", false)
def tyX1 : Nat → FieldType := fun k => match k with
  | 0 => .array .int
  | _ => .int
abbrev wsX10 : List Cond := u_ws RX1 TX1 2
theorem nmX1 : ∀ a, a < 2 → ∀ b, b < 2 → a ≠ b → (TX1 a).2.1 ≠ (TX1 b).2.1 := by decide +kernel
theorem tyX1_ok : ∀ k, k < 2 → parseFieldDescriptor (TX1 k).2.2.1 = some (tyX1 k) := by decide +kernel
def RX2 : String := "DeltaDesk$Tokens"
def TX2 : u_T := fun k => match k with
  | 0 => ("DeltaDesk$Tokens", "kinds", "[I", true)
  | 1 => ("DeltaDesk$Tokens", "firsts", "[I", true)
  | 2 => ("DeltaDesk$Tokens", "lengths", "[I", true)
  | _ => ("DeltaDesk$Tokens", "count", "I", false)
def tyX2 : Nat → FieldType := fun k => match k with
  | 0 => .array .int
  | 1 => .array .int
  | 2 => .array .int
  | _ => .int
abbrev wsX20 : List Cond := u_ws RX2 TX2 4
theorem nmX2 : ∀ a, a < 4 → ∀ b, b < 4 → a ≠ b → (TX2 a).2.1 ≠ (TX2 b).2.1 := by decide +kernel
theorem tyX2_ok : ∀ k, k < 4 → parseFieldDescriptor (TX2 k).2.2.1 = some (tyX2 k) := by decide +kernel
def RX3 : String := "DeltaDesk$Window"
def TX3 : u_T := fun k => match k with
  | 0 => ("DeltaDesk$Window", "row", "LDeltaDesk$Row;", true)
  | 1 => ("DeltaDesk$Window", "size", "I", false)
  | 2 => ("DeltaDesk$Window", "place", "I", false)
  | 3 => ("DeltaDesk$Window", "inside", "Z", false)
  | 4 => ("DeltaDesk$Window", "a", "I", false)
  | 5 => ("DeltaDesk$Window", "b", "I", false)
  | 6 => ("DeltaDesk$Window", "weakHere", "I", false)
  | 7 => ("DeltaDesk$Window", "strongHere", "J", false)
  | _ => ("DeltaDesk$Window", "knowsStrong", "Z", false)
def tyX3 : Nat → FieldType := fun k => match k with
  | 0 => .object "DeltaDesk$Row"
  | 1 => .int
  | 2 => .int
  | 3 => .boolean
  | 4 => .int
  | 5 => .int
  | 6 => .int
  | 7 => .long
  | _ => .boolean
abbrev wsX30 : List Cond := u_ws RX3 TX3 9
theorem nmX3 : ∀ a, a < 9 → ∀ b, b < 9 → a ≠ b → (TX3 a).2.1 ≠ (TX3 b).2.1 := by decide +kernel
theorem tyX3_ok : ∀ k, k < 9 → parseFieldDescriptor (TX3 k).2.2.1 = some (tyX3 k) := by decide +kernel
def RX4 : String := "DeltaDesk"
def TX4 : u_T := fun k => match k with
  | 0 => ("DeltaDesk", "oldRow", "LDeltaDesk$Row;", true)
  | 1 => ("DeltaDesk", "newRow", "LDeltaDesk$Row;", true)
  | 2 => ("DeltaDesk", "made", "LDeltaDesk$Row;", true)
  | 3 => ("DeltaDesk", "blocks", "LDeltaDesk$Blocks;", true)
  | 4 => ("DeltaDesk", "usualWindow", "LDeltaDesk$Window;", true)
  | 5 => ("DeltaDesk", "lastWindow", "LDeltaDesk$Window;", true)
  | 6 => ("DeltaDesk", "tokens", "LDeltaDesk$Tokens;", true)
  | _ => ("DeltaDesk", "hasDelta", "Z", false)
def tyX4 : Nat → FieldType := fun k => match k with
  | 0 => .object "DeltaDesk$Row"
  | 1 => .object "DeltaDesk$Row"
  | 2 => .object "DeltaDesk$Row"
  | 3 => .object "DeltaDesk$Blocks"
  | 4 => .object "DeltaDesk$Window"
  | 5 => .object "DeltaDesk$Window"
  | 6 => .object "DeltaDesk$Tokens"
  | _ => .boolean
abbrev wsX40 : List Cond := u_ws RX4 TX4 8
theorem nmX4 : ∀ a, a < 8 → ∀ b, b < 8 → a ≠ b → (TX4 a).2.1 ≠ (TX4 b).2.1 := by decide +kernel
theorem tyX4_ok : ∀ k, k < 8 → parseFieldDescriptor (TX4 k).2.2.1 = some (tyX4 k) := by decide +kernel
def RX5 : String := "DeltaDeskModel"
def TX5 : u_T := fun k => match k with
  | 0 => ("DeltaDeskModel", "err", "I", false)
  | 1 => ("DeltaDeskModel", "octets", "[I", true)
  | 2 => ("DeltaDeskModel", "then", "[I", true)
  | 3 => ("DeltaDeskModel", "made", "[I", true)
  | 4 => ("DeltaDeskModel", "sizes", "[I", true)
  | 5 => ("DeltaDeskModel", "thenSizes", "[I", true)
  | 6 => ("DeltaDeskModel", "kind", "[I", true)
  | 7 => ("DeltaDeskModel", "first", "[I", true)
  | 8 => ("DeltaDeskModel", "many", "[I", true)
  | 9 => ("DeltaDeskModel", "tokens", "I", false)
  | 10 => ("DeltaDeskModel", "is", "Z", false)
  | _ => ("DeltaDeskModel", "width", "I", false)
def tyX5 : Nat → FieldType := fun k => match k with
  | 0 => .int
  | 1 => .array .int
  | 2 => .array .int
  | 3 => .array .int
  | 4 => .array .int
  | 5 => .array .int
  | 6 => .array .int
  | 7 => .array .int
  | 8 => .array .int
  | 9 => .int
  | 10 => .boolean
  | _ => .int
abbrev wsX50 : List Cond := u_ws RX5 TX5 12
theorem nmX5 : ∀ a, a < 12 → ∀ b, b < 12 → a ≠ b → (TX5 a).2.1 ≠ (TX5 b).2.1 := by decide +kernel
theorem tyX5_ok : ∀ k, k < 12 → parseFieldDescriptor (TX5 k).2.2.1 = some (tyX5 k) := by decide +kernel
abbrev vwCl : List vw_C := [(RX0, TX0, 6), (RX1, TX1, 2), (RX2, TX2, 4), (RX3, TX3, 9), (RX4, TX4, 8), (RX5, TX5, 12)]
def RL : String := "DeltaDeskLaw"
abbrev cX4_init : ByteArray := prog_1_method_1_code
def yX4_init : MethodName := ⟨RX4, "<init>", "()V"⟩
abbrev cX4_size : ByteArray := prog_1_method_2_code
def yX4_size : MethodName := ⟨RX4, "size", "(II)V"⟩
abbrev cX4_put : ByteArray := prog_1_method_3_code
def yX4_put : MethodName := ⟨RX4, "put", "(IIJ)V"⟩
abbrev cX4_move : ByteArray := prog_1_method_4_code
def yX4_move : MethodName := ⟨RX4, "move", "(IIIII)V"⟩
abbrev cX4_octet : ByteArray := prog_1_method_5_code
def yX4_octet : MethodName := ⟨RX4, "octet", "(II)I"⟩
abbrev cX4_weak : ByteArray := prog_1_method_6_code
def yX4_weak : MethodName := ⟨RX4, "weak", "(III)I"⟩
abbrev cX4_strong : ByteArray := prog_1_method_7_code
def yX4_strong : MethodName := ⟨RX4, "strong", "(III)J"⟩
abbrev cX4_find : ByteArray := prog_1_method_8_code
def yX4_find : MethodName := ⟨RX4, "find", "(IIII)I"⟩
abbrev cX4_delta : ByteArray := prog_1_method_9_code
def yX4_delta : MethodName := ⟨RX4, "delta", "(II)I"⟩
abbrev cX4_token : ByteArray := prog_1_method_10_code
def yX4_token : MethodName := ⟨RX4, "token", "(II)I"⟩
abbrev cX4_sent : ByteArray := prog_1_method_11_code
def yX4_sent : MethodName := ⟨RX4, "sent", "()I"⟩
abbrev cX4_patch : ByteArray := prog_1_method_12_code
def yX4_patch : MethodName := ⟨RX4, "patch", "()I"⟩
abbrev cX4_same : ByteArray := prog_1_method_13_code
def yX4_same : MethodName := ⟨RX4, "same", "()Z"⟩
abbrev cX4_count : ByteArray := prog_1_method_14_code
def yX4_count : MethodName := ⟨RX4, "count", "(I)I"⟩
abbrev cX4_row : ByteArray := prog_1_method_15_code
def yX4_row : MethodName := ⟨RX4, "row", "(I)LDeltaDesk$Row;"⟩
abbrev cX4_checkRow : ByteArray := prog_1_method_16_code
def yX4_checkRow : MethodName := ⟨RX4, "checkRow", "(I)V"⟩
abbrev cX4_checkOctet : ByteArray := prog_1_method_17_code
def yX4_checkOctet : MethodName := ⟨RX4, "checkOctet", "(LDeltaDesk$Row;I)V"⟩
abbrev cX4_checkRange : ByteArray := prog_1_method_18_code
def yX4_checkRange : MethodName := ⟨RX4, "checkRange", "(LDeltaDesk$Row;II)V"⟩
abbrev cX4_checkBlocks : ByteArray := prog_1_method_19_code
def yX4_checkBlocks : MethodName := ⟨RX4, "checkBlocks", "(II)V"⟩
abbrev cX4_blockCount : ByteArray := prog_1_method_20_code
def yX4_blockCount : MethodName := ⟨RX4, "blockCount", "(II)I"⟩
abbrev cX4_strongMask : ByteArray := prog_1_method_21_code
def yX4_strongMask : MethodName := ⟨RX4, "strongMask", "(I)J"⟩
abbrev cX4_firstPlace : ByteArray := prog_1_method_22_code
def yX4_firstPlace : MethodName := ⟨RX4, "firstPlace", "(IIJI)I"⟩
abbrev cX4_makeDelta : ByteArray := prog_1_method_23_code
def yX4_makeDelta : MethodName := ⟨RX4, "makeDelta", "(J)V"⟩
abbrev cX4_blockAt : ByteArray := prog_1_method_24_code
def yX4_blockAt : MethodName := ⟨RX4, "blockAt", "(IIJ)I"⟩
abbrev cX4_fits : ByteArray := prog_1_method_25_code
def yX4_fits : MethodName := ⟨RX4, "fits", "(IJ)Z"⟩
abbrev cX5_init : ByteArray := prog_7_method_1_code
def yX5_init : MethodName := ⟨RX5, "<init>", "()V"⟩
abbrev cX5_thrown : ByteArray := prog_7_method_2_code
def yX5_thrown : MethodName := ⟨RX5, "thrown", "()I"⟩
abbrev cX5_fails : ByteArray := prog_7_method_3_code
def yX5_fails : MethodName := ⟨RX5, "fails", "(ZI)Z"⟩
abbrev cX5_no : ByteArray := prog_7_method_4_code
def yX5_no : MethodName := ⟨RX5, "no", "(I)Z"⟩
abbrev cX5_size : ByteArray := prog_7_method_5_code
def yX5_size : MethodName := ⟨RX5, "size", "(II)V"⟩
abbrev cX5_put : ByteArray := prog_7_method_6_code
def yX5_put : MethodName := ⟨RX5, "put", "(IIJ)V"⟩
abbrev cX5_lacks : ByteArray := prog_7_method_7_code
def yX5_lacks : MethodName := ⟨RX5, "lacks", "(III)Z"⟩
abbrev cX5_move : ByteArray := prog_7_method_8_code
def yX5_move : MethodName := ⟨RX5, "move", "(IIIII)V"⟩
abbrev cX5_octet : ByteArray := prog_7_method_9_code
def yX5_octet : MethodName := ⟨RX5, "octet", "(II)I"⟩
abbrev cX5_weakOf : ByteArray := prog_7_method_10_code
def yX5_weakOf : MethodName := ⟨RX5, "weakOf", "(III)I"⟩
abbrev cX5_strongOf : ByteArray := prog_7_method_11_code
def yX5_strongOf : MethodName := ⟨RX5, "strongOf", "(III)J"⟩
abbrev cX5_weak : ByteArray := prog_7_method_12_code
def yX5_weak : MethodName := ⟨RX5, "weak", "(III)I"⟩
abbrev cX5_strong : ByteArray := prog_7_method_13_code
def yX5_strong : MethodName := ⟨RX5, "strong", "(III)J"⟩
abbrev cX5_bad : ByteArray := prog_7_method_14_code
def yX5_bad : MethodName := ⟨RX5, "bad", "(II)Z"⟩
abbrev cX5_blocks : ByteArray := prog_7_method_15_code
def yX5_blocks : MethodName := ⟨RX5, "blocks", "(I)I"⟩
abbrev cX5_length : ByteArray := prog_7_method_16_code
def yX5_length : MethodName := ⟨RX5, "length", "(II)I"⟩
abbrev cX5_fits : ByteArray := prog_7_method_17_code
def yX5_fits : MethodName := ⟨RX5, "fits", "(IIII)Z"⟩
abbrev cX5_find : ByteArray := prog_7_method_18_code
def yX5_find : MethodName := ⟨RX5, "find", "(IIII)I"⟩
abbrev cX5_delta : ByteArray := prog_7_method_19_code
def yX5_delta : MethodName := ⟨RX5, "delta", "(II)I"⟩
abbrev cX5_token : ByteArray := prog_7_method_20_code
def yX5_token : MethodName := ⟨RX5, "token", "(II)I"⟩
abbrev cX5_sent : ByteArray := prog_7_method_21_code
def yX5_sent : MethodName := ⟨RX5, "sent", "()I"⟩
abbrev cX5_patch : ByteArray := prog_7_method_22_code
def yX5_patch : MethodName := ⟨RX5, "patch", "()I"⟩
abbrev cX5_same : ByteArray := prog_7_method_23_code
def yX5_same : MethodName := ⟨RX5, "same", "()Z"⟩
abbrev cX5_count : ByteArray := prog_7_method_24_code
def yX5_count : MethodName := ⟨RX5, "count", "(I)I"⟩
abbrev cX0_init : ByteArray := prog_2_method_1_code
def yX0_init : MethodName := ⟨RX0, "<init>", "(LDeltaDesk$Row;)V"⟩
abbrev cX0_cut : ByteArray := prog_2_method_2_code
def yX0_cut : MethodName := ⟨RX0, "cut", "(I)V"⟩
abbrev cX0_start : ByteArray := prog_2_method_3_code
def yX0_start : MethodName := ⟨RX0, "start", "(I)I"⟩
abbrev cX0_length : ByteArray := prog_2_method_4_code
def yX0_length : MethodName := ⟨RX0, "length", "(I)I"⟩
abbrev cX1_init : ByteArray := prog_3_method_1_code
def yX1_init : MethodName := ⟨RX1, "<init>", "()V"⟩
abbrev cX1_resize : ByteArray := prog_3_method_2_code
def yX1_resize : MethodName := ⟨RX1, "resize", "(I)V"⟩
abbrev cX1_write : ByteArray := prog_3_method_3_code
def yX1_write : MethodName := ⟨RX1, "write", "(IJ)V"⟩
abbrev cX1_append : ByteArray := prog_3_method_4_code
def yX1_append : MethodName := ⟨RX1, "append", "(LDeltaDesk$Row;II)V"⟩
abbrev cX1_weakSum : ByteArray := prog_3_method_5_code
def yX1_weakSum : MethodName := ⟨RX1, "weakSum", "(II)I"⟩
abbrev cX1_joinWeak : ByteArray := prog_3_method_6_code
def yX1_joinWeak : MethodName := ⟨RX1, "joinWeak", "(II)I"⟩
abbrev cX1_strongSum : ByteArray := prog_3_method_7_code
def yX1_strongSum : MethodName := ⟨RX1, "strongSum", "(II)J"⟩
abbrev cX2_init : ByteArray := prog_4_method_1_code
def yX2_init : MethodName := ⟨RX2, "<init>", "()V"⟩
abbrev cX2_clear : ByteArray := prog_4_method_2_code
def yX2_clear : MethodName := ⟨RX2, "clear", "()V"⟩
abbrev cX2_add : ByteArray := prog_4_method_3_code
def yX2_add : MethodName := ⟨RX2, "add", "(II)V"⟩
abbrev cX2_goesOn : ByteArray := prog_4_method_4_code
def yX2_goesOn : MethodName := ⟨RX2, "goesOn", "(II)Z"⟩
abbrev cX3_init : ByteArray := prog_5_method_1_code
def yX3_init : MethodName := ⟨RX3, "<init>", "(LDeltaDesk$Row;)V"⟩
abbrev cX3_open : ByteArray := prog_5_method_2_code
def yX3_open : MethodName := ⟨RX3, "open", "(I)V"⟩
abbrev cX3_moveTo : ByteArray := prog_5_method_3_code
def yX3_moveTo : MethodName := ⟨RX3, "moveTo", "(I)V"⟩
abbrev cX3_roll : ByteArray := prog_5_method_4_code
def yX3_roll : MethodName := ⟨RX3, "roll", "()V"⟩
abbrev cX3_sumAfresh : ByteArray := prog_5_method_5_code
def yX3_sumAfresh : MethodName := ⟨RX3, "sumAfresh", "(I)V"⟩
abbrev cX3_shows : ByteArray := prog_5_method_6_code
def yX3_shows : MethodName := ⟨RX3, "shows", "(IJJ)Z"⟩
abbrev cX3_strongSumHere : ByteArray := prog_5_method_7_code
def yX3_strongSumHere : MethodName := ⟨RX3, "strongSumHere", "()J"⟩
abbrev cL_size : ByteArray := method_3_code
def yL_size : MethodName := ⟨RL, "size", "(LDeltaDesk;II)I"⟩
abbrev cL_put : ByteArray := method_4_code
def yL_put : MethodName := ⟨RL, "put", "(LDeltaDesk;IIJ)I"⟩
abbrev cL_move : ByteArray := method_5_code
def yL_move : MethodName := ⟨RL, "move", "(LDeltaDesk;IIIII)I"⟩
abbrev cL_octet : ByteArray := method_6_code
def yL_octet : MethodName := ⟨RL, "octet", "(LDeltaDesk;II[J)I"⟩
abbrev cL_weak : ByteArray := method_7_code
def yL_weak : MethodName := ⟨RL, "weak", "(LDeltaDesk;III[J)I"⟩
abbrev cL_strong : ByteArray := method_8_code
def yL_strong : MethodName := ⟨RL, "strong", "(LDeltaDesk;III[J)I"⟩
abbrev cL_find : ByteArray := method_9_code
def yL_find : MethodName := ⟨RL, "find", "(LDeltaDesk;IIII[J)I"⟩
abbrev cL_delta : ByteArray := method_10_code
def yL_delta : MethodName := ⟨RL, "delta", "(LDeltaDesk;II[J)I"⟩
abbrev cL_token : ByteArray := method_11_code
def yL_token : MethodName := ⟨RL, "token", "(LDeltaDesk;II[J)I"⟩
abbrev cL_count : ByteArray := method_12_code
def yL_count : MethodName := ⟨RL, "count", "(LDeltaDesk;I[J)I"⟩
abbrev cL_law : ByteArray := code
def yL_law : MethodName := ⟨RL, "law", "([I)Z"⟩
def ds_words : List Cond := [
  Cond.code yX4_init cX4_init 1 none,
  Cond.methodLink RX4 3 objectInit,
  Cond.instanceMethod objectInit,
  Cond.code objectInit ⟨#[0xb1]⟩ 1 none,
  Cond.classLink RX4 9 RX1,
  Cond.instantiable RX1 2,
  Cond.initialized RX1,
  Cond.instanceMethod yX1_init,
  Cond.fieldLink RX4 12 "DeltaDesk" "oldRow" "LDeltaDesk$Row;",
  Cond.fieldLink RX4 16 "DeltaDesk" "newRow" "LDeltaDesk$Row;",
  Cond.fieldLink RX4 19 "DeltaDesk" "made" "LDeltaDesk$Row;",
  Cond.classLink RX4 22 RX0,
  Cond.instantiable RX0 6,
  Cond.initialized RX0,
  Cond.instanceMethod yX0_init,
  Cond.fieldLink RX4 27 "DeltaDesk" "blocks" "LDeltaDesk$Blocks;",
  Cond.classLink RX4 31 RX3,
  Cond.instantiable RX3 9,
  Cond.initialized RX3,
  Cond.instanceMethod yX3_init,
  Cond.fieldLink RX4 34 "DeltaDesk" "usualWindow" "LDeltaDesk$Window;",
  Cond.fieldLink RX4 38 "DeltaDesk" "lastWindow" "LDeltaDesk$Window;",
  Cond.classLink RX4 41 RX2,
  Cond.instantiable RX2 4,
  Cond.initialized RX2,
  Cond.instanceMethod yX2_init,
  Cond.fieldLink RX4 44 "DeltaDesk" "tokens" "LDeltaDesk$Tokens;",
  Cond.fieldLink RX4 48 "DeltaDesk" "hasDelta" "Z",
  Cond.code yX4_size cX4_size 3 none,
  Cond.methodLink RX4 52 yX4_checkRow,
  Cond.initialized RX4,
  Cond.static yX4_checkRow,
  Cond.classLink RX4 56 "java/lang/IllegalArgumentException",
  Cond.initialized "java/lang/IllegalArgumentException",
  Cond.methodLink RX4 63 yX4_row,
  Cond.instanceMethod yX4_row,
  Cond.selects RX4 yX4_row yX4_row,
  Cond.instanceMethod yX1_resize,
  Cond.selects RX1 yX1_resize yX1_resize,
  Cond.code yX4_put cX4_put 5 none,
  Cond.methodLink RX4 70 yX4_checkOctet,
  Cond.static yX4_checkOctet,
  Cond.instanceMethod yX1_write,
  Cond.selects RX1 yX1_write yX1_write,
  Cond.code yX4_move cX4_move 6 none,
  Cond.methodLink RX4 78 yX4_checkRange,
  Cond.static yX4_checkRange,
  Cond.methodLink RX4 86 arraycopyName,
  Cond.native arraycopyName,
  Cond.static arraycopyName,
  Cond.initialized "java/lang/System",
  Cond.code yX4_octet cX4_octet 3 (some .int),
  Cond.code yX4_weak cX4_weak 4 (some .int),
  Cond.instanceMethod yX1_weakSum,
  Cond.selects RX1 yX1_weakSum yX1_weakSum,
  Cond.code yX4_strong cX4_strong 4 (some .long),
  Cond.instanceMethod yX1_strongSum,
  Cond.selects RX1 yX1_strongSum yX1_strongSum,
  Cond.code yX4_find cX4_find 5 (some .int),
  Cond.methodLink RX4 100 yX4_checkBlocks,
  Cond.static yX4_checkBlocks,
  Cond.methodLink RX4 108 yX4_blockCount,
  Cond.static yX4_blockCount,
  Cond.classLink RX4 111 "java/lang/IndexOutOfBoundsException",
  Cond.initialized "java/lang/IndexOutOfBoundsException",
  Cond.methodLink RX4 118 Lib.Math.min.name,
  Cond.static Lib.Math.min.name,
  Cond.initialized "java/lang/Math",
  Cond.code Lib.Math.min.name Lib.Math.min.code 2 (some .int),
  Cond.methodLink RX4 123 yX4_strongMask,
  Cond.static yX4_strongMask,
  Cond.methodLink RX4 127 yX4_firstPlace,
  Cond.instanceMethod yX4_firstPlace,
  Cond.selects RX4 yX4_firstPlace yX4_firstPlace,
  Cond.code yX4_delta cX4_delta 3 (some .int),
  Cond.instanceMethod yX0_cut,
  Cond.selects RX0 yX0_cut yX0_cut,
  Cond.instanceMethod yX3_open,
  Cond.selects RX3 yX3_open yX3_open,
  Cond.instanceMethod yX2_clear,
  Cond.selects RX2 yX2_clear yX2_clear,
  Cond.methodLink RX4 143 yX4_makeDelta,
  Cond.instanceMethod yX4_makeDelta,
  Cond.selects RX4 yX4_makeDelta yX4_makeDelta,
  Cond.code yX4_token cX4_token 3 (some .int),
  Cond.code yX4_sent cX4_sent 3 (some .int),
  Cond.code yX4_patch cX4_patch 1 (some .int),
  Cond.instanceMethod yX1_append,
  Cond.selects RX1 yX1_append yX1_append,
  Cond.code yX4_same cX4_same 2 (some .boolean),
  Cond.code yX4_count cX4_count 2 (some .int),
  Cond.code yX4_row cX4_row 2 (some (.object "DeltaDesk$Row")),
  Cond.code yX4_checkRow cX4_checkRow 1 none,
  Cond.code yX4_checkOctet cX4_checkOctet 2 none,
  Cond.code yX4_checkRange cX4_checkRange 3 none,
  Cond.code yX4_checkBlocks cX4_checkBlocks 2 none,
  Cond.code yX4_blockCount cX4_blockCount 2 (some .int),
  Cond.code yX4_strongMask cX4_strongMask 1 (some .long),
  Cond.constantLong RX4 178 (-1),
  Cond.code yX4_firstPlace cX4_firstPlace 10 (some .int),
  Cond.instanceMethod yX3_moveTo,
  Cond.selects RX3 yX3_moveTo yX3_moveTo,
  Cond.instanceMethod yX3_shows,
  Cond.selects RX3 yX3_shows yX3_shows,
  Cond.code yX4_makeDelta cX4_makeDelta 7 none,
  Cond.methodLink RX4 187 yX4_blockAt,
  Cond.instanceMethod yX4_blockAt,
  Cond.selects RX4 yX4_blockAt yX4_blockAt,
  Cond.instanceMethod yX2_add,
  Cond.selects RX2 yX2_add yX2_add,
  Cond.instanceMethod yX0_start,
  Cond.selects RX0 yX0_start yX0_start,
  Cond.instanceMethod yX0_length,
  Cond.selects RX0 yX0_length yX0_length,
  Cond.code yX4_blockAt cX4_blockAt 6 (some .int),
  Cond.methodLink RX4 201 yX4_fits,
  Cond.instanceMethod yX4_fits,
  Cond.selects RX4 yX4_fits yX4_fits,
  Cond.code yX4_fits cX4_fits 5 (some .boolean),
  Cond.code yX5_init cX5_init 1 none,
  Cond.methodLink RX5 1 objectInit,
  Cond.arrayClass .int,
  Cond.fieldLink RX5 7 "DeltaDeskModel" "octets" "[I",
  Cond.fieldLink RX5 13 "DeltaDeskModel" "then" "[I",
  Cond.fieldLink RX5 16 "DeltaDeskModel" "made" "[I",
  Cond.fieldLink RX5 19 "DeltaDeskModel" "sizes" "[I",
  Cond.fieldLink RX5 22 "DeltaDeskModel" "thenSizes" "[I",
  Cond.fieldLink RX5 25 "DeltaDeskModel" "kind" "[I",
  Cond.fieldLink RX5 28 "DeltaDeskModel" "first" "[I",
  Cond.fieldLink RX5 31 "DeltaDeskModel" "many" "[I",
  Cond.code yX5_thrown cX5_thrown 1 (some .int),
  Cond.fieldLink RX5 34 "DeltaDeskModel" "err" "I",
  Cond.code yX5_fails cX5_fails 3 (some .boolean),
  Cond.code yX5_no cX5_no 1 (some .boolean),
  Cond.code yX5_size cX5_size 4 none,
  Cond.methodLink RX5 38 yX5_no,
  Cond.initialized RX5,
  Cond.static yX5_no,
  Cond.methodLink RX5 42 yX5_fails,
  Cond.instanceMethod yX5_fails,
  Cond.selects RX5 yX5_fails yX5_fails,
  Cond.code yX5_put cX5_put 6 none,
  Cond.code yX5_lacks cX5_lacks 4 (some .boolean),
  Cond.code yX5_move cX5_move 7 none,
  Cond.methodLink RX5 46 yX5_lacks,
  Cond.instanceMethod yX5_lacks,
  Cond.selects RX5 yX5_lacks yX5_lacks,
  Cond.code yX5_octet cX5_octet 3 (some .int),
  Cond.code yX5_weakOf cX5_weakOf 7 (some .int),
  Cond.constant RX5 50 65535,
  Cond.constant RX5 51 65536,
  Cond.code yX5_strongOf cX5_strongOf 7 (some .long),
  Cond.constantLong RX5 52 (-3750763034362895579),
  Cond.constantLong RX5 54 (1099511628211),
  Cond.code yX5_weak cX5_weak 4 (some .int),
  Cond.methodLink RX5 56 yX5_weakOf,
  Cond.instanceMethod yX5_weakOf,
  Cond.selects RX5 yX5_weakOf yX5_weakOf,
  Cond.code yX5_strong cX5_strong 4 (some .long),
  Cond.methodLink RX5 60 yX5_strongOf,
  Cond.instanceMethod yX5_strongOf,
  Cond.selects RX5 yX5_strongOf yX5_strongOf,
  Cond.code yX5_bad cX5_bad 2 (some .boolean),
  Cond.code yX5_blocks cX5_blocks 2 (some .int),
  Cond.code yX5_length cX5_length 3 (some .int),
  Cond.code yX5_fits cX5_fits 8 (some .boolean),
  Cond.methodLink RX5 64 yX5_length,
  Cond.instanceMethod yX5_length,
  Cond.selects RX5 yX5_length yX5_length,
  Cond.code yX5_find cX5_find 6 (some .int),
  Cond.methodLink RX5 68 yX5_bad,
  Cond.static yX5_bad,
  Cond.methodLink RX5 72 yX5_blocks,
  Cond.instanceMethod yX5_blocks,
  Cond.selects RX5 yX5_blocks yX5_blocks,
  Cond.methodLink RX5 76 yX5_fits,
  Cond.instanceMethod yX5_fits,
  Cond.selects RX5 yX5_fits yX5_fits,
  Cond.code yX5_delta cX5_delta 9 (some .int),
  Cond.fieldLink RX5 80 "DeltaDeskModel" "is" "Z",
  Cond.fieldLink RX5 84 "DeltaDeskModel" "tokens" "I",
  Cond.fieldLink RX5 87 "DeltaDeskModel" "width" "I",
  Cond.code yX5_token cX5_token 3 (some .int),
  Cond.code yX5_sent cX5_sent 3 (some .int),
  Cond.code yX5_patch cX5_patch 6 (some .int),
  Cond.code yX5_same cX5_same 2 (some .boolean),
  Cond.code yX5_count cX5_count 2 (some .int),
  Cond.code yX0_init cX0_init 2 none,
  Cond.methodLink RX0 3 objectInit,
  Cond.fieldLink RX0 9 "DeltaDesk$Blocks" "row" "LDeltaDesk$Row;",
  Cond.fieldLink RX0 15 "DeltaDesk$Blocks" "weaks" "[I",
  Cond.arrayClass .long,
  Cond.fieldLink RX0 19 "DeltaDesk$Blocks" "strongs" "[J",
  Cond.fieldLink RX0 23 "DeltaDesk$Blocks" "usualSize" "I",
  Cond.fieldLink RX0 27 "DeltaDesk$Blocks" "lastSize" "I",
  Cond.fieldLink RX0 30 "DeltaDesk$Blocks" "count" "I",
  Cond.code yX0_cut cX0_cut 3 none,
  Cond.methodLink RX0 42 yX0_start,
  Cond.methodLink RX0 46 yX0_length,
  Cond.code yX0_start cX0_start 2 (some .int),
  Cond.code yX0_length cX0_length 2 (some .int),
  Cond.code yX1_init cX1_init 1 none,
  Cond.methodLink RX1 3 objectInit,
  Cond.fieldLink RX1 9 "DeltaDesk$Row" "octets" "[I",
  Cond.fieldLink RX1 15 "DeltaDesk$Row" "length" "I",
  Cond.code yX1_resize cX1_resize 3 none,
  Cond.code yX1_write cX1_write 5 none,
  Cond.code yX1_append cX1_append 4 none,
  Cond.methodLink RX1 19 arraycopyName,
  Cond.code yX1_weakSum cX1_weakSum 6 (some .int),
  Cond.methodLink RX1 25 yX1_joinWeak,
  Cond.static yX1_joinWeak,
  Cond.code yX1_joinWeak cX1_joinWeak 2 (some .int),
  Cond.constant RX1 29 65535,
  Cond.constant RX1 30 65536,
  Cond.code yX1_strongSum cX1_strongSum 6 (some .long),
  Cond.constantLong RX1 31 (-3750763034362895579),
  Cond.constantLong RX1 33 (1099511628211),
  Cond.code yX2_init cX2_init 1 none,
  Cond.methodLink RX2 3 objectInit,
  Cond.fieldLink RX2 9 "DeltaDesk$Tokens" "kinds" "[I",
  Cond.fieldLink RX2 15 "DeltaDesk$Tokens" "firsts" "[I",
  Cond.fieldLink RX2 18 "DeltaDesk$Tokens" "lengths" "[I",
  Cond.fieldLink RX2 21 "DeltaDesk$Tokens" "count" "I",
  Cond.code yX2_clear cX2_clear 1 none,
  Cond.code yX2_add cX2_add 3 none,
  Cond.methodLink RX2 25 yX2_goesOn,
  Cond.instanceMethod yX2_goesOn,
  Cond.selects RX2 yX2_goesOn yX2_goesOn,
  Cond.code yX2_goesOn cX2_goesOn 3 (some .boolean),
  Cond.code yX3_init cX3_init 2 none,
  Cond.methodLink RX3 3 objectInit,
  Cond.fieldLink RX3 9 "DeltaDesk$Window" "row" "LDeltaDesk$Row;",
  Cond.fieldLink RX3 15 "DeltaDesk$Window" "size" "I",
  Cond.fieldLink RX3 19 "DeltaDesk$Window" "place" "I",
  Cond.fieldLink RX3 22 "DeltaDesk$Window" "inside" "Z",
  Cond.fieldLink RX3 26 "DeltaDesk$Window" "knowsStrong" "Z",
  Cond.code yX3_open cX3_open 2 none,
  Cond.code yX3_moveTo cX3_moveTo 3 none,
  Cond.methodLink RX3 34 yX3_roll,
  Cond.instanceMethod yX3_roll,
  Cond.selects RX3 yX3_roll yX3_roll,
  Cond.methodLink RX3 37 yX3_sumAfresh,
  Cond.instanceMethod yX3_sumAfresh,
  Cond.selects RX3 yX3_sumAfresh yX3_sumAfresh,
  Cond.fieldLink RX3 41 "DeltaDesk$Window" "a" "I",
  Cond.fieldLink RX3 44 "DeltaDesk$Window" "b" "I",
  Cond.fieldLink RX3 51 "DeltaDesk$Window" "weakHere" "I",
  Cond.code yX3_roll cX3_roll 3 none,
  Cond.code yX3_sumAfresh cX3_sumAfresh 3 none,
  Cond.code yX3_shows cX3_shows 6 (some .boolean),
  Cond.methodLink RX3 58 yX3_strongSumHere,
  Cond.instanceMethod yX3_strongSumHere,
  Cond.selects RX3 yX3_strongSumHere yX3_strongSumHere,
  Cond.code yX3_strongSumHere cX3_strongSumHere 1 (some .long),
  Cond.fieldLink RX3 66 "DeltaDesk$Window" "strongHere" "J",
  Cond.codeWith yL_size cL_size 4 (some .int) [(0, 6, 9, 13)],
  Cond.methodLink RL 7 yX4_size,
  Cond.instanceMethod yX4_size,
  Cond.selects RX4 yX4_size yX4_size,
  Cond.codeWith yL_put cL_put 6 (some .int) [(0, 7, 10, 13), (0, 7, 14, 19)],
  Cond.methodLink RL 15 yX4_put,
  Cond.instanceMethod yX4_put,
  Cond.selects RX4 yX4_put yX4_put,
  Cond.codeWith yL_move cL_move 7 (some .int) [(0, 11, 14, 13), (0, 11, 18, 19)],
  Cond.methodLink RL 21 yX4_move,
  Cond.instanceMethod yX4_move,
  Cond.selects RX4 yX4_move yX4_move,
  Cond.codeWith yL_octet cL_octet 5 (some .int) [(0, 10, 13, 13), (0, 10, 17, 19)],
  Cond.methodLink RL 25 yX4_octet,
  Cond.instanceMethod yX4_octet,
  Cond.selects RX4 yX4_octet yX4_octet,
  Cond.codeWith yL_weak cL_weak 6 (some .int) [(0, 12, 15, 13), (0, 12, 19, 19)],
  Cond.methodLink RL 29 yX4_weak,
  Cond.instanceMethod yX4_weak,
  Cond.selects RX4 yX4_weak yX4_weak,
  Cond.codeWith yL_strong cL_strong 6 (some .int) [(0, 11, 14, 13), (0, 11, 18, 19)],
  Cond.methodLink RL 33 yX4_strong,
  Cond.instanceMethod yX4_strong,
  Cond.selects RX4 yX4_strong yX4_strong,
  Cond.codeWith yL_find cL_find 7 (some .int) [(0, 14, 17, 13), (0, 14, 21, 19)],
  Cond.methodLink RL 37 yX4_find,
  Cond.instanceMethod yX4_find,
  Cond.selects RX4 yX4_find yX4_find,
  Cond.codeWith yL_delta cL_delta 5 (some .int) [(0, 10, 13, 13)],
  Cond.methodLink RL 41 yX4_delta,
  Cond.instanceMethod yX4_delta,
  Cond.selects RX4 yX4_delta yX4_delta,
  Cond.codeWith yL_token cL_token 5 (some .int) [(0, 10, 13, 13), (0, 10, 17, 19)],
  Cond.methodLink RL 44 yX4_token,
  Cond.instanceMethod yX4_token,
  Cond.selects RX4 yX4_token yX4_token,
  Cond.codeWith yL_count cL_count 4 (some .int) [(0, 9, 12, 13)],
  Cond.methodLink RL 47 yX4_count,
  Cond.instanceMethod yX4_count,
  Cond.selects RX4 yX4_count yX4_count,
  Cond.classLink RL 8 RX4,
  Cond.instantiable RX4 8,
  Cond.methodLink RL 51 yX4_init,
  Cond.instanceMethod yX4_init,
  Cond.classLink RL 52 RX5,
  Cond.instantiable RX5 12,
  Cond.methodLink RL 54 yX5_init,
  Cond.instanceMethod yX5_init,
  Cond.methodLink RL 55 yL_size,
  Cond.initialized RL,
  Cond.static yL_size,
  Cond.methodLink RL 60 yX5_size,
  Cond.instanceMethod yX5_size,
  Cond.selects RX5 yX5_size yX5_size,
  Cond.methodLink RL 61 yX5_thrown,
  Cond.instanceMethod yX5_thrown,
  Cond.selects RX5 yX5_thrown yX5_thrown,
  Cond.constantLong RL 65 (4294967295),
  Cond.methodLink RL 67 yL_put,
  Cond.static yL_put,
  Cond.methodLink RL 70 yX5_put,
  Cond.instanceMethod yX5_put,
  Cond.selects RX5 yX5_put yX5_put,
  Cond.methodLink RL 71 yL_move,
  Cond.static yL_move,
  Cond.methodLink RL 74 yX5_move,
  Cond.instanceMethod yX5_move,
  Cond.selects RX5 yX5_move yX5_move,
  Cond.methodLink RL 75 yL_octet,
  Cond.static yL_octet,
  Cond.methodLink RL 78 yX5_octet,
  Cond.instanceMethod yX5_octet,
  Cond.selects RX5 yX5_octet yX5_octet,
  Cond.methodLink RL 79 yL_weak,
  Cond.static yL_weak,
  Cond.methodLink RL 82 yX5_weak,
  Cond.instanceMethod yX5_weak,
  Cond.selects RX5 yX5_weak yX5_weak,
  Cond.methodLink RL 83 yL_strong,
  Cond.static yL_strong,
  Cond.methodLink RL 85 yX5_strong,
  Cond.instanceMethod yX5_strong,
  Cond.selects RX5 yX5_strong yX5_strong,
  Cond.methodLink RL 86 yL_find,
  Cond.static yL_find,
  Cond.methodLink RL 89 yX5_find,
  Cond.instanceMethod yX5_find,
  Cond.selects RX5 yX5_find yX5_find,
  Cond.methodLink RL 90 yL_delta,
  Cond.static yL_delta,
  Cond.methodLink RL 92 yX5_delta,
  Cond.instanceMethod yX5_delta,
  Cond.selects RX5 yX5_delta yX5_delta,
  Cond.methodLink RL 93 yL_token,
  Cond.static yL_token,
  Cond.methodLink RL 95 yX5_token,
  Cond.instanceMethod yX5_token,
  Cond.selects RX5 yX5_token yX5_token,
  Cond.methodLink RL 96 yX4_sent,
  Cond.instanceMethod yX4_sent,
  Cond.selects RX4 yX4_sent yX4_sent,
  Cond.methodLink RL 99 yX5_sent,
  Cond.instanceMethod yX5_sent,
  Cond.selects RX5 yX5_sent yX5_sent,
  Cond.methodLink RL 100 yX4_patch,
  Cond.instanceMethod yX4_patch,
  Cond.selects RX4 yX4_patch yX4_patch,
  Cond.methodLink RL 103 yX5_patch,
  Cond.instanceMethod yX5_patch,
  Cond.selects RX5 yX5_patch yX5_patch,
  Cond.methodLink RL 104 yX4_same,
  Cond.instanceMethod yX4_same,
  Cond.selects RX4 yX4_same yX4_same,
  Cond.methodLink RL 108 yX5_same,
  Cond.instanceMethod yX5_same,
  Cond.selects RX5 yX5_same yX5_same,
  Cond.methodLink RL 109 yL_count,
  Cond.static yL_count,
  Cond.methodLink RL 112 yX5_count,
  Cond.instanceMethod yX5_count,
  Cond.selects RX5 yX5_count yX5_count,
  Cond.instanceMethod yX1_joinWeak,
  Cond.selects RX1 yX1_joinWeak yX1_joinWeak,
  Cond.static yX2_goesOn,
  Cond.static yX0_start,
  Cond.static yX0_length,
  Cond.static yX1_weakSum,
  Cond.static yX1_strongSum,
  Cond.instanceMethod yX4_blockCount,
  Cond.selects RX4 yX4_blockCount yX4_blockCount,
  Cond.static yX3_sumAfresh,
  Cond.static yX3_roll,
  Cond.static yX3_strongSumHere,
  Cond.static yX3_shows,
  Cond.static yX3_moveTo,
  Cond.static yX4_fits,
  Cond.static yX3_open,
  Cond.static yX4_blockAt,
  Cond.static yX2_add,
  Cond.static yX1_append,
  Cond.instanceMethod yX4_checkRow,
  Cond.selects RX4 yX4_checkRow yX4_checkRow,
  Cond.static yX4_row,
  Cond.static yX1_resize,
  Cond.instanceMethod yX4_checkOctet,
  Cond.selects RX4 yX4_checkOctet yX4_checkOctet,
  Cond.static yX1_write,
  Cond.instanceMethod yX4_checkRange,
  Cond.selects RX4 yX4_checkRange yX4_checkRange,
  Cond.instanceMethod yX4_checkBlocks,
  Cond.selects RX4 yX4_checkBlocks yX4_checkBlocks,
  Cond.instanceMethod yX4_strongMask,
  Cond.selects RX4 yX4_strongMask yX4_strongMask,
  Cond.static yX4_firstPlace,
  Cond.static yX0_cut,
  Cond.static yX2_clear,
  Cond.static yX4_makeDelta,
  Cond.selects RX1 yX1_init yX1_init,
  Cond.static yX1_init,
  Cond.selects RX0 yX0_init yX0_init,
  Cond.static yX0_init,
  Cond.selects RX3 yX3_init yX3_init,
  Cond.static yX3_init,
  Cond.selects RX2 yX2_init yX2_init,
  Cond.static yX2_init]
def ds_xI : List Cond := (vx_atS RX4 60 "java/lang/IllegalArgumentException" ["java/lang/RuntimeException", "java/lang/Exception"]).filter goodWord
def ds_xO : List Cond := (vx_atS RX4 115 "java/lang/IndexOutOfBoundsException" ["java/lang/RuntimeException", "java/lang/Exception"]).filter goodWord
def ds_tail : List Cond := wsX00 ++ (wsX10 ++ (wsX20 ++ (wsX30 ++ (wsX40 ++ (wsX50 ++ (ds_xI ++ ds_xO))))))
def ds_all : List Cond := ds_words ++ ds_tail
theorem ds_in {w : Cond} (k : Nat) (h : ds_words[k]? = some w) : w ∈ ds_all := List.mem_append_left _ (List.mem_of_getElem? h)
theorem inA_X0 : ∀ w ∈ wsX00, w ∈ ds_all := fun _ h => List.mem_append_right _ (List.mem_append_left _ (h))
theorem inA_X1 : ∀ w ∈ wsX10, w ∈ ds_all := fun _ h => List.mem_append_right _ (List.mem_append_right _ (List.mem_append_left _ (h)))
theorem inA_X2 : ∀ w ∈ wsX20, w ∈ ds_all := fun _ h => List.mem_append_right _ (List.mem_append_right _ (List.mem_append_right _ (List.mem_append_left _ (h))))
theorem inA_X3 : ∀ w ∈ wsX30, w ∈ ds_all := fun _ h => List.mem_append_right _ (List.mem_append_right _ (List.mem_append_right _ (List.mem_append_right _ (List.mem_append_left _ (h)))))
theorem inA_X4 : ∀ w ∈ wsX40, w ∈ ds_all := fun _ h => List.mem_append_right _ (List.mem_append_right _ (List.mem_append_right _ (List.mem_append_right _ (List.mem_append_right _ (List.mem_append_left _ (h))))))
theorem inA_X5 : ∀ w ∈ wsX50, w ∈ ds_all := fun _ h => List.mem_append_right _ (List.mem_append_right _ (List.mem_append_right _ (List.mem_append_right _ (List.mem_append_right _ (List.mem_append_right _ (List.mem_append_left _ (h)))))))
theorem inA_xI : ∀ w ∈ ds_xI, w ∈ ds_all := fun _ h => List.mem_append_right _ (List.mem_append_right _ (List.mem_append_right _ (List.mem_append_right _ (List.mem_append_right _ (List.mem_append_right _ (List.mem_append_right _ (List.mem_append_left _ (h))))))))
theorem inA_xO : ∀ w ∈ ds_xO, w ∈ ds_all := fun _ h => List.mem_append_right _ (List.mem_append_right _ (List.mem_append_right _ (List.mem_append_right _ (List.mem_append_right _ (List.mem_append_right _ (List.mem_append_right _ (List.mem_append_right _ (h))))))))
set_option maxRecDepth 100000 in
theorem ds_good : ds_all.all goodWord = true := by decide +kernel
theorem ds_goodIn {w : Cond} (h : w ∈ ds_all) : GoodIn ds_all (w :: ds_all) := goodIn_sub (fun v hv => (List.mem_cons.mp hv).elim (fun e => e ▸ h) id) (List.all_eq_true.mpr (fun v hv => List.all_eq_true.mp ds_good v ((List.mem_cons.mp hv).elim (fun e => e ▸ h) id)))
set_option maxRecDepth 100000 in
theorem iw_0 : Cond.code yX4_init cX4_init 1 none ∈ ds_all := ds_in 0 rfl
theorem iw_1 : Cond.methodLink RX4 3 objectInit ∈ ds_all := ds_in 1 rfl
theorem iw_2 : Cond.instanceMethod objectInit ∈ ds_all := ds_in 2 rfl
theorem iw_3 : Cond.code objectInit ⟨#[0xb1]⟩ 1 none ∈ ds_all := ds_in 3 rfl
theorem iw_4 : Cond.classLink RX4 9 RX1 ∈ ds_all := ds_in 4 rfl
theorem iw_5 : Cond.instantiable RX1 2 ∈ ds_all := ds_in 5 rfl
theorem iw_6 : Cond.initialized RX1 ∈ ds_all := ds_in 6 rfl
theorem iw_7 : Cond.instanceMethod yX1_init ∈ ds_all := ds_in 7 rfl
theorem iw_8 : Cond.fieldLink RX4 12 "DeltaDesk" "oldRow" "LDeltaDesk$Row;" ∈ ds_all := ds_in 8 rfl
theorem iw_9 : Cond.fieldLink RX4 16 "DeltaDesk" "newRow" "LDeltaDesk$Row;" ∈ ds_all := ds_in 9 rfl
theorem iw_10 : Cond.fieldLink RX4 19 "DeltaDesk" "made" "LDeltaDesk$Row;" ∈ ds_all := ds_in 10 rfl
theorem iw_11 : Cond.classLink RX4 22 RX0 ∈ ds_all := ds_in 11 rfl
theorem iw_12 : Cond.instantiable RX0 6 ∈ ds_all := ds_in 12 rfl
theorem iw_13 : Cond.initialized RX0 ∈ ds_all := ds_in 13 rfl
theorem iw_14 : Cond.instanceMethod yX0_init ∈ ds_all := ds_in 14 rfl
theorem iw_15 : Cond.fieldLink RX4 27 "DeltaDesk" "blocks" "LDeltaDesk$Blocks;" ∈ ds_all := ds_in 15 rfl
theorem iw_16 : Cond.classLink RX4 31 RX3 ∈ ds_all := ds_in 16 rfl
theorem iw_17 : Cond.instantiable RX3 9 ∈ ds_all := ds_in 17 rfl
theorem iw_18 : Cond.initialized RX3 ∈ ds_all := ds_in 18 rfl
theorem iw_19 : Cond.instanceMethod yX3_init ∈ ds_all := ds_in 19 rfl
theorem iw_20 : Cond.fieldLink RX4 34 "DeltaDesk" "usualWindow" "LDeltaDesk$Window;" ∈ ds_all := ds_in 20 rfl
theorem iw_21 : Cond.fieldLink RX4 38 "DeltaDesk" "lastWindow" "LDeltaDesk$Window;" ∈ ds_all := ds_in 21 rfl
theorem iw_22 : Cond.classLink RX4 41 RX2 ∈ ds_all := ds_in 22 rfl
theorem iw_23 : Cond.instantiable RX2 4 ∈ ds_all := ds_in 23 rfl
theorem iw_24 : Cond.initialized RX2 ∈ ds_all := ds_in 24 rfl
theorem iw_25 : Cond.instanceMethod yX2_init ∈ ds_all := ds_in 25 rfl
theorem iw_26 : Cond.fieldLink RX4 44 "DeltaDesk" "tokens" "LDeltaDesk$Tokens;" ∈ ds_all := ds_in 26 rfl
theorem iw_27 : Cond.fieldLink RX4 48 "DeltaDesk" "hasDelta" "Z" ∈ ds_all := ds_in 27 rfl
theorem iw_28 : Cond.code yX4_size cX4_size 3 none ∈ ds_all := ds_in 28 rfl
theorem iw_29 : Cond.methodLink RX4 52 yX4_checkRow ∈ ds_all := ds_in 29 rfl
theorem iw_30 : Cond.initialized RX4 ∈ ds_all := ds_in 30 rfl
theorem iw_31 : Cond.static yX4_checkRow ∈ ds_all := ds_in 31 rfl
theorem iw_32 : Cond.classLink RX4 56 "java/lang/IllegalArgumentException" ∈ ds_all := ds_in 32 rfl
theorem iw_33 : Cond.initialized "java/lang/IllegalArgumentException" ∈ ds_all := ds_in 33 rfl
theorem iw_34 : Cond.methodLink RX4 63 yX4_row ∈ ds_all := ds_in 34 rfl
theorem iw_35 : Cond.instanceMethod yX4_row ∈ ds_all := ds_in 35 rfl
theorem iw_36 : Cond.selects RX4 yX4_row yX4_row ∈ ds_all := ds_in 36 rfl
theorem iw_37 : Cond.instanceMethod yX1_resize ∈ ds_all := ds_in 37 rfl
theorem iw_38 : Cond.selects RX1 yX1_resize yX1_resize ∈ ds_all := ds_in 38 rfl
theorem iw_39 : Cond.code yX4_put cX4_put 5 none ∈ ds_all := ds_in 39 rfl
theorem iw_40 : Cond.methodLink RX4 70 yX4_checkOctet ∈ ds_all := ds_in 40 rfl
theorem iw_41 : Cond.static yX4_checkOctet ∈ ds_all := ds_in 41 rfl
theorem iw_42 : Cond.instanceMethod yX1_write ∈ ds_all := ds_in 42 rfl
theorem iw_43 : Cond.selects RX1 yX1_write yX1_write ∈ ds_all := ds_in 43 rfl
theorem iw_44 : Cond.code yX4_move cX4_move 6 none ∈ ds_all := ds_in 44 rfl
theorem iw_45 : Cond.methodLink RX4 78 yX4_checkRange ∈ ds_all := ds_in 45 rfl
theorem iw_46 : Cond.static yX4_checkRange ∈ ds_all := ds_in 46 rfl
theorem iw_47 : Cond.methodLink RX4 86 arraycopyName ∈ ds_all := ds_in 47 rfl
theorem iw_48 : Cond.native arraycopyName ∈ ds_all := ds_in 48 rfl
theorem iw_49 : Cond.static arraycopyName ∈ ds_all := ds_in 49 rfl
theorem iw_50 : Cond.initialized "java/lang/System" ∈ ds_all := ds_in 50 rfl
theorem iw_51 : Cond.code yX4_octet cX4_octet 3 (some .int) ∈ ds_all := ds_in 51 rfl
theorem iw_52 : Cond.code yX4_weak cX4_weak 4 (some .int) ∈ ds_all := ds_in 52 rfl
theorem iw_53 : Cond.instanceMethod yX1_weakSum ∈ ds_all := ds_in 53 rfl
theorem iw_54 : Cond.selects RX1 yX1_weakSum yX1_weakSum ∈ ds_all := ds_in 54 rfl
theorem iw_55 : Cond.code yX4_strong cX4_strong 4 (some .long) ∈ ds_all := ds_in 55 rfl
theorem iw_56 : Cond.instanceMethod yX1_strongSum ∈ ds_all := ds_in 56 rfl
theorem iw_57 : Cond.selects RX1 yX1_strongSum yX1_strongSum ∈ ds_all := ds_in 57 rfl
theorem iw_58 : Cond.code yX4_find cX4_find 5 (some .int) ∈ ds_all := ds_in 58 rfl
theorem iw_59 : Cond.methodLink RX4 100 yX4_checkBlocks ∈ ds_all := ds_in 59 rfl
theorem iw_60 : Cond.static yX4_checkBlocks ∈ ds_all := ds_in 60 rfl
theorem iw_61 : Cond.methodLink RX4 108 yX4_blockCount ∈ ds_all := ds_in 61 rfl
theorem iw_62 : Cond.static yX4_blockCount ∈ ds_all := ds_in 62 rfl
theorem iw_63 : Cond.classLink RX4 111 "java/lang/IndexOutOfBoundsException" ∈ ds_all := ds_in 63 rfl
theorem iw_64 : Cond.initialized "java/lang/IndexOutOfBoundsException" ∈ ds_all := ds_in 64 rfl
theorem iw_65 : Cond.methodLink RX4 118 Lib.Math.min.name ∈ ds_all := ds_in 65 rfl
theorem iw_66 : Cond.static Lib.Math.min.name ∈ ds_all := ds_in 66 rfl
theorem iw_67 : Cond.initialized "java/lang/Math" ∈ ds_all := ds_in 67 rfl
theorem iw_68 : Cond.code Lib.Math.min.name Lib.Math.min.code 2 (some .int) ∈ ds_all := ds_in 68 rfl
theorem iw_69 : Cond.methodLink RX4 123 yX4_strongMask ∈ ds_all := ds_in 69 rfl
theorem iw_70 : Cond.static yX4_strongMask ∈ ds_all := ds_in 70 rfl
theorem iw_71 : Cond.methodLink RX4 127 yX4_firstPlace ∈ ds_all := ds_in 71 rfl
theorem iw_72 : Cond.instanceMethod yX4_firstPlace ∈ ds_all := ds_in 72 rfl
theorem iw_73 : Cond.selects RX4 yX4_firstPlace yX4_firstPlace ∈ ds_all := ds_in 73 rfl
theorem iw_74 : Cond.code yX4_delta cX4_delta 3 (some .int) ∈ ds_all := ds_in 74 rfl
theorem iw_75 : Cond.instanceMethod yX0_cut ∈ ds_all := ds_in 75 rfl
theorem iw_76 : Cond.selects RX0 yX0_cut yX0_cut ∈ ds_all := ds_in 76 rfl
theorem iw_77 : Cond.instanceMethod yX3_open ∈ ds_all := ds_in 77 rfl
theorem iw_78 : Cond.selects RX3 yX3_open yX3_open ∈ ds_all := ds_in 78 rfl
theorem iw_79 : Cond.instanceMethod yX2_clear ∈ ds_all := ds_in 79 rfl
theorem iw_80 : Cond.selects RX2 yX2_clear yX2_clear ∈ ds_all := ds_in 80 rfl
theorem iw_81 : Cond.methodLink RX4 143 yX4_makeDelta ∈ ds_all := ds_in 81 rfl
theorem iw_82 : Cond.instanceMethod yX4_makeDelta ∈ ds_all := ds_in 82 rfl
theorem iw_83 : Cond.selects RX4 yX4_makeDelta yX4_makeDelta ∈ ds_all := ds_in 83 rfl
theorem iw_84 : Cond.code yX4_token cX4_token 3 (some .int) ∈ ds_all := ds_in 84 rfl
theorem iw_85 : Cond.code yX4_sent cX4_sent 3 (some .int) ∈ ds_all := ds_in 85 rfl
theorem iw_86 : Cond.code yX4_patch cX4_patch 1 (some .int) ∈ ds_all := ds_in 86 rfl
theorem iw_87 : Cond.instanceMethod yX1_append ∈ ds_all := ds_in 87 rfl
theorem iw_88 : Cond.selects RX1 yX1_append yX1_append ∈ ds_all := ds_in 88 rfl
theorem iw_89 : Cond.code yX4_same cX4_same 2 (some .boolean) ∈ ds_all := ds_in 89 rfl
theorem iw_90 : Cond.code yX4_count cX4_count 2 (some .int) ∈ ds_all := ds_in 90 rfl
theorem iw_91 : Cond.code yX4_row cX4_row 2 (some (.object "DeltaDesk$Row")) ∈ ds_all := ds_in 91 rfl
theorem iw_92 : Cond.code yX4_checkRow cX4_checkRow 1 none ∈ ds_all := ds_in 92 rfl
theorem iw_93 : Cond.code yX4_checkOctet cX4_checkOctet 2 none ∈ ds_all := ds_in 93 rfl
theorem iw_94 : Cond.code yX4_checkRange cX4_checkRange 3 none ∈ ds_all := ds_in 94 rfl
theorem iw_95 : Cond.code yX4_checkBlocks cX4_checkBlocks 2 none ∈ ds_all := ds_in 95 rfl
theorem iw_96 : Cond.code yX4_blockCount cX4_blockCount 2 (some .int) ∈ ds_all := ds_in 96 rfl
theorem iw_97 : Cond.code yX4_strongMask cX4_strongMask 1 (some .long) ∈ ds_all := ds_in 97 rfl
theorem iw_98 : Cond.constantLong RX4 178 (-1) ∈ ds_all := ds_in 98 rfl
theorem iw_99 : Cond.code yX4_firstPlace cX4_firstPlace 10 (some .int) ∈ ds_all := ds_in 99 rfl
theorem iw_100 : Cond.instanceMethod yX3_moveTo ∈ ds_all := ds_in 100 rfl
theorem iw_101 : Cond.selects RX3 yX3_moveTo yX3_moveTo ∈ ds_all := ds_in 101 rfl
theorem iw_102 : Cond.instanceMethod yX3_shows ∈ ds_all := ds_in 102 rfl
theorem iw_103 : Cond.selects RX3 yX3_shows yX3_shows ∈ ds_all := ds_in 103 rfl
theorem iw_104 : Cond.code yX4_makeDelta cX4_makeDelta 7 none ∈ ds_all := ds_in 104 rfl
theorem iw_105 : Cond.methodLink RX4 187 yX4_blockAt ∈ ds_all := ds_in 105 rfl
theorem iw_106 : Cond.instanceMethod yX4_blockAt ∈ ds_all := ds_in 106 rfl
theorem iw_107 : Cond.selects RX4 yX4_blockAt yX4_blockAt ∈ ds_all := ds_in 107 rfl
theorem iw_108 : Cond.instanceMethod yX2_add ∈ ds_all := ds_in 108 rfl
theorem iw_109 : Cond.selects RX2 yX2_add yX2_add ∈ ds_all := ds_in 109 rfl
theorem iw_110 : Cond.instanceMethod yX0_start ∈ ds_all := ds_in 110 rfl
theorem iw_111 : Cond.selects RX0 yX0_start yX0_start ∈ ds_all := ds_in 111 rfl
theorem iw_112 : Cond.instanceMethod yX0_length ∈ ds_all := ds_in 112 rfl
theorem iw_113 : Cond.selects RX0 yX0_length yX0_length ∈ ds_all := ds_in 113 rfl
theorem iw_114 : Cond.code yX4_blockAt cX4_blockAt 6 (some .int) ∈ ds_all := ds_in 114 rfl
theorem iw_115 : Cond.methodLink RX4 201 yX4_fits ∈ ds_all := ds_in 115 rfl
theorem iw_116 : Cond.instanceMethod yX4_fits ∈ ds_all := ds_in 116 rfl
theorem iw_117 : Cond.selects RX4 yX4_fits yX4_fits ∈ ds_all := ds_in 117 rfl
theorem iw_118 : Cond.code yX4_fits cX4_fits 5 (some .boolean) ∈ ds_all := ds_in 118 rfl
theorem iw_119 : Cond.code yX5_init cX5_init 1 none ∈ ds_all := ds_in 119 rfl
theorem iw_120 : Cond.methodLink RX5 1 objectInit ∈ ds_all := ds_in 120 rfl
theorem iw_121 : Cond.arrayClass .int ∈ ds_all := ds_in 121 rfl
theorem iw_122 : Cond.fieldLink RX5 7 "DeltaDeskModel" "octets" "[I" ∈ ds_all := ds_in 122 rfl
theorem iw_123 : Cond.fieldLink RX5 13 "DeltaDeskModel" "then" "[I" ∈ ds_all := ds_in 123 rfl
theorem iw_124 : Cond.fieldLink RX5 16 "DeltaDeskModel" "made" "[I" ∈ ds_all := ds_in 124 rfl
theorem iw_125 : Cond.fieldLink RX5 19 "DeltaDeskModel" "sizes" "[I" ∈ ds_all := ds_in 125 rfl
theorem iw_126 : Cond.fieldLink RX5 22 "DeltaDeskModel" "thenSizes" "[I" ∈ ds_all := ds_in 126 rfl
theorem iw_127 : Cond.fieldLink RX5 25 "DeltaDeskModel" "kind" "[I" ∈ ds_all := ds_in 127 rfl
theorem iw_128 : Cond.fieldLink RX5 28 "DeltaDeskModel" "first" "[I" ∈ ds_all := ds_in 128 rfl
theorem iw_129 : Cond.fieldLink RX5 31 "DeltaDeskModel" "many" "[I" ∈ ds_all := ds_in 129 rfl
theorem iw_130 : Cond.code yX5_thrown cX5_thrown 1 (some .int) ∈ ds_all := ds_in 130 rfl
theorem iw_131 : Cond.fieldLink RX5 34 "DeltaDeskModel" "err" "I" ∈ ds_all := ds_in 131 rfl
theorem iw_132 : Cond.code yX5_fails cX5_fails 3 (some .boolean) ∈ ds_all := ds_in 132 rfl
theorem iw_133 : Cond.code yX5_no cX5_no 1 (some .boolean) ∈ ds_all := ds_in 133 rfl
theorem iw_134 : Cond.code yX5_size cX5_size 4 none ∈ ds_all := ds_in 134 rfl
theorem iw_135 : Cond.methodLink RX5 38 yX5_no ∈ ds_all := ds_in 135 rfl
theorem iw_136 : Cond.initialized RX5 ∈ ds_all := ds_in 136 rfl
theorem iw_137 : Cond.static yX5_no ∈ ds_all := ds_in 137 rfl
theorem iw_138 : Cond.methodLink RX5 42 yX5_fails ∈ ds_all := ds_in 138 rfl
theorem iw_139 : Cond.instanceMethod yX5_fails ∈ ds_all := ds_in 139 rfl
theorem iw_140 : Cond.selects RX5 yX5_fails yX5_fails ∈ ds_all := ds_in 140 rfl
theorem iw_141 : Cond.code yX5_put cX5_put 6 none ∈ ds_all := ds_in 141 rfl
theorem iw_142 : Cond.code yX5_lacks cX5_lacks 4 (some .boolean) ∈ ds_all := ds_in 142 rfl
theorem iw_143 : Cond.code yX5_move cX5_move 7 none ∈ ds_all := ds_in 143 rfl
theorem iw_144 : Cond.methodLink RX5 46 yX5_lacks ∈ ds_all := ds_in 144 rfl
theorem iw_145 : Cond.instanceMethod yX5_lacks ∈ ds_all := ds_in 145 rfl
theorem iw_146 : Cond.selects RX5 yX5_lacks yX5_lacks ∈ ds_all := ds_in 146 rfl
theorem iw_147 : Cond.code yX5_octet cX5_octet 3 (some .int) ∈ ds_all := ds_in 147 rfl
theorem iw_148 : Cond.code yX5_weakOf cX5_weakOf 7 (some .int) ∈ ds_all := ds_in 148 rfl
theorem iw_149 : Cond.constant RX5 50 65535 ∈ ds_all := ds_in 149 rfl
theorem iw_150 : Cond.constant RX5 51 65536 ∈ ds_all := ds_in 150 rfl
theorem iw_151 : Cond.code yX5_strongOf cX5_strongOf 7 (some .long) ∈ ds_all := ds_in 151 rfl
theorem iw_152 : Cond.constantLong RX5 52 (-3750763034362895579) ∈ ds_all := ds_in 152 rfl
theorem iw_153 : Cond.constantLong RX5 54 (1099511628211) ∈ ds_all := ds_in 153 rfl
theorem iw_154 : Cond.code yX5_weak cX5_weak 4 (some .int) ∈ ds_all := ds_in 154 rfl
theorem iw_155 : Cond.methodLink RX5 56 yX5_weakOf ∈ ds_all := ds_in 155 rfl
theorem iw_156 : Cond.instanceMethod yX5_weakOf ∈ ds_all := ds_in 156 rfl
theorem iw_157 : Cond.selects RX5 yX5_weakOf yX5_weakOf ∈ ds_all := ds_in 157 rfl
theorem iw_158 : Cond.code yX5_strong cX5_strong 4 (some .long) ∈ ds_all := ds_in 158 rfl
theorem iw_159 : Cond.methodLink RX5 60 yX5_strongOf ∈ ds_all := ds_in 159 rfl
theorem iw_160 : Cond.instanceMethod yX5_strongOf ∈ ds_all := ds_in 160 rfl
theorem iw_161 : Cond.selects RX5 yX5_strongOf yX5_strongOf ∈ ds_all := ds_in 161 rfl
theorem iw_162 : Cond.code yX5_bad cX5_bad 2 (some .boolean) ∈ ds_all := ds_in 162 rfl
theorem iw_163 : Cond.code yX5_blocks cX5_blocks 2 (some .int) ∈ ds_all := ds_in 163 rfl
theorem iw_164 : Cond.code yX5_length cX5_length 3 (some .int) ∈ ds_all := ds_in 164 rfl
theorem iw_165 : Cond.code yX5_fits cX5_fits 8 (some .boolean) ∈ ds_all := ds_in 165 rfl
theorem iw_166 : Cond.methodLink RX5 64 yX5_length ∈ ds_all := ds_in 166 rfl
theorem iw_167 : Cond.instanceMethod yX5_length ∈ ds_all := ds_in 167 rfl
theorem iw_168 : Cond.selects RX5 yX5_length yX5_length ∈ ds_all := ds_in 168 rfl
theorem iw_169 : Cond.code yX5_find cX5_find 6 (some .int) ∈ ds_all := ds_in 169 rfl
theorem iw_170 : Cond.methodLink RX5 68 yX5_bad ∈ ds_all := ds_in 170 rfl
theorem iw_171 : Cond.static yX5_bad ∈ ds_all := ds_in 171 rfl
theorem iw_172 : Cond.methodLink RX5 72 yX5_blocks ∈ ds_all := ds_in 172 rfl
theorem iw_173 : Cond.instanceMethod yX5_blocks ∈ ds_all := ds_in 173 rfl
theorem iw_174 : Cond.selects RX5 yX5_blocks yX5_blocks ∈ ds_all := ds_in 174 rfl
theorem iw_175 : Cond.methodLink RX5 76 yX5_fits ∈ ds_all := ds_in 175 rfl
theorem iw_176 : Cond.instanceMethod yX5_fits ∈ ds_all := ds_in 176 rfl
theorem iw_177 : Cond.selects RX5 yX5_fits yX5_fits ∈ ds_all := ds_in 177 rfl
theorem iw_178 : Cond.code yX5_delta cX5_delta 9 (some .int) ∈ ds_all := ds_in 178 rfl
theorem iw_179 : Cond.fieldLink RX5 80 "DeltaDeskModel" "is" "Z" ∈ ds_all := ds_in 179 rfl
theorem iw_180 : Cond.fieldLink RX5 84 "DeltaDeskModel" "tokens" "I" ∈ ds_all := ds_in 180 rfl
theorem iw_181 : Cond.fieldLink RX5 87 "DeltaDeskModel" "width" "I" ∈ ds_all := ds_in 181 rfl
theorem iw_182 : Cond.code yX5_token cX5_token 3 (some .int) ∈ ds_all := ds_in 182 rfl
theorem iw_183 : Cond.code yX5_sent cX5_sent 3 (some .int) ∈ ds_all := ds_in 183 rfl
theorem iw_184 : Cond.code yX5_patch cX5_patch 6 (some .int) ∈ ds_all := ds_in 184 rfl
theorem iw_185 : Cond.code yX5_same cX5_same 2 (some .boolean) ∈ ds_all := ds_in 185 rfl
theorem iw_186 : Cond.code yX5_count cX5_count 2 (some .int) ∈ ds_all := ds_in 186 rfl
theorem iw_187 : Cond.code yX0_init cX0_init 2 none ∈ ds_all := ds_in 187 rfl
theorem iw_188 : Cond.methodLink RX0 3 objectInit ∈ ds_all := ds_in 188 rfl
theorem iw_189 : Cond.fieldLink RX0 9 "DeltaDesk$Blocks" "row" "LDeltaDesk$Row;" ∈ ds_all := ds_in 189 rfl
theorem iw_190 : Cond.fieldLink RX0 15 "DeltaDesk$Blocks" "weaks" "[I" ∈ ds_all := ds_in 190 rfl
theorem iw_191 : Cond.arrayClass .long ∈ ds_all := ds_in 191 rfl
theorem iw_192 : Cond.fieldLink RX0 19 "DeltaDesk$Blocks" "strongs" "[J" ∈ ds_all := ds_in 192 rfl
theorem iw_193 : Cond.fieldLink RX0 23 "DeltaDesk$Blocks" "usualSize" "I" ∈ ds_all := ds_in 193 rfl
theorem iw_194 : Cond.fieldLink RX0 27 "DeltaDesk$Blocks" "lastSize" "I" ∈ ds_all := ds_in 194 rfl
theorem iw_195 : Cond.fieldLink RX0 30 "DeltaDesk$Blocks" "count" "I" ∈ ds_all := ds_in 195 rfl
theorem iw_196 : Cond.code yX0_cut cX0_cut 3 none ∈ ds_all := ds_in 196 rfl
theorem iw_197 : Cond.methodLink RX0 42 yX0_start ∈ ds_all := ds_in 197 rfl
theorem iw_198 : Cond.methodLink RX0 46 yX0_length ∈ ds_all := ds_in 198 rfl
theorem iw_199 : Cond.code yX0_start cX0_start 2 (some .int) ∈ ds_all := ds_in 199 rfl
theorem iw_200 : Cond.code yX0_length cX0_length 2 (some .int) ∈ ds_all := ds_in 200 rfl
theorem iw_201 : Cond.code yX1_init cX1_init 1 none ∈ ds_all := ds_in 201 rfl
theorem iw_202 : Cond.methodLink RX1 3 objectInit ∈ ds_all := ds_in 202 rfl
theorem iw_203 : Cond.fieldLink RX1 9 "DeltaDesk$Row" "octets" "[I" ∈ ds_all := ds_in 203 rfl
theorem iw_204 : Cond.fieldLink RX1 15 "DeltaDesk$Row" "length" "I" ∈ ds_all := ds_in 204 rfl
theorem iw_205 : Cond.code yX1_resize cX1_resize 3 none ∈ ds_all := ds_in 205 rfl
theorem iw_206 : Cond.code yX1_write cX1_write 5 none ∈ ds_all := ds_in 206 rfl
theorem iw_207 : Cond.code yX1_append cX1_append 4 none ∈ ds_all := ds_in 207 rfl
theorem iw_208 : Cond.methodLink RX1 19 arraycopyName ∈ ds_all := ds_in 208 rfl
theorem iw_209 : Cond.code yX1_weakSum cX1_weakSum 6 (some .int) ∈ ds_all := ds_in 209 rfl
theorem iw_210 : Cond.methodLink RX1 25 yX1_joinWeak ∈ ds_all := ds_in 210 rfl
theorem iw_211 : Cond.static yX1_joinWeak ∈ ds_all := ds_in 211 rfl
theorem iw_212 : Cond.code yX1_joinWeak cX1_joinWeak 2 (some .int) ∈ ds_all := ds_in 212 rfl
theorem iw_213 : Cond.constant RX1 29 65535 ∈ ds_all := ds_in 213 rfl
theorem iw_214 : Cond.constant RX1 30 65536 ∈ ds_all := ds_in 214 rfl
theorem iw_215 : Cond.code yX1_strongSum cX1_strongSum 6 (some .long) ∈ ds_all := ds_in 215 rfl
theorem iw_216 : Cond.constantLong RX1 31 (-3750763034362895579) ∈ ds_all := ds_in 216 rfl
theorem iw_217 : Cond.constantLong RX1 33 (1099511628211) ∈ ds_all := ds_in 217 rfl
theorem iw_218 : Cond.code yX2_init cX2_init 1 none ∈ ds_all := ds_in 218 rfl
theorem iw_219 : Cond.methodLink RX2 3 objectInit ∈ ds_all := ds_in 219 rfl
theorem iw_220 : Cond.fieldLink RX2 9 "DeltaDesk$Tokens" "kinds" "[I" ∈ ds_all := ds_in 220 rfl
theorem iw_221 : Cond.fieldLink RX2 15 "DeltaDesk$Tokens" "firsts" "[I" ∈ ds_all := ds_in 221 rfl
theorem iw_222 : Cond.fieldLink RX2 18 "DeltaDesk$Tokens" "lengths" "[I" ∈ ds_all := ds_in 222 rfl
theorem iw_223 : Cond.fieldLink RX2 21 "DeltaDesk$Tokens" "count" "I" ∈ ds_all := ds_in 223 rfl
theorem iw_224 : Cond.code yX2_clear cX2_clear 1 none ∈ ds_all := ds_in 224 rfl
theorem iw_225 : Cond.code yX2_add cX2_add 3 none ∈ ds_all := ds_in 225 rfl
theorem iw_226 : Cond.methodLink RX2 25 yX2_goesOn ∈ ds_all := ds_in 226 rfl
theorem iw_227 : Cond.instanceMethod yX2_goesOn ∈ ds_all := ds_in 227 rfl
theorem iw_228 : Cond.selects RX2 yX2_goesOn yX2_goesOn ∈ ds_all := ds_in 228 rfl
theorem iw_229 : Cond.code yX2_goesOn cX2_goesOn 3 (some .boolean) ∈ ds_all := ds_in 229 rfl
theorem iw_230 : Cond.code yX3_init cX3_init 2 none ∈ ds_all := ds_in 230 rfl
theorem iw_231 : Cond.methodLink RX3 3 objectInit ∈ ds_all := ds_in 231 rfl
theorem iw_232 : Cond.fieldLink RX3 9 "DeltaDesk$Window" "row" "LDeltaDesk$Row;" ∈ ds_all := ds_in 232 rfl
theorem iw_233 : Cond.fieldLink RX3 15 "DeltaDesk$Window" "size" "I" ∈ ds_all := ds_in 233 rfl
theorem iw_234 : Cond.fieldLink RX3 19 "DeltaDesk$Window" "place" "I" ∈ ds_all := ds_in 234 rfl
theorem iw_235 : Cond.fieldLink RX3 22 "DeltaDesk$Window" "inside" "Z" ∈ ds_all := ds_in 235 rfl
theorem iw_236 : Cond.fieldLink RX3 26 "DeltaDesk$Window" "knowsStrong" "Z" ∈ ds_all := ds_in 236 rfl
theorem iw_237 : Cond.code yX3_open cX3_open 2 none ∈ ds_all := ds_in 237 rfl
theorem iw_238 : Cond.code yX3_moveTo cX3_moveTo 3 none ∈ ds_all := ds_in 238 rfl
theorem iw_239 : Cond.methodLink RX3 34 yX3_roll ∈ ds_all := ds_in 239 rfl
theorem iw_240 : Cond.instanceMethod yX3_roll ∈ ds_all := ds_in 240 rfl
theorem iw_241 : Cond.selects RX3 yX3_roll yX3_roll ∈ ds_all := ds_in 241 rfl
theorem iw_242 : Cond.methodLink RX3 37 yX3_sumAfresh ∈ ds_all := ds_in 242 rfl
theorem iw_243 : Cond.instanceMethod yX3_sumAfresh ∈ ds_all := ds_in 243 rfl
theorem iw_244 : Cond.selects RX3 yX3_sumAfresh yX3_sumAfresh ∈ ds_all := ds_in 244 rfl
theorem iw_245 : Cond.fieldLink RX3 41 "DeltaDesk$Window" "a" "I" ∈ ds_all := ds_in 245 rfl
theorem iw_246 : Cond.fieldLink RX3 44 "DeltaDesk$Window" "b" "I" ∈ ds_all := ds_in 246 rfl
theorem iw_247 : Cond.fieldLink RX3 51 "DeltaDesk$Window" "weakHere" "I" ∈ ds_all := ds_in 247 rfl
theorem iw_248 : Cond.code yX3_roll cX3_roll 3 none ∈ ds_all := ds_in 248 rfl
theorem iw_249 : Cond.code yX3_sumAfresh cX3_sumAfresh 3 none ∈ ds_all := ds_in 249 rfl
theorem iw_250 : Cond.code yX3_shows cX3_shows 6 (some .boolean) ∈ ds_all := ds_in 250 rfl
theorem iw_251 : Cond.methodLink RX3 58 yX3_strongSumHere ∈ ds_all := ds_in 251 rfl
theorem iw_252 : Cond.instanceMethod yX3_strongSumHere ∈ ds_all := ds_in 252 rfl
theorem iw_253 : Cond.selects RX3 yX3_strongSumHere yX3_strongSumHere ∈ ds_all := ds_in 253 rfl
theorem iw_254 : Cond.code yX3_strongSumHere cX3_strongSumHere 1 (some .long) ∈ ds_all := ds_in 254 rfl
theorem iw_255 : Cond.fieldLink RX3 66 "DeltaDesk$Window" "strongHere" "J" ∈ ds_all := ds_in 255 rfl
theorem iw_256 : Cond.codeWith yL_size cL_size 4 (some .int) [(0, 6, 9, 13)] ∈ ds_all := ds_in 256 rfl
theorem iw_257 : Cond.methodLink RL 7 yX4_size ∈ ds_all := ds_in 257 rfl
theorem iw_258 : Cond.instanceMethod yX4_size ∈ ds_all := ds_in 258 rfl
theorem iw_259 : Cond.selects RX4 yX4_size yX4_size ∈ ds_all := ds_in 259 rfl
theorem iw_260 : Cond.codeWith yL_put cL_put 6 (some .int) [(0, 7, 10, 13), (0, 7, 14, 19)] ∈ ds_all := ds_in 260 rfl
theorem iw_261 : Cond.methodLink RL 15 yX4_put ∈ ds_all := ds_in 261 rfl
theorem iw_262 : Cond.instanceMethod yX4_put ∈ ds_all := ds_in 262 rfl
theorem iw_263 : Cond.selects RX4 yX4_put yX4_put ∈ ds_all := ds_in 263 rfl
theorem iw_264 : Cond.codeWith yL_move cL_move 7 (some .int) [(0, 11, 14, 13), (0, 11, 18, 19)] ∈ ds_all := ds_in 264 rfl
theorem iw_265 : Cond.methodLink RL 21 yX4_move ∈ ds_all := ds_in 265 rfl
theorem iw_266 : Cond.instanceMethod yX4_move ∈ ds_all := ds_in 266 rfl
theorem iw_267 : Cond.selects RX4 yX4_move yX4_move ∈ ds_all := ds_in 267 rfl
theorem iw_268 : Cond.codeWith yL_octet cL_octet 5 (some .int) [(0, 10, 13, 13), (0, 10, 17, 19)] ∈ ds_all := ds_in 268 rfl
theorem iw_269 : Cond.methodLink RL 25 yX4_octet ∈ ds_all := ds_in 269 rfl
theorem iw_270 : Cond.instanceMethod yX4_octet ∈ ds_all := ds_in 270 rfl
theorem iw_271 : Cond.selects RX4 yX4_octet yX4_octet ∈ ds_all := ds_in 271 rfl
theorem iw_272 : Cond.codeWith yL_weak cL_weak 6 (some .int) [(0, 12, 15, 13), (0, 12, 19, 19)] ∈ ds_all := ds_in 272 rfl
theorem iw_273 : Cond.methodLink RL 29 yX4_weak ∈ ds_all := ds_in 273 rfl
theorem iw_274 : Cond.instanceMethod yX4_weak ∈ ds_all := ds_in 274 rfl
theorem iw_275 : Cond.selects RX4 yX4_weak yX4_weak ∈ ds_all := ds_in 275 rfl
theorem iw_276 : Cond.codeWith yL_strong cL_strong 6 (some .int) [(0, 11, 14, 13), (0, 11, 18, 19)] ∈ ds_all := ds_in 276 rfl
theorem iw_277 : Cond.methodLink RL 33 yX4_strong ∈ ds_all := ds_in 277 rfl
theorem iw_278 : Cond.instanceMethod yX4_strong ∈ ds_all := ds_in 278 rfl
theorem iw_279 : Cond.selects RX4 yX4_strong yX4_strong ∈ ds_all := ds_in 279 rfl
theorem iw_280 : Cond.codeWith yL_find cL_find 7 (some .int) [(0, 14, 17, 13), (0, 14, 21, 19)] ∈ ds_all := ds_in 280 rfl
theorem iw_281 : Cond.methodLink RL 37 yX4_find ∈ ds_all := ds_in 281 rfl
theorem iw_282 : Cond.instanceMethod yX4_find ∈ ds_all := ds_in 282 rfl
theorem iw_283 : Cond.selects RX4 yX4_find yX4_find ∈ ds_all := ds_in 283 rfl
theorem iw_284 : Cond.codeWith yL_delta cL_delta 5 (some .int) [(0, 10, 13, 13)] ∈ ds_all := ds_in 284 rfl
theorem iw_285 : Cond.methodLink RL 41 yX4_delta ∈ ds_all := ds_in 285 rfl
theorem iw_286 : Cond.instanceMethod yX4_delta ∈ ds_all := ds_in 286 rfl
theorem iw_287 : Cond.selects RX4 yX4_delta yX4_delta ∈ ds_all := ds_in 287 rfl
theorem iw_288 : Cond.codeWith yL_token cL_token 5 (some .int) [(0, 10, 13, 13), (0, 10, 17, 19)] ∈ ds_all := ds_in 288 rfl
theorem iw_289 : Cond.methodLink RL 44 yX4_token ∈ ds_all := ds_in 289 rfl
theorem iw_290 : Cond.instanceMethod yX4_token ∈ ds_all := ds_in 290 rfl
theorem iw_291 : Cond.selects RX4 yX4_token yX4_token ∈ ds_all := ds_in 291 rfl
theorem iw_292 : Cond.codeWith yL_count cL_count 4 (some .int) [(0, 9, 12, 13)] ∈ ds_all := ds_in 292 rfl
theorem iw_293 : Cond.methodLink RL 47 yX4_count ∈ ds_all := ds_in 293 rfl
theorem iw_294 : Cond.instanceMethod yX4_count ∈ ds_all := ds_in 294 rfl
theorem iw_295 : Cond.selects RX4 yX4_count yX4_count ∈ ds_all := ds_in 295 rfl
theorem iw_296 : Cond.classLink RL 8 RX4 ∈ ds_all := ds_in 296 rfl
theorem iw_297 : Cond.instantiable RX4 8 ∈ ds_all := ds_in 297 rfl
theorem iw_298 : Cond.methodLink RL 51 yX4_init ∈ ds_all := ds_in 298 rfl
theorem iw_299 : Cond.instanceMethod yX4_init ∈ ds_all := ds_in 299 rfl
theorem iw_300 : Cond.classLink RL 52 RX5 ∈ ds_all := ds_in 300 rfl
theorem iw_301 : Cond.instantiable RX5 12 ∈ ds_all := ds_in 301 rfl
theorem iw_302 : Cond.methodLink RL 54 yX5_init ∈ ds_all := ds_in 302 rfl
theorem iw_303 : Cond.instanceMethod yX5_init ∈ ds_all := ds_in 303 rfl
theorem iw_304 : Cond.methodLink RL 55 yL_size ∈ ds_all := ds_in 304 rfl
theorem iw_305 : Cond.initialized RL ∈ ds_all := ds_in 305 rfl
theorem iw_306 : Cond.static yL_size ∈ ds_all := ds_in 306 rfl
theorem iw_307 : Cond.methodLink RL 60 yX5_size ∈ ds_all := ds_in 307 rfl
theorem iw_308 : Cond.instanceMethod yX5_size ∈ ds_all := ds_in 308 rfl
theorem iw_309 : Cond.selects RX5 yX5_size yX5_size ∈ ds_all := ds_in 309 rfl
theorem iw_310 : Cond.methodLink RL 61 yX5_thrown ∈ ds_all := ds_in 310 rfl
theorem iw_311 : Cond.instanceMethod yX5_thrown ∈ ds_all := ds_in 311 rfl
theorem iw_312 : Cond.selects RX5 yX5_thrown yX5_thrown ∈ ds_all := ds_in 312 rfl
theorem iw_313 : Cond.constantLong RL 65 (4294967295) ∈ ds_all := ds_in 313 rfl
theorem iw_314 : Cond.methodLink RL 67 yL_put ∈ ds_all := ds_in 314 rfl
theorem iw_315 : Cond.static yL_put ∈ ds_all := ds_in 315 rfl
theorem iw_316 : Cond.methodLink RL 70 yX5_put ∈ ds_all := ds_in 316 rfl
theorem iw_317 : Cond.instanceMethod yX5_put ∈ ds_all := ds_in 317 rfl
theorem iw_318 : Cond.selects RX5 yX5_put yX5_put ∈ ds_all := ds_in 318 rfl
theorem iw_319 : Cond.methodLink RL 71 yL_move ∈ ds_all := ds_in 319 rfl
theorem iw_320 : Cond.static yL_move ∈ ds_all := ds_in 320 rfl
theorem iw_321 : Cond.methodLink RL 74 yX5_move ∈ ds_all := ds_in 321 rfl
theorem iw_322 : Cond.instanceMethod yX5_move ∈ ds_all := ds_in 322 rfl
theorem iw_323 : Cond.selects RX5 yX5_move yX5_move ∈ ds_all := ds_in 323 rfl
theorem iw_324 : Cond.methodLink RL 75 yL_octet ∈ ds_all := ds_in 324 rfl
theorem iw_325 : Cond.static yL_octet ∈ ds_all := ds_in 325 rfl
theorem iw_326 : Cond.methodLink RL 78 yX5_octet ∈ ds_all := ds_in 326 rfl
theorem iw_327 : Cond.instanceMethod yX5_octet ∈ ds_all := ds_in 327 rfl
theorem iw_328 : Cond.selects RX5 yX5_octet yX5_octet ∈ ds_all := ds_in 328 rfl
theorem iw_329 : Cond.methodLink RL 79 yL_weak ∈ ds_all := ds_in 329 rfl
theorem iw_330 : Cond.static yL_weak ∈ ds_all := ds_in 330 rfl
theorem iw_331 : Cond.methodLink RL 82 yX5_weak ∈ ds_all := ds_in 331 rfl
theorem iw_332 : Cond.instanceMethod yX5_weak ∈ ds_all := ds_in 332 rfl
theorem iw_333 : Cond.selects RX5 yX5_weak yX5_weak ∈ ds_all := ds_in 333 rfl
theorem iw_334 : Cond.methodLink RL 83 yL_strong ∈ ds_all := ds_in 334 rfl
theorem iw_335 : Cond.static yL_strong ∈ ds_all := ds_in 335 rfl
theorem iw_336 : Cond.methodLink RL 85 yX5_strong ∈ ds_all := ds_in 336 rfl
theorem iw_337 : Cond.instanceMethod yX5_strong ∈ ds_all := ds_in 337 rfl
theorem iw_338 : Cond.selects RX5 yX5_strong yX5_strong ∈ ds_all := ds_in 338 rfl
theorem iw_339 : Cond.methodLink RL 86 yL_find ∈ ds_all := ds_in 339 rfl
theorem iw_340 : Cond.static yL_find ∈ ds_all := ds_in 340 rfl
theorem iw_341 : Cond.methodLink RL 89 yX5_find ∈ ds_all := ds_in 341 rfl
theorem iw_342 : Cond.instanceMethod yX5_find ∈ ds_all := ds_in 342 rfl
theorem iw_343 : Cond.selects RX5 yX5_find yX5_find ∈ ds_all := ds_in 343 rfl
theorem iw_344 : Cond.methodLink RL 90 yL_delta ∈ ds_all := ds_in 344 rfl
theorem iw_345 : Cond.static yL_delta ∈ ds_all := ds_in 345 rfl
theorem iw_346 : Cond.methodLink RL 92 yX5_delta ∈ ds_all := ds_in 346 rfl
theorem iw_347 : Cond.instanceMethod yX5_delta ∈ ds_all := ds_in 347 rfl
theorem iw_348 : Cond.selects RX5 yX5_delta yX5_delta ∈ ds_all := ds_in 348 rfl
theorem iw_349 : Cond.methodLink RL 93 yL_token ∈ ds_all := ds_in 349 rfl
theorem iw_350 : Cond.static yL_token ∈ ds_all := ds_in 350 rfl
theorem iw_351 : Cond.methodLink RL 95 yX5_token ∈ ds_all := ds_in 351 rfl
theorem iw_352 : Cond.instanceMethod yX5_token ∈ ds_all := ds_in 352 rfl
theorem iw_353 : Cond.selects RX5 yX5_token yX5_token ∈ ds_all := ds_in 353 rfl
theorem iw_354 : Cond.methodLink RL 96 yX4_sent ∈ ds_all := ds_in 354 rfl
theorem iw_355 : Cond.instanceMethod yX4_sent ∈ ds_all := ds_in 355 rfl
theorem iw_356 : Cond.selects RX4 yX4_sent yX4_sent ∈ ds_all := ds_in 356 rfl
theorem iw_357 : Cond.methodLink RL 99 yX5_sent ∈ ds_all := ds_in 357 rfl
theorem iw_358 : Cond.instanceMethod yX5_sent ∈ ds_all := ds_in 358 rfl
theorem iw_359 : Cond.selects RX5 yX5_sent yX5_sent ∈ ds_all := ds_in 359 rfl
theorem iw_360 : Cond.methodLink RL 100 yX4_patch ∈ ds_all := ds_in 360 rfl
theorem iw_361 : Cond.instanceMethod yX4_patch ∈ ds_all := ds_in 361 rfl
theorem iw_362 : Cond.selects RX4 yX4_patch yX4_patch ∈ ds_all := ds_in 362 rfl
theorem iw_363 : Cond.methodLink RL 103 yX5_patch ∈ ds_all := ds_in 363 rfl
theorem iw_364 : Cond.instanceMethod yX5_patch ∈ ds_all := ds_in 364 rfl
theorem iw_365 : Cond.selects RX5 yX5_patch yX5_patch ∈ ds_all := ds_in 365 rfl
theorem iw_366 : Cond.methodLink RL 104 yX4_same ∈ ds_all := ds_in 366 rfl
theorem iw_367 : Cond.instanceMethod yX4_same ∈ ds_all := ds_in 367 rfl
theorem iw_368 : Cond.selects RX4 yX4_same yX4_same ∈ ds_all := ds_in 368 rfl
theorem iw_369 : Cond.methodLink RL 108 yX5_same ∈ ds_all := ds_in 369 rfl
theorem iw_370 : Cond.instanceMethod yX5_same ∈ ds_all := ds_in 370 rfl
theorem iw_371 : Cond.selects RX5 yX5_same yX5_same ∈ ds_all := ds_in 371 rfl
theorem iw_372 : Cond.methodLink RL 109 yL_count ∈ ds_all := ds_in 372 rfl
theorem iw_373 : Cond.static yL_count ∈ ds_all := ds_in 373 rfl
theorem iw_374 : Cond.methodLink RL 112 yX5_count ∈ ds_all := ds_in 374 rfl
theorem iw_375 : Cond.instanceMethod yX5_count ∈ ds_all := ds_in 375 rfl
theorem iw_376 : Cond.selects RX5 yX5_count yX5_count ∈ ds_all := ds_in 376 rfl
theorem iw_377 : Cond.instanceMethod yX1_joinWeak ∈ ds_all := ds_in 377 rfl
theorem iw_378 : Cond.selects RX1 yX1_joinWeak yX1_joinWeak ∈ ds_all := ds_in 378 rfl
theorem iw_379 : Cond.static yX2_goesOn ∈ ds_all := ds_in 379 rfl
theorem iw_380 : Cond.static yX0_start ∈ ds_all := ds_in 380 rfl
theorem iw_381 : Cond.static yX0_length ∈ ds_all := ds_in 381 rfl
theorem iw_382 : Cond.static yX1_weakSum ∈ ds_all := ds_in 382 rfl
theorem iw_383 : Cond.static yX1_strongSum ∈ ds_all := ds_in 383 rfl
theorem iw_384 : Cond.instanceMethod yX4_blockCount ∈ ds_all := ds_in 384 rfl
theorem iw_385 : Cond.selects RX4 yX4_blockCount yX4_blockCount ∈ ds_all := ds_in 385 rfl
theorem iw_386 : Cond.static yX3_sumAfresh ∈ ds_all := ds_in 386 rfl
theorem iw_387 : Cond.static yX3_roll ∈ ds_all := ds_in 387 rfl
theorem iw_388 : Cond.static yX3_strongSumHere ∈ ds_all := ds_in 388 rfl
theorem iw_389 : Cond.static yX3_shows ∈ ds_all := ds_in 389 rfl
theorem iw_390 : Cond.static yX3_moveTo ∈ ds_all := ds_in 390 rfl
theorem iw_391 : Cond.static yX4_fits ∈ ds_all := ds_in 391 rfl
theorem iw_392 : Cond.static yX3_open ∈ ds_all := ds_in 392 rfl
theorem iw_393 : Cond.static yX4_blockAt ∈ ds_all := ds_in 393 rfl
theorem iw_394 : Cond.static yX2_add ∈ ds_all := ds_in 394 rfl
theorem iw_395 : Cond.static yX1_append ∈ ds_all := ds_in 395 rfl
theorem iw_396 : Cond.instanceMethod yX4_checkRow ∈ ds_all := ds_in 396 rfl
theorem iw_397 : Cond.selects RX4 yX4_checkRow yX4_checkRow ∈ ds_all := ds_in 397 rfl
theorem iw_398 : Cond.static yX4_row ∈ ds_all := ds_in 398 rfl
theorem iw_399 : Cond.static yX1_resize ∈ ds_all := ds_in 399 rfl
theorem iw_400 : Cond.instanceMethod yX4_checkOctet ∈ ds_all := ds_in 400 rfl
theorem iw_401 : Cond.selects RX4 yX4_checkOctet yX4_checkOctet ∈ ds_all := ds_in 401 rfl
theorem iw_402 : Cond.static yX1_write ∈ ds_all := ds_in 402 rfl
theorem iw_403 : Cond.instanceMethod yX4_checkRange ∈ ds_all := ds_in 403 rfl
theorem iw_404 : Cond.selects RX4 yX4_checkRange yX4_checkRange ∈ ds_all := ds_in 404 rfl
theorem iw_405 : Cond.instanceMethod yX4_checkBlocks ∈ ds_all := ds_in 405 rfl
theorem iw_406 : Cond.selects RX4 yX4_checkBlocks yX4_checkBlocks ∈ ds_all := ds_in 406 rfl
theorem iw_407 : Cond.instanceMethod yX4_strongMask ∈ ds_all := ds_in 407 rfl
theorem iw_408 : Cond.selects RX4 yX4_strongMask yX4_strongMask ∈ ds_all := ds_in 408 rfl
theorem iw_409 : Cond.static yX4_firstPlace ∈ ds_all := ds_in 409 rfl
theorem iw_410 : Cond.static yX0_cut ∈ ds_all := ds_in 410 rfl
theorem iw_411 : Cond.static yX2_clear ∈ ds_all := ds_in 411 rfl
theorem iw_412 : Cond.static yX4_makeDelta ∈ ds_all := ds_in 412 rfl
theorem iw_413 : Cond.selects RX1 yX1_init yX1_init ∈ ds_all := ds_in 413 rfl
theorem iw_414 : Cond.static yX1_init ∈ ds_all := ds_in 414 rfl
theorem iw_415 : Cond.selects RX0 yX0_init yX0_init ∈ ds_all := ds_in 415 rfl
theorem iw_416 : Cond.static yX0_init ∈ ds_all := ds_in 416 rfl
theorem iw_417 : Cond.selects RX3 yX3_init yX3_init ∈ ds_all := ds_in 417 rfl
theorem iw_418 : Cond.static yX3_init ∈ ds_all := ds_in 418 rfl
theorem iw_419 : Cond.selects RX2 yX2_init yX2_init ∈ ds_all := ds_in 419 rfl
theorem iw_420 : Cond.static yX2_init ∈ ds_all := ds_in 420 rfl
def ds_nF : List (String × Nat × String × String × String × String) := [
  (RX4, 82, "DeltaDesk$Row", "octets", "[I", "DeltaDesk"),
  (RX4, 104, "DeltaDesk$Row", "length", "I", "DeltaDesk"),
  (RX4, 137, "DeltaDesk$Blocks", "lastSize", "I", "DeltaDesk"),
  (RX4, 147, "DeltaDesk$Tokens", "count", "I", "DeltaDesk"),
  (RX4, 154, "DeltaDesk$Tokens", "kinds", "[I", "DeltaDesk"),
  (RX4, 157, "DeltaDesk$Tokens", "firsts", "[I", "DeltaDesk"),
  (RX4, 160, "DeltaDesk$Tokens", "lengths", "[I", "DeltaDesk"),
  (RX4, 200, "DeltaDesk$Blocks", "count", "I", "DeltaDesk"),
  (RX4, 205, "DeltaDesk$Blocks", "weaks", "[I", "DeltaDesk"),
  (RX4, 208, "DeltaDesk$Blocks", "strongs", "[J", "DeltaDesk"),
  (RX0, 33, "DeltaDesk$Row", "length", "I", "DeltaDesk"),
  (RX3, 29, "DeltaDesk$Row", "length", "I", "DeltaDesk"),
  (RX3, 54, "DeltaDesk$Row", "octets", "[I", "DeltaDesk")]
def ds_nM : List (String × Nat × MethodName × String) := [
  (RX4, 11, yX1_init, "DeltaDesk"),
  (RX4, 24, yX0_init, "DeltaDesk"),
  (RX4, 33, yX3_init, "DeltaDesk"),
  (RX4, 43, yX2_init, "DeltaDesk"),
  (RX4, 67, yX1_resize, "DeltaDesk"),
  (RX4, 74, yX1_write, "DeltaDesk"),
  (RX4, 92, yX1_weakSum, "DeltaDesk"),
  (RX4, 96, yX1_strongSum, "DeltaDesk"),
  (RX4, 131, yX0_cut, "DeltaDesk"),
  (RX4, 134, yX3_open, "DeltaDesk"),
  (RX4, 140, yX2_clear, "DeltaDesk"),
  (RX4, 163, yX1_append, "DeltaDesk"),
  (RX4, 180, yX3_moveTo, "DeltaDesk"),
  (RX4, 183, yX3_shows, "DeltaDesk"),
  (RX4, 191, yX2_add, "DeltaDesk"),
  (RX4, 194, yX0_start, "DeltaDesk"),
  (RX4, 198, yX0_length, "DeltaDesk"),
  (RX0, 38, yX4_blockCount, "DeltaDesk"),
  (RX0, 48, yX1_weakSum, "DeltaDesk"),
  (RX0, 51, yX1_strongSum, "DeltaDesk"),
  (RX3, 47, yX1_joinWeak, "DeltaDesk"),
  (RX3, 62, yX1_strongSum, "DeltaDesk")]
def ds_nC : List (String × String) := [("java/lang/IllegalArgumentException", "java/lang/IllegalArgumentException"), ("java/lang/IndexOutOfBoundsException", "java/lang/IndexOutOfBoundsException")]
def ds_nD : List MethodName := [⟨"java/lang/RuntimeException", "<init>", "(Ljava/lang/String;)V"⟩, ⟨"java/lang/Exception", "<init>", "(Ljava/lang/String;)V"⟩, ⟨"java/lang/Throwable", "<init>", "(Ljava/lang/String;)V"⟩]
def ds_tx : List (Nat × String) := [(58, "a row has 0 to 1200 octets"), (113, "there is no such block"), (116, "the place is below 0"), (150, "a token tells 0, 1 or 2"), (152, "there is no such token"), (166, "counts are 0, 1 and 2"), (168, "rows are 0 and 1"), (170, "there is no such octet"), (172, "there are not so many octets"), (174, "a block has 4 to 256 octets"), (176, "bits are 0 to 64")]
theorem nf_0 : (RX4, 82, "DeltaDesk$Row", "octets", "[I", "DeltaDesk") ∈ ds_nF := List.mem_of_getElem? (i := 0) rfl
theorem nf_1 : (RX4, 104, "DeltaDesk$Row", "length", "I", "DeltaDesk") ∈ ds_nF := List.mem_of_getElem? (i := 1) rfl
theorem nf_2 : (RX4, 137, "DeltaDesk$Blocks", "lastSize", "I", "DeltaDesk") ∈ ds_nF := List.mem_of_getElem? (i := 2) rfl
theorem nf_3 : (RX4, 147, "DeltaDesk$Tokens", "count", "I", "DeltaDesk") ∈ ds_nF := List.mem_of_getElem? (i := 3) rfl
theorem nf_4 : (RX4, 154, "DeltaDesk$Tokens", "kinds", "[I", "DeltaDesk") ∈ ds_nF := List.mem_of_getElem? (i := 4) rfl
theorem nf_5 : (RX4, 157, "DeltaDesk$Tokens", "firsts", "[I", "DeltaDesk") ∈ ds_nF := List.mem_of_getElem? (i := 5) rfl
theorem nf_6 : (RX4, 160, "DeltaDesk$Tokens", "lengths", "[I", "DeltaDesk") ∈ ds_nF := List.mem_of_getElem? (i := 6) rfl
theorem nf_7 : (RX4, 200, "DeltaDesk$Blocks", "count", "I", "DeltaDesk") ∈ ds_nF := List.mem_of_getElem? (i := 7) rfl
theorem nf_8 : (RX4, 205, "DeltaDesk$Blocks", "weaks", "[I", "DeltaDesk") ∈ ds_nF := List.mem_of_getElem? (i := 8) rfl
theorem nf_9 : (RX4, 208, "DeltaDesk$Blocks", "strongs", "[J", "DeltaDesk") ∈ ds_nF := List.mem_of_getElem? (i := 9) rfl
theorem nf_10 : (RX0, 33, "DeltaDesk$Row", "length", "I", "DeltaDesk") ∈ ds_nF := List.mem_of_getElem? (i := 10) rfl
theorem nf_11 : (RX3, 29, "DeltaDesk$Row", "length", "I", "DeltaDesk") ∈ ds_nF := List.mem_of_getElem? (i := 11) rfl
theorem nf_12 : (RX3, 54, "DeltaDesk$Row", "octets", "[I", "DeltaDesk") ∈ ds_nF := List.mem_of_getElem? (i := 12) rfl
theorem nm_0 : (RX4, 11, yX1_init, "DeltaDesk") ∈ ds_nM := List.mem_of_getElem? (i := 0) rfl
theorem nm_1 : (RX4, 24, yX0_init, "DeltaDesk") ∈ ds_nM := List.mem_of_getElem? (i := 1) rfl
theorem nm_2 : (RX4, 33, yX3_init, "DeltaDesk") ∈ ds_nM := List.mem_of_getElem? (i := 2) rfl
theorem nm_3 : (RX4, 43, yX2_init, "DeltaDesk") ∈ ds_nM := List.mem_of_getElem? (i := 3) rfl
theorem nm_4 : (RX4, 67, yX1_resize, "DeltaDesk") ∈ ds_nM := List.mem_of_getElem? (i := 4) rfl
theorem nm_5 : (RX4, 74, yX1_write, "DeltaDesk") ∈ ds_nM := List.mem_of_getElem? (i := 5) rfl
theorem nm_6 : (RX4, 92, yX1_weakSum, "DeltaDesk") ∈ ds_nM := List.mem_of_getElem? (i := 6) rfl
theorem nm_7 : (RX4, 96, yX1_strongSum, "DeltaDesk") ∈ ds_nM := List.mem_of_getElem? (i := 7) rfl
theorem nm_8 : (RX4, 131, yX0_cut, "DeltaDesk") ∈ ds_nM := List.mem_of_getElem? (i := 8) rfl
theorem nm_9 : (RX4, 134, yX3_open, "DeltaDesk") ∈ ds_nM := List.mem_of_getElem? (i := 9) rfl
theorem nm_10 : (RX4, 140, yX2_clear, "DeltaDesk") ∈ ds_nM := List.mem_of_getElem? (i := 10) rfl
theorem nm_11 : (RX4, 163, yX1_append, "DeltaDesk") ∈ ds_nM := List.mem_of_getElem? (i := 11) rfl
theorem nm_12 : (RX4, 180, yX3_moveTo, "DeltaDesk") ∈ ds_nM := List.mem_of_getElem? (i := 12) rfl
theorem nm_13 : (RX4, 183, yX3_shows, "DeltaDesk") ∈ ds_nM := List.mem_of_getElem? (i := 13) rfl
theorem nm_14 : (RX4, 191, yX2_add, "DeltaDesk") ∈ ds_nM := List.mem_of_getElem? (i := 14) rfl
theorem nm_15 : (RX4, 194, yX0_start, "DeltaDesk") ∈ ds_nM := List.mem_of_getElem? (i := 15) rfl
theorem nm_16 : (RX4, 198, yX0_length, "DeltaDesk") ∈ ds_nM := List.mem_of_getElem? (i := 16) rfl
theorem nm_17 : (RX0, 38, yX4_blockCount, "DeltaDesk") ∈ ds_nM := List.mem_of_getElem? (i := 17) rfl
theorem nm_18 : (RX0, 48, yX1_weakSum, "DeltaDesk") ∈ ds_nM := List.mem_of_getElem? (i := 18) rfl
theorem nm_19 : (RX0, 51, yX1_strongSum, "DeltaDesk") ∈ ds_nM := List.mem_of_getElem? (i := 19) rfl
theorem nm_20 : (RX3, 47, yX1_joinWeak, "DeltaDesk") ∈ ds_nM := List.mem_of_getElem? (i := 20) rfl
theorem nm_21 : (RX3, 62, yX1_strongSum, "DeltaDesk") ∈ ds_nM := List.mem_of_getElem? (i := 21) rfl
theorem tx_0 : (58, "a row has 0 to 1200 octets") ∈ ds_tx := List.mem_of_getElem? (i := 0) rfl
theorem tx_1 : (113, "there is no such block") ∈ ds_tx := List.mem_of_getElem? (i := 1) rfl
theorem tx_2 : (116, "the place is below 0") ∈ ds_tx := List.mem_of_getElem? (i := 2) rfl
theorem tx_3 : (150, "a token tells 0, 1 or 2") ∈ ds_tx := List.mem_of_getElem? (i := 3) rfl
theorem tx_4 : (152, "there is no such token") ∈ ds_tx := List.mem_of_getElem? (i := 4) rfl
theorem tx_5 : (166, "counts are 0, 1 and 2") ∈ ds_tx := List.mem_of_getElem? (i := 5) rfl
theorem tx_6 : (168, "rows are 0 and 1") ∈ ds_tx := List.mem_of_getElem? (i := 6) rfl
theorem tx_7 : (170, "there is no such octet") ∈ ds_tx := List.mem_of_getElem? (i := 7) rfl
theorem tx_8 : (172, "there are not so many octets") ∈ ds_tx := List.mem_of_getElem? (i := 8) rfl
theorem tx_9 : (174, "a block has 4 to 256 octets") ∈ ds_tx := List.mem_of_getElem? (i := 9) rfl
theorem tx_10 : (176, "bits are 0 to 64") ∈ ds_tx := List.mem_of_getElem? (i := 10) rfl
def wsX4_init : List Cond := Cond.code yX4_init cX4_init 1 none :: ds_all
theorem g_X4_init : GoodIn ds_all wsX4_init := ds_goodIn iw_0
theorem hd_X4_init : yX4_init.cls ≠ "java/lang/invoke/MethodHandle" ∧ yX4_init.cls ≠ "java/lang/invoke/VarHandle" ∧ (parseMethodDescriptor yX4_init.desc).map (fun d => d.parameters.length) = some 0 := by decide +kernel
def wsX4_size : List Cond := Cond.code yX4_size cX4_size 3 none :: ds_all
theorem g_X4_size : GoodIn ds_all wsX4_size := ds_goodIn iw_28
theorem hd_X4_size : yX4_size.cls ≠ "java/lang/invoke/MethodHandle" ∧ yX4_size.cls ≠ "java/lang/invoke/VarHandle" ∧ (parseMethodDescriptor yX4_size.desc).map (fun d => d.parameters.length) = some 2 := by decide +kernel
def wsX4_put : List Cond := Cond.code yX4_put cX4_put 5 none :: ds_all
theorem g_X4_put : GoodIn ds_all wsX4_put := ds_goodIn iw_39
theorem hd_X4_put : yX4_put.cls ≠ "java/lang/invoke/MethodHandle" ∧ yX4_put.cls ≠ "java/lang/invoke/VarHandle" ∧ (parseMethodDescriptor yX4_put.desc).map (fun d => d.parameters.length) = some 3 := by decide +kernel
def wsX4_move : List Cond := Cond.code yX4_move cX4_move 6 none :: ds_all
theorem g_X4_move : GoodIn ds_all wsX4_move := ds_goodIn iw_44
theorem hd_X4_move : yX4_move.cls ≠ "java/lang/invoke/MethodHandle" ∧ yX4_move.cls ≠ "java/lang/invoke/VarHandle" ∧ (parseMethodDescriptor yX4_move.desc).map (fun d => d.parameters.length) = some 5 := by decide +kernel
def wsX4_octet : List Cond := Cond.code yX4_octet cX4_octet 3 (some .int) :: ds_all
theorem g_X4_octet : GoodIn ds_all wsX4_octet := ds_goodIn iw_51
theorem hd_X4_octet : yX4_octet.cls ≠ "java/lang/invoke/MethodHandle" ∧ yX4_octet.cls ≠ "java/lang/invoke/VarHandle" ∧ (parseMethodDescriptor yX4_octet.desc).map (fun d => d.parameters.length) = some 2 := by decide +kernel
def wsX4_weak : List Cond := Cond.code yX4_weak cX4_weak 4 (some .int) :: ds_all
theorem g_X4_weak : GoodIn ds_all wsX4_weak := ds_goodIn iw_52
theorem hd_X4_weak : yX4_weak.cls ≠ "java/lang/invoke/MethodHandle" ∧ yX4_weak.cls ≠ "java/lang/invoke/VarHandle" ∧ (parseMethodDescriptor yX4_weak.desc).map (fun d => d.parameters.length) = some 3 := by decide +kernel
def wsX4_strong : List Cond := Cond.code yX4_strong cX4_strong 4 (some .long) :: ds_all
theorem g_X4_strong : GoodIn ds_all wsX4_strong := ds_goodIn iw_55
theorem hd_X4_strong : yX4_strong.cls ≠ "java/lang/invoke/MethodHandle" ∧ yX4_strong.cls ≠ "java/lang/invoke/VarHandle" ∧ (parseMethodDescriptor yX4_strong.desc).map (fun d => d.parameters.length) = some 3 := by decide +kernel
def wsX4_find : List Cond := Cond.code yX4_find cX4_find 5 (some .int) :: ds_all
theorem g_X4_find : GoodIn ds_all wsX4_find := ds_goodIn iw_58
theorem hd_X4_find : yX4_find.cls ≠ "java/lang/invoke/MethodHandle" ∧ yX4_find.cls ≠ "java/lang/invoke/VarHandle" ∧ (parseMethodDescriptor yX4_find.desc).map (fun d => d.parameters.length) = some 4 := by decide +kernel
def wsX4_delta : List Cond := Cond.code yX4_delta cX4_delta 3 (some .int) :: ds_all
theorem g_X4_delta : GoodIn ds_all wsX4_delta := ds_goodIn iw_74
theorem hd_X4_delta : yX4_delta.cls ≠ "java/lang/invoke/MethodHandle" ∧ yX4_delta.cls ≠ "java/lang/invoke/VarHandle" ∧ (parseMethodDescriptor yX4_delta.desc).map (fun d => d.parameters.length) = some 2 := by decide +kernel
def wsX4_token : List Cond := Cond.code yX4_token cX4_token 3 (some .int) :: ds_all
theorem g_X4_token : GoodIn ds_all wsX4_token := ds_goodIn iw_84
theorem hd_X4_token : yX4_token.cls ≠ "java/lang/invoke/MethodHandle" ∧ yX4_token.cls ≠ "java/lang/invoke/VarHandle" ∧ (parseMethodDescriptor yX4_token.desc).map (fun d => d.parameters.length) = some 2 := by decide +kernel
def wsX4_sent : List Cond := Cond.code yX4_sent cX4_sent 3 (some .int) :: ds_all
theorem g_X4_sent : GoodIn ds_all wsX4_sent := ds_goodIn iw_85
theorem hd_X4_sent : yX4_sent.cls ≠ "java/lang/invoke/MethodHandle" ∧ yX4_sent.cls ≠ "java/lang/invoke/VarHandle" ∧ (parseMethodDescriptor yX4_sent.desc).map (fun d => d.parameters.length) = some 0 := by decide +kernel
def wsX4_patch : List Cond := Cond.code yX4_patch cX4_patch 1 (some .int) :: ds_all
theorem g_X4_patch : GoodIn ds_all wsX4_patch := ds_goodIn iw_86
theorem hd_X4_patch : yX4_patch.cls ≠ "java/lang/invoke/MethodHandle" ∧ yX4_patch.cls ≠ "java/lang/invoke/VarHandle" ∧ (parseMethodDescriptor yX4_patch.desc).map (fun d => d.parameters.length) = some 0 := by decide +kernel
def wsX4_same : List Cond := Cond.code yX4_same cX4_same 2 (some .boolean) :: ds_all
theorem g_X4_same : GoodIn ds_all wsX4_same := ds_goodIn iw_89
theorem hd_X4_same : yX4_same.cls ≠ "java/lang/invoke/MethodHandle" ∧ yX4_same.cls ≠ "java/lang/invoke/VarHandle" ∧ (parseMethodDescriptor yX4_same.desc).map (fun d => d.parameters.length) = some 0 := by decide +kernel
def wsX4_count : List Cond := Cond.code yX4_count cX4_count 2 (some .int) :: ds_all
theorem g_X4_count : GoodIn ds_all wsX4_count := ds_goodIn iw_90
theorem hd_X4_count : yX4_count.cls ≠ "java/lang/invoke/MethodHandle" ∧ yX4_count.cls ≠ "java/lang/invoke/VarHandle" ∧ (parseMethodDescriptor yX4_count.desc).map (fun d => d.parameters.length) = some 1 := by decide +kernel
def wsX4_row : List Cond := Cond.code yX4_row cX4_row 2 (some (.object "DeltaDesk$Row")) :: ds_all
theorem g_X4_row : GoodIn ds_all wsX4_row := ds_goodIn iw_91
theorem hd_X4_row : yX4_row.cls ≠ "java/lang/invoke/MethodHandle" ∧ yX4_row.cls ≠ "java/lang/invoke/VarHandle" ∧ (parseMethodDescriptor yX4_row.desc).map (fun d => d.parameters.length) = some 1 := by decide +kernel
def wsX4_checkRow : List Cond := Cond.code yX4_checkRow cX4_checkRow 1 none :: ds_all
theorem g_X4_checkRow : GoodIn ds_all wsX4_checkRow := ds_goodIn iw_92
theorem hd_X4_checkRow : yX4_checkRow.cls ≠ "java/lang/invoke/MethodHandle" ∧ yX4_checkRow.cls ≠ "java/lang/invoke/VarHandle" ∧ (parseMethodDescriptor yX4_checkRow.desc).map (fun d => d.parameters.length) = some 1 := by decide +kernel
def wsX4_checkOctet : List Cond := Cond.code yX4_checkOctet cX4_checkOctet 2 none :: ds_all
theorem g_X4_checkOctet : GoodIn ds_all wsX4_checkOctet := ds_goodIn iw_93
theorem hd_X4_checkOctet : yX4_checkOctet.cls ≠ "java/lang/invoke/MethodHandle" ∧ yX4_checkOctet.cls ≠ "java/lang/invoke/VarHandle" ∧ (parseMethodDescriptor yX4_checkOctet.desc).map (fun d => d.parameters.length) = some 2 := by decide +kernel
def wsX4_checkRange : List Cond := Cond.code yX4_checkRange cX4_checkRange 3 none :: ds_all
theorem g_X4_checkRange : GoodIn ds_all wsX4_checkRange := ds_goodIn iw_94
theorem hd_X4_checkRange : yX4_checkRange.cls ≠ "java/lang/invoke/MethodHandle" ∧ yX4_checkRange.cls ≠ "java/lang/invoke/VarHandle" ∧ (parseMethodDescriptor yX4_checkRange.desc).map (fun d => d.parameters.length) = some 3 := by decide +kernel
def wsX4_checkBlocks : List Cond := Cond.code yX4_checkBlocks cX4_checkBlocks 2 none :: ds_all
theorem g_X4_checkBlocks : GoodIn ds_all wsX4_checkBlocks := ds_goodIn iw_95
theorem hd_X4_checkBlocks : yX4_checkBlocks.cls ≠ "java/lang/invoke/MethodHandle" ∧ yX4_checkBlocks.cls ≠ "java/lang/invoke/VarHandle" ∧ (parseMethodDescriptor yX4_checkBlocks.desc).map (fun d => d.parameters.length) = some 2 := by decide +kernel
def wsX4_blockCount : List Cond := Cond.code yX4_blockCount cX4_blockCount 2 (some .int) :: ds_all
theorem g_X4_blockCount : GoodIn ds_all wsX4_blockCount := ds_goodIn iw_96
theorem hd_X4_blockCount : yX4_blockCount.cls ≠ "java/lang/invoke/MethodHandle" ∧ yX4_blockCount.cls ≠ "java/lang/invoke/VarHandle" ∧ (parseMethodDescriptor yX4_blockCount.desc).map (fun d => d.parameters.length) = some 2 := by decide +kernel
def wsX4_strongMask : List Cond := Cond.code yX4_strongMask cX4_strongMask 1 (some .long) :: ds_all
theorem g_X4_strongMask : GoodIn ds_all wsX4_strongMask := ds_goodIn iw_97
theorem hd_X4_strongMask : yX4_strongMask.cls ≠ "java/lang/invoke/MethodHandle" ∧ yX4_strongMask.cls ≠ "java/lang/invoke/VarHandle" ∧ (parseMethodDescriptor yX4_strongMask.desc).map (fun d => d.parameters.length) = some 1 := by decide +kernel
def wsX4_firstPlace : List Cond := Cond.code yX4_firstPlace cX4_firstPlace 10 (some .int) :: ds_all
theorem g_X4_firstPlace : GoodIn ds_all wsX4_firstPlace := ds_goodIn iw_99
theorem hd_X4_firstPlace : yX4_firstPlace.cls ≠ "java/lang/invoke/MethodHandle" ∧ yX4_firstPlace.cls ≠ "java/lang/invoke/VarHandle" ∧ (parseMethodDescriptor yX4_firstPlace.desc).map (fun d => d.parameters.length) = some 4 := by decide +kernel
def wsX4_makeDelta : List Cond := Cond.code yX4_makeDelta cX4_makeDelta 7 none :: ds_all
theorem g_X4_makeDelta : GoodIn ds_all wsX4_makeDelta := ds_goodIn iw_104
theorem hd_X4_makeDelta : yX4_makeDelta.cls ≠ "java/lang/invoke/MethodHandle" ∧ yX4_makeDelta.cls ≠ "java/lang/invoke/VarHandle" ∧ (parseMethodDescriptor yX4_makeDelta.desc).map (fun d => d.parameters.length) = some 1 := by decide +kernel
def wsX4_blockAt : List Cond := Cond.code yX4_blockAt cX4_blockAt 6 (some .int) :: ds_all
theorem g_X4_blockAt : GoodIn ds_all wsX4_blockAt := ds_goodIn iw_114
theorem hd_X4_blockAt : yX4_blockAt.cls ≠ "java/lang/invoke/MethodHandle" ∧ yX4_blockAt.cls ≠ "java/lang/invoke/VarHandle" ∧ (parseMethodDescriptor yX4_blockAt.desc).map (fun d => d.parameters.length) = some 3 := by decide +kernel
def wsX4_fits : List Cond := Cond.code yX4_fits cX4_fits 5 (some .boolean) :: ds_all
theorem g_X4_fits : GoodIn ds_all wsX4_fits := ds_goodIn iw_118
theorem hd_X4_fits : yX4_fits.cls ≠ "java/lang/invoke/MethodHandle" ∧ yX4_fits.cls ≠ "java/lang/invoke/VarHandle" ∧ (parseMethodDescriptor yX4_fits.desc).map (fun d => d.parameters.length) = some 2 := by decide +kernel
def wsX5_init : List Cond := Cond.code yX5_init cX5_init 1 none :: ds_all
theorem g_X5_init : GoodIn ds_all wsX5_init := ds_goodIn iw_119
theorem hd_X5_init : yX5_init.cls ≠ "java/lang/invoke/MethodHandle" ∧ yX5_init.cls ≠ "java/lang/invoke/VarHandle" ∧ (parseMethodDescriptor yX5_init.desc).map (fun d => d.parameters.length) = some 0 := by decide +kernel
def wsX5_thrown : List Cond := Cond.code yX5_thrown cX5_thrown 1 (some .int) :: ds_all
theorem g_X5_thrown : GoodIn ds_all wsX5_thrown := ds_goodIn iw_130
theorem hd_X5_thrown : yX5_thrown.cls ≠ "java/lang/invoke/MethodHandle" ∧ yX5_thrown.cls ≠ "java/lang/invoke/VarHandle" ∧ (parseMethodDescriptor yX5_thrown.desc).map (fun d => d.parameters.length) = some 0 := by decide +kernel
def wsX5_fails : List Cond := Cond.code yX5_fails cX5_fails 3 (some .boolean) :: ds_all
theorem g_X5_fails : GoodIn ds_all wsX5_fails := ds_goodIn iw_132
theorem hd_X5_fails : yX5_fails.cls ≠ "java/lang/invoke/MethodHandle" ∧ yX5_fails.cls ≠ "java/lang/invoke/VarHandle" ∧ (parseMethodDescriptor yX5_fails.desc).map (fun d => d.parameters.length) = some 2 := by decide +kernel
def wsX5_no : List Cond := Cond.code yX5_no cX5_no 1 (some .boolean) :: ds_all
theorem g_X5_no : GoodIn ds_all wsX5_no := ds_goodIn iw_133
theorem hd_X5_no : yX5_no.cls ≠ "java/lang/invoke/MethodHandle" ∧ yX5_no.cls ≠ "java/lang/invoke/VarHandle" ∧ (parseMethodDescriptor yX5_no.desc).map (fun d => d.parameters.length) = some 1 := by decide +kernel
def wsX5_size : List Cond := Cond.code yX5_size cX5_size 4 none :: ds_all
theorem g_X5_size : GoodIn ds_all wsX5_size := ds_goodIn iw_134
theorem hd_X5_size : yX5_size.cls ≠ "java/lang/invoke/MethodHandle" ∧ yX5_size.cls ≠ "java/lang/invoke/VarHandle" ∧ (parseMethodDescriptor yX5_size.desc).map (fun d => d.parameters.length) = some 2 := by decide +kernel
def wsX5_put : List Cond := Cond.code yX5_put cX5_put 6 none :: ds_all
theorem g_X5_put : GoodIn ds_all wsX5_put := ds_goodIn iw_141
theorem hd_X5_put : yX5_put.cls ≠ "java/lang/invoke/MethodHandle" ∧ yX5_put.cls ≠ "java/lang/invoke/VarHandle" ∧ (parseMethodDescriptor yX5_put.desc).map (fun d => d.parameters.length) = some 3 := by decide +kernel
def wsX5_lacks : List Cond := Cond.code yX5_lacks cX5_lacks 4 (some .boolean) :: ds_all
theorem g_X5_lacks : GoodIn ds_all wsX5_lacks := ds_goodIn iw_142
theorem hd_X5_lacks : yX5_lacks.cls ≠ "java/lang/invoke/MethodHandle" ∧ yX5_lacks.cls ≠ "java/lang/invoke/VarHandle" ∧ (parseMethodDescriptor yX5_lacks.desc).map (fun d => d.parameters.length) = some 3 := by decide +kernel
def wsX5_move : List Cond := Cond.code yX5_move cX5_move 7 none :: ds_all
theorem g_X5_move : GoodIn ds_all wsX5_move := ds_goodIn iw_143
theorem hd_X5_move : yX5_move.cls ≠ "java/lang/invoke/MethodHandle" ∧ yX5_move.cls ≠ "java/lang/invoke/VarHandle" ∧ (parseMethodDescriptor yX5_move.desc).map (fun d => d.parameters.length) = some 5 := by decide +kernel
def wsX5_octet : List Cond := Cond.code yX5_octet cX5_octet 3 (some .int) :: ds_all
theorem g_X5_octet : GoodIn ds_all wsX5_octet := ds_goodIn iw_147
theorem hd_X5_octet : yX5_octet.cls ≠ "java/lang/invoke/MethodHandle" ∧ yX5_octet.cls ≠ "java/lang/invoke/VarHandle" ∧ (parseMethodDescriptor yX5_octet.desc).map (fun d => d.parameters.length) = some 2 := by decide +kernel
def wsX5_weakOf : List Cond := Cond.code yX5_weakOf cX5_weakOf 7 (some .int) :: ds_all
theorem g_X5_weakOf : GoodIn ds_all wsX5_weakOf := ds_goodIn iw_148
theorem hd_X5_weakOf : yX5_weakOf.cls ≠ "java/lang/invoke/MethodHandle" ∧ yX5_weakOf.cls ≠ "java/lang/invoke/VarHandle" ∧ (parseMethodDescriptor yX5_weakOf.desc).map (fun d => d.parameters.length) = some 3 := by decide +kernel
def wsX5_strongOf : List Cond := Cond.code yX5_strongOf cX5_strongOf 7 (some .long) :: ds_all
theorem g_X5_strongOf : GoodIn ds_all wsX5_strongOf := ds_goodIn iw_151
theorem hd_X5_strongOf : yX5_strongOf.cls ≠ "java/lang/invoke/MethodHandle" ∧ yX5_strongOf.cls ≠ "java/lang/invoke/VarHandle" ∧ (parseMethodDescriptor yX5_strongOf.desc).map (fun d => d.parameters.length) = some 3 := by decide +kernel
def wsX5_weak : List Cond := Cond.code yX5_weak cX5_weak 4 (some .int) :: ds_all
theorem g_X5_weak : GoodIn ds_all wsX5_weak := ds_goodIn iw_154
theorem hd_X5_weak : yX5_weak.cls ≠ "java/lang/invoke/MethodHandle" ∧ yX5_weak.cls ≠ "java/lang/invoke/VarHandle" ∧ (parseMethodDescriptor yX5_weak.desc).map (fun d => d.parameters.length) = some 3 := by decide +kernel
def wsX5_strong : List Cond := Cond.code yX5_strong cX5_strong 4 (some .long) :: ds_all
theorem g_X5_strong : GoodIn ds_all wsX5_strong := ds_goodIn iw_158
theorem hd_X5_strong : yX5_strong.cls ≠ "java/lang/invoke/MethodHandle" ∧ yX5_strong.cls ≠ "java/lang/invoke/VarHandle" ∧ (parseMethodDescriptor yX5_strong.desc).map (fun d => d.parameters.length) = some 3 := by decide +kernel
def wsX5_bad : List Cond := Cond.code yX5_bad cX5_bad 2 (some .boolean) :: ds_all
theorem g_X5_bad : GoodIn ds_all wsX5_bad := ds_goodIn iw_162
theorem hd_X5_bad : yX5_bad.cls ≠ "java/lang/invoke/MethodHandle" ∧ yX5_bad.cls ≠ "java/lang/invoke/VarHandle" ∧ (parseMethodDescriptor yX5_bad.desc).map (fun d => d.parameters.length) = some 2 := by decide +kernel
def wsX5_blocks : List Cond := Cond.code yX5_blocks cX5_blocks 2 (some .int) :: ds_all
theorem g_X5_blocks : GoodIn ds_all wsX5_blocks := ds_goodIn iw_163
theorem hd_X5_blocks : yX5_blocks.cls ≠ "java/lang/invoke/MethodHandle" ∧ yX5_blocks.cls ≠ "java/lang/invoke/VarHandle" ∧ (parseMethodDescriptor yX5_blocks.desc).map (fun d => d.parameters.length) = some 1 := by decide +kernel
def wsX5_length : List Cond := Cond.code yX5_length cX5_length 3 (some .int) :: ds_all
theorem g_X5_length : GoodIn ds_all wsX5_length := ds_goodIn iw_164
theorem hd_X5_length : yX5_length.cls ≠ "java/lang/invoke/MethodHandle" ∧ yX5_length.cls ≠ "java/lang/invoke/VarHandle" ∧ (parseMethodDescriptor yX5_length.desc).map (fun d => d.parameters.length) = some 2 := by decide +kernel
def wsX5_fits : List Cond := Cond.code yX5_fits cX5_fits 8 (some .boolean) :: ds_all
theorem g_X5_fits : GoodIn ds_all wsX5_fits := ds_goodIn iw_165
theorem hd_X5_fits : yX5_fits.cls ≠ "java/lang/invoke/MethodHandle" ∧ yX5_fits.cls ≠ "java/lang/invoke/VarHandle" ∧ (parseMethodDescriptor yX5_fits.desc).map (fun d => d.parameters.length) = some 4 := by decide +kernel
def wsX5_find : List Cond := Cond.code yX5_find cX5_find 6 (some .int) :: ds_all
theorem g_X5_find : GoodIn ds_all wsX5_find := ds_goodIn iw_169
theorem hd_X5_find : yX5_find.cls ≠ "java/lang/invoke/MethodHandle" ∧ yX5_find.cls ≠ "java/lang/invoke/VarHandle" ∧ (parseMethodDescriptor yX5_find.desc).map (fun d => d.parameters.length) = some 4 := by decide +kernel
def wsX5_delta : List Cond := Cond.code yX5_delta cX5_delta 9 (some .int) :: ds_all
theorem g_X5_delta : GoodIn ds_all wsX5_delta := ds_goodIn iw_178
theorem hd_X5_delta : yX5_delta.cls ≠ "java/lang/invoke/MethodHandle" ∧ yX5_delta.cls ≠ "java/lang/invoke/VarHandle" ∧ (parseMethodDescriptor yX5_delta.desc).map (fun d => d.parameters.length) = some 2 := by decide +kernel
def wsX5_token : List Cond := Cond.code yX5_token cX5_token 3 (some .int) :: ds_all
theorem g_X5_token : GoodIn ds_all wsX5_token := ds_goodIn iw_182
theorem hd_X5_token : yX5_token.cls ≠ "java/lang/invoke/MethodHandle" ∧ yX5_token.cls ≠ "java/lang/invoke/VarHandle" ∧ (parseMethodDescriptor yX5_token.desc).map (fun d => d.parameters.length) = some 2 := by decide +kernel
def wsX5_sent : List Cond := Cond.code yX5_sent cX5_sent 3 (some .int) :: ds_all
theorem g_X5_sent : GoodIn ds_all wsX5_sent := ds_goodIn iw_183
theorem hd_X5_sent : yX5_sent.cls ≠ "java/lang/invoke/MethodHandle" ∧ yX5_sent.cls ≠ "java/lang/invoke/VarHandle" ∧ (parseMethodDescriptor yX5_sent.desc).map (fun d => d.parameters.length) = some 0 := by decide +kernel
def wsX5_patch : List Cond := Cond.code yX5_patch cX5_patch 6 (some .int) :: ds_all
theorem g_X5_patch : GoodIn ds_all wsX5_patch := ds_goodIn iw_184
theorem hd_X5_patch : yX5_patch.cls ≠ "java/lang/invoke/MethodHandle" ∧ yX5_patch.cls ≠ "java/lang/invoke/VarHandle" ∧ (parseMethodDescriptor yX5_patch.desc).map (fun d => d.parameters.length) = some 0 := by decide +kernel
def wsX5_same : List Cond := Cond.code yX5_same cX5_same 2 (some .boolean) :: ds_all
theorem g_X5_same : GoodIn ds_all wsX5_same := ds_goodIn iw_185
theorem hd_X5_same : yX5_same.cls ≠ "java/lang/invoke/MethodHandle" ∧ yX5_same.cls ≠ "java/lang/invoke/VarHandle" ∧ (parseMethodDescriptor yX5_same.desc).map (fun d => d.parameters.length) = some 0 := by decide +kernel
def wsX5_count : List Cond := Cond.code yX5_count cX5_count 2 (some .int) :: ds_all
theorem g_X5_count : GoodIn ds_all wsX5_count := ds_goodIn iw_186
theorem hd_X5_count : yX5_count.cls ≠ "java/lang/invoke/MethodHandle" ∧ yX5_count.cls ≠ "java/lang/invoke/VarHandle" ∧ (parseMethodDescriptor yX5_count.desc).map (fun d => d.parameters.length) = some 1 := by decide +kernel
def wsX0_init : List Cond := Cond.code yX0_init cX0_init 2 none :: ds_all
theorem g_X0_init : GoodIn ds_all wsX0_init := ds_goodIn iw_187
theorem hd_X0_init : yX0_init.cls ≠ "java/lang/invoke/MethodHandle" ∧ yX0_init.cls ≠ "java/lang/invoke/VarHandle" ∧ (parseMethodDescriptor yX0_init.desc).map (fun d => d.parameters.length) = some 1 := by decide +kernel
def wsX0_cut : List Cond := Cond.code yX0_cut cX0_cut 3 none :: ds_all
theorem g_X0_cut : GoodIn ds_all wsX0_cut := ds_goodIn iw_196
theorem hd_X0_cut : yX0_cut.cls ≠ "java/lang/invoke/MethodHandle" ∧ yX0_cut.cls ≠ "java/lang/invoke/VarHandle" ∧ (parseMethodDescriptor yX0_cut.desc).map (fun d => d.parameters.length) = some 1 := by decide +kernel
def wsX0_start : List Cond := Cond.code yX0_start cX0_start 2 (some .int) :: ds_all
theorem g_X0_start : GoodIn ds_all wsX0_start := ds_goodIn iw_199
theorem hd_X0_start : yX0_start.cls ≠ "java/lang/invoke/MethodHandle" ∧ yX0_start.cls ≠ "java/lang/invoke/VarHandle" ∧ (parseMethodDescriptor yX0_start.desc).map (fun d => d.parameters.length) = some 1 := by decide +kernel
def wsX0_length : List Cond := Cond.code yX0_length cX0_length 2 (some .int) :: ds_all
theorem g_X0_length : GoodIn ds_all wsX0_length := ds_goodIn iw_200
theorem hd_X0_length : yX0_length.cls ≠ "java/lang/invoke/MethodHandle" ∧ yX0_length.cls ≠ "java/lang/invoke/VarHandle" ∧ (parseMethodDescriptor yX0_length.desc).map (fun d => d.parameters.length) = some 1 := by decide +kernel
def wsX1_init : List Cond := Cond.code yX1_init cX1_init 1 none :: ds_all
theorem g_X1_init : GoodIn ds_all wsX1_init := ds_goodIn iw_201
theorem hd_X1_init : yX1_init.cls ≠ "java/lang/invoke/MethodHandle" ∧ yX1_init.cls ≠ "java/lang/invoke/VarHandle" ∧ (parseMethodDescriptor yX1_init.desc).map (fun d => d.parameters.length) = some 0 := by decide +kernel
def wsX1_resize : List Cond := Cond.code yX1_resize cX1_resize 3 none :: ds_all
theorem g_X1_resize : GoodIn ds_all wsX1_resize := ds_goodIn iw_205
theorem hd_X1_resize : yX1_resize.cls ≠ "java/lang/invoke/MethodHandle" ∧ yX1_resize.cls ≠ "java/lang/invoke/VarHandle" ∧ (parseMethodDescriptor yX1_resize.desc).map (fun d => d.parameters.length) = some 1 := by decide +kernel
def wsX1_write : List Cond := Cond.code yX1_write cX1_write 5 none :: ds_all
theorem g_X1_write : GoodIn ds_all wsX1_write := ds_goodIn iw_206
theorem hd_X1_write : yX1_write.cls ≠ "java/lang/invoke/MethodHandle" ∧ yX1_write.cls ≠ "java/lang/invoke/VarHandle" ∧ (parseMethodDescriptor yX1_write.desc).map (fun d => d.parameters.length) = some 2 := by decide +kernel
def wsX1_append : List Cond := Cond.code yX1_append cX1_append 4 none :: ds_all
theorem g_X1_append : GoodIn ds_all wsX1_append := ds_goodIn iw_207
theorem hd_X1_append : yX1_append.cls ≠ "java/lang/invoke/MethodHandle" ∧ yX1_append.cls ≠ "java/lang/invoke/VarHandle" ∧ (parseMethodDescriptor yX1_append.desc).map (fun d => d.parameters.length) = some 3 := by decide +kernel
def wsX1_weakSum : List Cond := Cond.code yX1_weakSum cX1_weakSum 6 (some .int) :: ds_all
theorem g_X1_weakSum : GoodIn ds_all wsX1_weakSum := ds_goodIn iw_209
theorem hd_X1_weakSum : yX1_weakSum.cls ≠ "java/lang/invoke/MethodHandle" ∧ yX1_weakSum.cls ≠ "java/lang/invoke/VarHandle" ∧ (parseMethodDescriptor yX1_weakSum.desc).map (fun d => d.parameters.length) = some 2 := by decide +kernel
def wsX1_joinWeak : List Cond := Cond.code yX1_joinWeak cX1_joinWeak 2 (some .int) :: ds_all
theorem g_X1_joinWeak : GoodIn ds_all wsX1_joinWeak := ds_goodIn iw_212
theorem hd_X1_joinWeak : yX1_joinWeak.cls ≠ "java/lang/invoke/MethodHandle" ∧ yX1_joinWeak.cls ≠ "java/lang/invoke/VarHandle" ∧ (parseMethodDescriptor yX1_joinWeak.desc).map (fun d => d.parameters.length) = some 2 := by decide +kernel
def wsX1_strongSum : List Cond := Cond.code yX1_strongSum cX1_strongSum 6 (some .long) :: ds_all
theorem g_X1_strongSum : GoodIn ds_all wsX1_strongSum := ds_goodIn iw_215
theorem hd_X1_strongSum : yX1_strongSum.cls ≠ "java/lang/invoke/MethodHandle" ∧ yX1_strongSum.cls ≠ "java/lang/invoke/VarHandle" ∧ (parseMethodDescriptor yX1_strongSum.desc).map (fun d => d.parameters.length) = some 2 := by decide +kernel
def wsX2_init : List Cond := Cond.code yX2_init cX2_init 1 none :: ds_all
theorem g_X2_init : GoodIn ds_all wsX2_init := ds_goodIn iw_218
theorem hd_X2_init : yX2_init.cls ≠ "java/lang/invoke/MethodHandle" ∧ yX2_init.cls ≠ "java/lang/invoke/VarHandle" ∧ (parseMethodDescriptor yX2_init.desc).map (fun d => d.parameters.length) = some 0 := by decide +kernel
def wsX2_clear : List Cond := Cond.code yX2_clear cX2_clear 1 none :: ds_all
theorem g_X2_clear : GoodIn ds_all wsX2_clear := ds_goodIn iw_224
theorem hd_X2_clear : yX2_clear.cls ≠ "java/lang/invoke/MethodHandle" ∧ yX2_clear.cls ≠ "java/lang/invoke/VarHandle" ∧ (parseMethodDescriptor yX2_clear.desc).map (fun d => d.parameters.length) = some 0 := by decide +kernel
def wsX2_add : List Cond := Cond.code yX2_add cX2_add 3 none :: ds_all
theorem g_X2_add : GoodIn ds_all wsX2_add := ds_goodIn iw_225
theorem hd_X2_add : yX2_add.cls ≠ "java/lang/invoke/MethodHandle" ∧ yX2_add.cls ≠ "java/lang/invoke/VarHandle" ∧ (parseMethodDescriptor yX2_add.desc).map (fun d => d.parameters.length) = some 2 := by decide +kernel
def wsX2_goesOn : List Cond := Cond.code yX2_goesOn cX2_goesOn 3 (some .boolean) :: ds_all
theorem g_X2_goesOn : GoodIn ds_all wsX2_goesOn := ds_goodIn iw_229
theorem hd_X2_goesOn : yX2_goesOn.cls ≠ "java/lang/invoke/MethodHandle" ∧ yX2_goesOn.cls ≠ "java/lang/invoke/VarHandle" ∧ (parseMethodDescriptor yX2_goesOn.desc).map (fun d => d.parameters.length) = some 2 := by decide +kernel
def wsX3_init : List Cond := Cond.code yX3_init cX3_init 2 none :: ds_all
theorem g_X3_init : GoodIn ds_all wsX3_init := ds_goodIn iw_230
theorem hd_X3_init : yX3_init.cls ≠ "java/lang/invoke/MethodHandle" ∧ yX3_init.cls ≠ "java/lang/invoke/VarHandle" ∧ (parseMethodDescriptor yX3_init.desc).map (fun d => d.parameters.length) = some 1 := by decide +kernel
def wsX3_open : List Cond := Cond.code yX3_open cX3_open 2 none :: ds_all
theorem g_X3_open : GoodIn ds_all wsX3_open := ds_goodIn iw_237
theorem hd_X3_open : yX3_open.cls ≠ "java/lang/invoke/MethodHandle" ∧ yX3_open.cls ≠ "java/lang/invoke/VarHandle" ∧ (parseMethodDescriptor yX3_open.desc).map (fun d => d.parameters.length) = some 1 := by decide +kernel
def wsX3_moveTo : List Cond := Cond.code yX3_moveTo cX3_moveTo 3 none :: ds_all
theorem g_X3_moveTo : GoodIn ds_all wsX3_moveTo := ds_goodIn iw_238
theorem hd_X3_moveTo : yX3_moveTo.cls ≠ "java/lang/invoke/MethodHandle" ∧ yX3_moveTo.cls ≠ "java/lang/invoke/VarHandle" ∧ (parseMethodDescriptor yX3_moveTo.desc).map (fun d => d.parameters.length) = some 1 := by decide +kernel
def wsX3_roll : List Cond := Cond.code yX3_roll cX3_roll 3 none :: ds_all
theorem g_X3_roll : GoodIn ds_all wsX3_roll := ds_goodIn iw_248
theorem hd_X3_roll : yX3_roll.cls ≠ "java/lang/invoke/MethodHandle" ∧ yX3_roll.cls ≠ "java/lang/invoke/VarHandle" ∧ (parseMethodDescriptor yX3_roll.desc).map (fun d => d.parameters.length) = some 0 := by decide +kernel
def wsX3_sumAfresh : List Cond := Cond.code yX3_sumAfresh cX3_sumAfresh 3 none :: ds_all
theorem g_X3_sumAfresh : GoodIn ds_all wsX3_sumAfresh := ds_goodIn iw_249
theorem hd_X3_sumAfresh : yX3_sumAfresh.cls ≠ "java/lang/invoke/MethodHandle" ∧ yX3_sumAfresh.cls ≠ "java/lang/invoke/VarHandle" ∧ (parseMethodDescriptor yX3_sumAfresh.desc).map (fun d => d.parameters.length) = some 1 := by decide +kernel
def wsX3_shows : List Cond := Cond.code yX3_shows cX3_shows 6 (some .boolean) :: ds_all
theorem g_X3_shows : GoodIn ds_all wsX3_shows := ds_goodIn iw_250
theorem hd_X3_shows : yX3_shows.cls ≠ "java/lang/invoke/MethodHandle" ∧ yX3_shows.cls ≠ "java/lang/invoke/VarHandle" ∧ (parseMethodDescriptor yX3_shows.desc).map (fun d => d.parameters.length) = some 3 := by decide +kernel
def wsX3_strongSumHere : List Cond := Cond.code yX3_strongSumHere cX3_strongSumHere 1 (some .long) :: ds_all
theorem g_X3_strongSumHere : GoodIn ds_all wsX3_strongSumHere := ds_goodIn iw_254
theorem hd_X3_strongSumHere : yX3_strongSumHere.cls ≠ "java/lang/invoke/MethodHandle" ∧ yX3_strongSumHere.cls ≠ "java/lang/invoke/VarHandle" ∧ (parseMethodDescriptor yX3_strongSumHere.desc).map (fun d => d.parameters.length) = some 0 := by decide +kernel
def wsL_size : List Cond := Cond.codeWith yL_size cL_size 4 (some .int) [(0, 6, 9, 13)] :: ds_all
theorem g_L_size : GoodIn ds_all wsL_size := ds_goodIn iw_256
theorem hd_L_size : yL_size.cls ≠ "java/lang/invoke/MethodHandle" ∧ yL_size.cls ≠ "java/lang/invoke/VarHandle" ∧ (parseMethodDescriptor yL_size.desc).map (fun d => d.parameters.length) = some 3 := by decide +kernel
def wsL_put : List Cond := Cond.codeWith yL_put cL_put 6 (some .int) [(0, 7, 10, 13), (0, 7, 14, 19)] :: ds_all
theorem g_L_put : GoodIn ds_all wsL_put := ds_goodIn iw_260
theorem hd_L_put : yL_put.cls ≠ "java/lang/invoke/MethodHandle" ∧ yL_put.cls ≠ "java/lang/invoke/VarHandle" ∧ (parseMethodDescriptor yL_put.desc).map (fun d => d.parameters.length) = some 4 := by decide +kernel
def wsL_move : List Cond := Cond.codeWith yL_move cL_move 7 (some .int) [(0, 11, 14, 13), (0, 11, 18, 19)] :: ds_all
theorem g_L_move : GoodIn ds_all wsL_move := ds_goodIn iw_264
theorem hd_L_move : yL_move.cls ≠ "java/lang/invoke/MethodHandle" ∧ yL_move.cls ≠ "java/lang/invoke/VarHandle" ∧ (parseMethodDescriptor yL_move.desc).map (fun d => d.parameters.length) = some 6 := by decide +kernel
def wsL_octet : List Cond := Cond.codeWith yL_octet cL_octet 5 (some .int) [(0, 10, 13, 13), (0, 10, 17, 19)] :: ds_all
theorem g_L_octet : GoodIn ds_all wsL_octet := ds_goodIn iw_268
theorem hd_L_octet : yL_octet.cls ≠ "java/lang/invoke/MethodHandle" ∧ yL_octet.cls ≠ "java/lang/invoke/VarHandle" ∧ (parseMethodDescriptor yL_octet.desc).map (fun d => d.parameters.length) = some 4 := by decide +kernel
def wsL_weak : List Cond := Cond.codeWith yL_weak cL_weak 6 (some .int) [(0, 12, 15, 13), (0, 12, 19, 19)] :: ds_all
theorem g_L_weak : GoodIn ds_all wsL_weak := ds_goodIn iw_272
theorem hd_L_weak : yL_weak.cls ≠ "java/lang/invoke/MethodHandle" ∧ yL_weak.cls ≠ "java/lang/invoke/VarHandle" ∧ (parseMethodDescriptor yL_weak.desc).map (fun d => d.parameters.length) = some 5 := by decide +kernel
def wsL_strong : List Cond := Cond.codeWith yL_strong cL_strong 6 (some .int) [(0, 11, 14, 13), (0, 11, 18, 19)] :: ds_all
theorem g_L_strong : GoodIn ds_all wsL_strong := ds_goodIn iw_276
theorem hd_L_strong : yL_strong.cls ≠ "java/lang/invoke/MethodHandle" ∧ yL_strong.cls ≠ "java/lang/invoke/VarHandle" ∧ (parseMethodDescriptor yL_strong.desc).map (fun d => d.parameters.length) = some 5 := by decide +kernel
def wsL_find : List Cond := Cond.codeWith yL_find cL_find 7 (some .int) [(0, 14, 17, 13), (0, 14, 21, 19)] :: ds_all
theorem g_L_find : GoodIn ds_all wsL_find := ds_goodIn iw_280
theorem hd_L_find : yL_find.cls ≠ "java/lang/invoke/MethodHandle" ∧ yL_find.cls ≠ "java/lang/invoke/VarHandle" ∧ (parseMethodDescriptor yL_find.desc).map (fun d => d.parameters.length) = some 6 := by decide +kernel
def wsL_delta : List Cond := Cond.codeWith yL_delta cL_delta 5 (some .int) [(0, 10, 13, 13)] :: ds_all
theorem g_L_delta : GoodIn ds_all wsL_delta := ds_goodIn iw_284
theorem hd_L_delta : yL_delta.cls ≠ "java/lang/invoke/MethodHandle" ∧ yL_delta.cls ≠ "java/lang/invoke/VarHandle" ∧ (parseMethodDescriptor yL_delta.desc).map (fun d => d.parameters.length) = some 4 := by decide +kernel
def wsL_token : List Cond := Cond.codeWith yL_token cL_token 5 (some .int) [(0, 10, 13, 13), (0, 10, 17, 19)] :: ds_all
theorem g_L_token : GoodIn ds_all wsL_token := ds_goodIn iw_288
theorem hd_L_token : yL_token.cls ≠ "java/lang/invoke/MethodHandle" ∧ yL_token.cls ≠ "java/lang/invoke/VarHandle" ∧ (parseMethodDescriptor yL_token.desc).map (fun d => d.parameters.length) = some 4 := by decide +kernel
def wsL_count : List Cond := Cond.codeWith yL_count cL_count 4 (some .int) [(0, 9, 12, 13)] :: ds_all
theorem g_L_count : GoodIn ds_all wsL_count := ds_goodIn iw_292
theorem hd_L_count : yL_count.cls ≠ "java/lang/invoke/MethodHandle" ∧ yL_count.cls ≠ "java/lang/invoke/VarHandle" ∧ (parseMethodDescriptor yL_count.desc).map (fun d => d.parameters.length) = some 3 := by decide +kernel
end
section
/-! ===== one shape of contract for every method: rows of mine over the kit of worlds ===== -/
theorem ds_fm {α β : Type} (f : α → Option β) : ∀ (l : List α) (w : List β), l.map f = w.map some → l.filterMap f = w
  | [], [], _ => rfl
  | [], _ :: _, h => by cases h
  | _ :: _, [], h => by cases h
  | a :: l, b :: w, h => by
    simp only [List.map_cons, List.cons.injEq] at h
    rw [List.filterMap_cons, h.1, ds_fm f l w h.2]
/-- what the tables say for ever: the classes, the two kinds of arrays, the nest mates' links, the texts -/
def ds_K (D : va_G) (cI cL : ClassId) (U : State) : Prop :=
  va_K D vwCl [(cI, .int), (cL, .long)] U ∧ (∀ q ∈ ds_nF, va_Nw (.fieldLinkNest q.1 q.2.1 q.2.2.1 q.2.2.2.1 q.2.2.2.2.1 q.2.2.2.2.2) U) ∧
  (∀ q ∈ ds_nM, va_Nw (.methodLinkNest q.1 q.2.1 q.2.2.1 q.2.2.2) U) ∧ (∀ q ∈ ds_nC, va_Nw (.castable q.1 q.2) U) ∧ (∀ q ∈ ds_tx, ∃ a, vk_R RX4 q.1 q.2 a U) ∧ va_Nc "java/lang/IndexOutOfBoundsException" "java/lang/IllegalArgumentException" U ∧ ∀ q ∈ ds_nD, va_Nw (.declares q) U
theorem ds_K.warm {D : va_G} {cI cL : ClassId} {s U : State} (hW : s.WarmedH U.vm) (h : ds_K D cI cL s) : ds_K D cI cL U :=
  ⟨va_K.moved hW.alike h.1, fun q hq => va_Nw.warmF hW (h.2.1 q hq), fun q hq => va_Nw.warmM hW (h.2.2.1 q hq), fun q hq => va_Nw.warmC hW (h.2.2.2.1 q hq),
    fun q hq => by obtain ⟨a, ha⟩ := h.2.2.2.2.1 q hq; exact ⟨a, vk_R.warm hW ha⟩, va_Nc.moved hW.alike h.2.2.2.2.2.1, fun q hq => va_Nw.warmD hW (h.2.2.2.2.2.2 q hq)⟩
theorem ds_K.same {D : va_G} {cI cL : ClassId} {u U : State} (hv : u.vm = U.vm) (h : ds_K D cI cL u) : ds_K D cI cL U :=
  ⟨va_K.moved (by rw [hv]; exact Vm.Alike.refl _) h.1, fun q hq => va_Nw.same rfl hv (h.2.1 q hq), fun q hq => va_Nw.same rfl hv (h.2.2.1 q hq), fun q hq => va_Nw.same rfl hv (h.2.2.2.1 q hq),
    fun q hq => by obtain ⟨a, ha⟩ := h.2.2.2.2.1 q hq; exact ⟨a, vk_R.same hv.symm ha⟩, va_Nc.moved (by rw [hv]; exact Vm.Alike.refl _) h.2.2.2.2.2.1, fun q hq => va_Nw.same rfl hv (h.2.2.2.2.2.2 q hq)⟩
/-- the two statics that a throw reads, in a heap of which A may change -/
def ds_Z (A : Nat → Prop) (U : State) (H : Heap) : Prop := vx_Zq Bundle.tN "UNASSIGNED_STACK" Bundle.steD A U H ∧ vx_Zq Bundle.tN "SUPPRESSED_SENTINEL" Bundle.listD A U H
theorem ds_Z.go {A B : Nat → Prop} {s U : State} {H : Heap} {locs : List Loc} (h : ds_Z A s s.heap) (hS : va_S A s.heap H locs) (hB : ∀ q, B q → A q) (hW : s.WarmedH U.vm) (hU : U.heap = H) : ds_Z B U U.heap := by
  rw [hU]
  exact ⟨vx_Zq.moved hW.alike ((vx_Zq.kept h.1 hS.2.1).narrow hB), vx_Zq.moved hW.alike ((vx_Zq.kept h.2 hS.2.1).narrow hB)⟩
theorem ds_Z.same {A : Nat → Prop} {u U : State} {H : Heap} (hv : u.vm = U.vm) (h : ds_Z A u H) : ds_Z A U H :=
  ⟨vx_Zq.moved (by rw [hv]; exact Vm.Alike.refl _) h.1, vx_Zq.moved (by rw [hv]; exact Vm.Alike.refl _) h.2⟩
/-- a method's start; one that may throw has the statics beside it -/
def ds_P (D : va_G) (cI cL : ClassId) (av : List Value) (w : va_W) (sz : Nat) : Array Value → State → Prop :=
  va_Pc av (fun U => U.heap.size = sz ∧ va_P D vwCl w U.heap ∧ ds_K D cI cL U ∧ va_D (fun _ => True) w)
def ds_PX (D : va_G) (cI cL : ClassId) (av : List Value) (w : va_W) (sz : Nat) : Array Value → State → Prop :=
  va_Pc av (fun U => U.heap.size = sz ∧ va_P D vwCl w U.heap ∧ ds_K D cI cL U ∧ va_D (fun _ => True) w ∧ ds_Z (va_A w sz) U U.heap)
theorem ds_P.blind {D : va_G} {cI cL : ClassId} {av : List Value} {w : va_W} {sz : Nat} : FrameBlind (ds_P D cI cL av w sz) := fun a U g mk h => by
  obtain ⟨h0, h1, h2, h3, h4⟩ := h
  exact ⟨h0, h1, h2, ds_K.same (u := U) (U := U.calling g mk a) rfl h3, h4⟩
theorem ds_PX.blind {D : va_G} {cI cL : ClassId} {av : List Value} {w : va_W} {sz : Nat} : FrameBlind (ds_PX D cI cL av w sz) := fun a U g mk h => by
  obtain ⟨h0, h1, h2, h3, h4, h5⟩ := h
  exact ⟨h0, h1, h2, ds_K.same (u := U) (U := U.calling g mk a) rfl h3, h4, ds_Z.same (u := U) (U := U.calling g mk a) rfl h5⟩
theorem ds_pS {D : va_G} {cI cL : ClassId} {av : List Value} {w : va_W} {A : Nat → Prop} {s : State} {H : Heap} (hP : va_P D vwCl w H) (hD : va_D A w) (hK : ds_K D cI cL s) : PreS s H (ds_P D cI cL av w H.size) av :=
  ⟨ds_P.blind, fun U hU hW => ⟨rfl, by rw [hU], by rw [hU]; exact hP, hK.warm hW, hD.weaken (fun _ _ _ _ => trivial)⟩⟩
theorem ds_pV {D : va_G} {cI cL : ClassId} {As : List Value} {w : va_W} {A : Nat → Prop} {s : State} {H : Heap} {b q0 ci : Nat} {q : vw_C} {fs : List Value} (hP : va_P D vwCl w H) (hD : va_D A w) (hK : ds_K D cI cL s) (he : w[q0]? = some (b, .inr (ci, fs))) (hc : vwCl[ci]? = some q) : PreV s H q.1 b (ds_P D cI cL (.ref b :: As) w H.size) As :=
  ⟨ds_P.blind, va_recv hK.1 hP hc he, fun U hU hW => ⟨rfl, by rw [hU], by rw [hU]; exact hP, hK.warm hW, hD.weaken (fun _ _ _ _ => trivial)⟩⟩
theorem ds_pSX {D : va_G} {cI cL : ClassId} {av : List Value} {w ws : va_W} {A : Nat → Prop} {s : State} {H : Heap} {locs : List Loc} (hP : va_P D vwCl w H) (hD : va_D A w) (hK : ds_K D cI cL s) (hZ : ds_Z A s s.heap) (hS : va_S A s.heap H locs) (hF : ∀ q, va_A w H.size q → A q) : PreS s H (ds_PX D cI cL av w H.size) av :=
  ⟨ds_PX.blind, fun U hU hW => ⟨rfl, by rw [hU], by rw [hU]; exact hP, hK.warm hW, hD.weaken (fun _ _ _ _ => trivial), hZ.go hS hF hW hU⟩⟩
theorem ds_pVX {D : va_G} {cI cL : ClassId} {As : List Value} {w : va_W} {A : Nat → Prop} {s : State} {H : Heap} {locs : List Loc} {b q0 ci : Nat} {q : vw_C} {fs : List Value} (hP : va_P D vwCl w H) (hD : va_D A w) (hK : ds_K D cI cL s) (hZ : ds_Z A s s.heap) (hS : va_S A s.heap H locs) (hF : ∀ q, va_A w H.size q → A q) (he : w[q0]? = some (b, .inr (ci, fs))) (hc : vwCl[ci]? = some q) : PreV s H q.1 b (ds_PX D cI cL (.ref b :: As) w H.size) As :=
  ⟨ds_PX.blind, va_recv hK.1 hP hc he, fun U hU hW => ⟨rfl, by rw [hU], by rw [hU]; exact hP, hK.warm hW, hD.weaken (fun _ _ _ _ => trivial), hZ.go hS hF hW hU⟩⟩
/-- a method's end: the world behind it -/
abbrev ds_W {S : Type} (D : va_G) (wo : S → va_W) (A : Nat → Prop) : S → State → Prop := fun u t => va_P D vwCl (wo u) t.heap ∧ va_D A (wo u)
abbrev ds_Qi {S : Type} (D : va_G) (post : Int32 → S → Prop) (wo : S → va_W) (A : Nat → Prop) : Array Value → State → Outcome → State → Prop := va_Qi post (ds_W D wo A) A
abbrev ds_Ql {S : Type} (D : va_G) (post : Int64 → S → Prop) (wo : S → va_W) (A : Nat → Prop) : Array Value → State → Outcome → State → Prop := va_Ql post (ds_W D wo A) A
abbrev ds_Qv {S : Type} (D : va_G) (post : S → Prop) (wo : S → va_W) (A : Nat → Prop) : Array Value → State → Outcome → State → Prop := va_Qv post (ds_W D wo A) A
abbrev ds_Qr {S : Type} (D : va_G) (post : S → Nat → Prop) (wo : S → va_W) (A : Nat → Prop) : Array Value → State → Outcome → State → Prop := va_Qr (fun _ : S => True) (fun u a t => post u a ∧ va_P D vwCl (wo u) t.heap ∧ va_D A (wo u)) A
/-- .. and where it throws: the class of what is thrown, the world as it was -/
abbrev ds_X (D : va_G) (px : String → Prop) (w : va_W) (A : Nat → Prop) : String → State → State → Prop := vx_X (fun _ : Unit => True) (fun E _ t => px E ∧ va_P D vwCl w t.heap) A
section DSE
variable {l : Launch} {y : MethodName} {ws : List Cond} {rm : Room} {cc : ByteArray} {maxL : Nat} {ret : Option FieldType} {D : va_G} {cI cL : ClassId} {av : List Value} {w : va_W} {sz mc ms : Nat}
theorem ds_enter {Qf : (Nat → Prop) → Array Value → State → Outcome → State → Prop} (hy : plainName y.cls = true) (hw : ws = Cond.code y cc maxL ret :: ds_all) (hlen : (lg_sl av).length ≤ maxL)
    (body : ∀ (p : Program) (e : Env) (s : State) (m : MethodId) (args : Array Value) (below : List Frame) (meth : Method) (c : Code), p.tables.exec = Jvm.exec → c.code = cc → c.maxLocals = maxL → meth.sig.returnType = ret →
      (∀ w ∈ ds_all, w.before args s = true) → s.vm.findClass y.cls = some m.cls → meth.locks = false → meth.name = y.name → ∀ A : Nat → Prop, (∀ q : Nat, s.heap.size ≤ q → A q) → va_P D vwCl w s.heap → va_D A w → va_S A s.heap s.heap [] → ds_K D cI cL s →
      ∀ ls : Array Slot, lv_has ls maxL (lv_args 0 av) → W p l e rm s m args below meth c s.heap [] 0 0 (MQ below (Qf A) args s mc ms A) (F0 m 0 ls [])) :
    Met l y ws rm (ds_P D cI cL av w sz) (Qf (va_A w sz)) mc ms (va_A w sz) := by
  refine Met.ofW (cc := cc) (maxL := maxL) (ret := ret) hy hw ?_
  intro p e s m args below meth c s₁ B hml hv
  obtain ⟨rfl, hsz, hP, hK, hD0⟩ := hv
  subst hsz
  have hts := atoms_spec (ws := ws) B.pre
  have hl := lv_entry av (n := maxL) hlen
  rw [lg_entry_eq]
  exact body p e s m _ below meth c B.exec B.bytes hml B.returns (fun w h => hts w (by rw [hw]; exact List.mem_cons_of_mem _ h)) (findClass_of_methodNamed B.named) B.notSynchronized (name_of_methodNamed B.named B.method).1 _ (fun q h => Or.inr h) hP hD0.self va_S.rf hK _ hl
theorem ds_enterX {Qf : (Nat → Prop) → Array Value → State → Outcome → State → Prop} {XC : (Nat → Prop) → String → State → State → Prop} (hy : plainName y.cls = true) (hw : ws = Cond.code y cc maxL ret :: ds_all) (hlen : (lg_sl av).length ≤ maxL)
    (body : ∀ (p : Program) (e : Env) (s : State) (m : MethodId) (args : Array Value) (below : List Frame) (meth : Method) (c : Code), p.tables.exec = Jvm.exec → c.code = cc → c.maxLocals = maxL → meth.sig.returnType = ret →
      (∀ w ∈ ds_all, w.before args s = true) → s.vm.findClass y.cls = some m.cls → meth.locks = false → meth.name = y.name → ∀ A : Nat → Prop, (∀ q : Nat, s.heap.size ≤ q → A q) → va_P D vwCl w s.heap → va_D A w → va_S A s.heap s.heap [] → ds_K D cI cL s →
      ds_Z A s s.heap → (∀ x ∈ c.exceptionTable.toList, False) →
      ∀ ls : Array Slot, lv_has ls maxL (lv_args 0 av) → W p l e rm s m args below meth c s.heap [] 0 0 (vx_MQ below (Qf A) (XC A) args s mc ms A) (F0 m 0 ls [])) :
    vx_Met l y ws rm (ds_PX D cI cL av w sz) (Qf (va_A w sz)) (XC (va_A w sz)) mc ms (va_A w sz) := by
  refine vx_ofW (cc := cc) (maxL := maxL) (ret := ret) hy hw ?_
  intro p e s m args below meth c s₁ B hml hno hv
  obtain ⟨rfl, hsz, hP, hK, hD0, hZ⟩ := hv
  subst hsz
  have hts := atoms_spec (ws := ws) B.pre
  have hl := lv_entry av (n := maxL) hlen
  rw [lg_entry_eq]
  exact body p e s m _ below meth c B.exec B.bytes hml B.returns (fun w h => hts w (by rw [hw]; exact List.mem_cons_of_mem _ h)) (findClass_of_methodNamed B.named) B.notSynchronized (name_of_methodNamed B.named B.method).1 _ (fun q h => Or.inr h) hP hD0.self va_S.rf hK hZ hno _ hl
theorem ds_enterW {Qf : (Nat → Prop) → Array Value → State → Outcome → State → Prop} {hh : List (Nat × Nat × Nat × Nat)} (hy : plainName y.cls = true) (hw : ws = Cond.codeWith y cc maxL ret hh :: ds_all) (hlen : (lg_sl av).length ≤ maxL)
    (body : ∀ (p : Program) (e : Env) (s : State) (m : MethodId) (args : Array Value) (below : List Frame) (meth : Method) (c : Code), p.tables.exec = Jvm.exec → c.code = cc → c.maxLocals = maxL → meth.sig.returnType = ret →
      (∀ w ∈ ds_all, w.before args s = true) → s.vm.findClass y.cls = some m.cls → meth.locks = false → meth.name = y.name → ∀ A : Nat → Prop, (∀ q : Nat, s.heap.size ≤ q → A q) → va_P D vwCl w s.heap → va_D A w → va_S A s.heap s.heap [] → ds_K D cI cL s →
      ds_Z A s s.heap → c.exceptionTable.toList = tableOf hh →
      ∀ ls : Array Slot, lv_has ls maxL (lv_args 0 av) → W p l e rm s m args below meth c s.heap [] 0 0 (MQ below (Qf A) args s mc ms A) (F0 m 0 ls [])) :
    Met l y ws rm (ds_PX D cI cL av w sz) (Qf (va_A w sz)) mc ms (va_A w sz) := by
  refine va_MetW (cc := cc) (maxL := maxL) (ret := ret) (hh := hh) hy hw ?_
  intro p e s m args below meth c s₁ B hml hv
  obtain ⟨rfl, hsz, hP, hK, hD0, hZ⟩ := hv
  subst hsz
  have hts := atoms_spec (ws := ws) B.pre
  have hl := lv_entry av (n := maxL) hlen
  rw [lg_entry_eq]
  exact body p e s m _ below meth c B.exec B.bytes hml B.returns (fun w h => hts w (by rw [hw]; exact List.mem_cons_of_mem _ h)) (findClass_of_methodNamed B.named) B.notSynchronized (name_of_methodNamed B.named B.method).1 _ (fun q h => Or.inr h) hP hD0.self va_S.rf hK hZ (vx_table (x := y) B (hts _ (by rw [hw]; exact List.mem_cons_self))) _ hl
end DSE
section DSR
variable {p : Program} {l : Launch} {e : Env} {R : Room} {s : State} {m : MethodId} {args : Array Value} {below : List Frame} {meth : Method} {c : Code} {H : Heap} {locs : List Loc} {cells slots : Nat} {Q : State → Prop}
variable {cc : ByteArray} {pc : Nat} {ls : Array Slot} {rest st0 : List Value} {D : va_G} {cI cL : ClassId} {A : Nat → Prop} {S : Type} {wo wn : S → va_W} {mc ms : Nat}
-- returns
theorem ds_iret {post : Int32 → S → Prop} {v : Int32} {ty : FieldType} (hexec : p.tables.exec = Jvm.exec) (hb : c.code = cc) (hr : meth.sig.returnType = some ty) (hlk : meth.locks = false) (hn : narrow ty (.int v) = .int v) (u : S) (hp : post v u) (hP : va_P D vwCl (wo u) H) (hD : va_D A (wo u)) (hS : va_S A s.heap H locs) (hc : cells ≤ mc) (hs : slots ≤ ms) (hdg : decode cc pc = .ok (.ireturn, 1)) :
    W p l e R s m args below meth c H locs cells slots (MQ below (ds_Qi D post wo A) args s mc ms A) (F0 m pc ls [.int v]) := by
  refine W.widen hc hs ?_
  exact W.zret hexec hb hr hn (fun t ht hW => ⟨⟨v, u, rfl, hp, by rw [ht]; exact hP, hD⟩, hS.F ht⟩) hS.2.2 hdg hlk
theorem ds_lret {post : Int64 → S → Prop} {v : Int64} (hexec : p.tables.exec = Jvm.exec) (hb : c.code = cc) (hr : meth.sig.returnType = some .long) (hlk : meth.locks = false) (u : S) (hp : post v u) (hP : va_P D vwCl (wo u) H) (hD : va_D A (wo u)) (hS : va_S A s.heap H locs) (hc : cells ≤ mc) (hs : slots ≤ ms) (hdg : decode cc pc = .ok (.lreturn, 1)) :
    W p l e R s m args below meth c H locs cells slots (MQ below (ds_Ql D post wo A) args s mc ms A) (F0 m pc ls [.long v]) := by
  refine W.widen hc hs ?_
  exact W.lret hexec hb hr (fun t ht hW => ⟨⟨v, u, rfl, hp, by rw [ht]; exact hP, hD⟩, hS.F ht⟩) hS.2.2 hdg hlk
theorem ds_vret {post : S → Prop} (hexec : p.tables.exec = Jvm.exec) (hb : c.code = cc) (hr : meth.sig.returnType = none) (hlk : meth.locks = false) (u : S) (hp : post u) (hP : va_P D vwCl (wo u) H) (hD : va_D A (wo u)) (hS : va_S A s.heap H locs) (hc : cells ≤ mc) (hs : slots ≤ ms) (hdg : decode cc pc = .ok (.return_, 1)) :
    W p l e R s m args below meth c H locs cells slots (MQ below (ds_Qv D post wo A) args s mc ms A) (F0 m pc ls []) := by
  refine W.widen hc hs ?_
  exact W.vret hexec hb hr (fun t ht hW => ⟨⟨u, rfl, hp, by rw [ht]; exact hP, hD⟩, hS.F ht⟩) hS.2.2 hdg hlk
theorem ds_aret {post : S → Nat → Prop} {a : Nat} {nm : String} (hexec : p.tables.exec = Jvm.exec) (hb : c.code = cc) (hr : meth.sig.returnType = some (.object nm)) (hlk : meth.locks = false) (u : S) (hp : post u a) (hP : va_P D vwCl (wo u) H) (hD : va_D A (wo u)) (hS : va_S A s.heap H locs) (hc : cells ≤ mc) (hs : slots ≤ ms) (hdg : decode cc pc = .ok (.areturn, 1)) :
    W p l e R s m args below meth c H locs cells slots (MQ below (ds_Qr D post wo A) args s mc ms A) (F0 m pc ls [.ref a]) := by
  refine W.widen hc hs ?_
  exact W.aret hexec hb hr (Or.inl ⟨nm, rfl⟩) (Or.inr ⟨a, rfl⟩) (fun t ht hW => ⟨⟨u, a, rfl, trivial, hp, by rw [ht]; exact hP, hD⟩, hS.F ht⟩) hS.2.2 hdg hlk
end DSR

section DSC
variable {p : Program} {l : Launch} {e : Env} {R : Room} {s : State} {m : MethodId} {args : Array Value} {below : List Frame} {meth : Method} {c : Code} {H : Heap} {locs : List Loc} {cells slots : Nat} {Q : State → Prop}
variable {cc : ByteArray} {pc : Nat} {ls : Array Slot} {rest st0 : List Value} {D : va_G} {cI cL : ClassId} {A : Nat → Prop} {S : Type} {wo wn : S → va_W} {mc ms : Nat} {ws wc wr : va_W} {a : Array Value}

/-- how a call cuts the world: the callee's places, the rest's places -/
def ds_C (ws wc wr : va_W) (isC isR : List Nat) : Prop := isC.map (fun i => ws[i]?) = wc.map some ∧ isR.map (fun i => ws[i]?) = wr.map some ∧ va_nd isC = true ∧ va_nd isR = true ∧ ∀ i ∈ isR, i ∉ isC
theorem ds_after {H1 : Heap} {u : S} {isC isR : List Nat} (hP : va_P D vwCl ws H) (hD : va_D A ws) (hC : ds_C ws wc wr isC isR) (isN : List Nat) (hn2 : va_nd isN = true) (hN : ∀ u, isN.map (fun i => (wr ++ wo u)[i]?) = (wn u).map some)
    (hk : ∀ q : Nat, q < H.size → ¬ va_A wc H.size q → H1[q]? = H[q]?) (hF : ∀ q, va_A wc H.size q → A q) (hP1 : va_P D vwCl (wo u) H1) (hD1 : va_D (va_A wc H.size) (wo u)) : va_P D vwCl (wn u) H1 ∧ va_D A (wn u) := by
  obtain ⟨hP2, hD2⟩ := va_join (wr := wr) hP hD isC isR hC.1 hC.2.1 hC.2.2.2.1 hC.2.2.2.2 hk hF hP1 hD1
  exact ⟨hP2.sub isN (ds_fm _ _ _ (hN u)), hD2.sub isN hn2 (hN u)⟩
theorem ds_same {H1 : Heap} {isC isR : List Nat} (hP : va_P D vwCl ws H) (hD : va_D A ws) (hC : ds_C ws wc wr isC isR) (isB : List Nat) (hB : isB.map (fun i => (wr ++ wc)[i]?) = ws.map some)
    (hk : ∀ q : Nat, q < H.size → ¬ va_A wc H.size q → H1[q]? = H[q]?) (hF : ∀ q, va_A wc H.size q → A q) (hP1 : va_P D vwCl wc H1) : va_P D vwCl ws H1 := by
  obtain ⟨hP2, -⟩ := va_join (wr := wr) hP hD isC isR hC.1 hC.2.1 hC.2.2.2.1 hC.2.2.2.2 hk hF hP1 (hD.sub isC hC.2.2.1 hC.1).self
  exact hP2.sub isB (ds_fm _ _ _ hB)

theorem ds_calli {post : Int32 → S → Prop} {isC isR : List Nat} (hP : va_P D vwCl ws H) (hD : va_D A ws) (hS : va_S A s.heap H locs) (hA : ∀ q : Nat, s.heap.size ≤ q → A q) (hC : ds_C ws wc wr isC isR) (isN : List Nat) (hn2 : va_nd isN = true) (hN : ∀ u, isN.map (fun i => (wr ++ wo u)[i]?) = (wn u).map some)
    (hr : va_P D vwCl wc H → va_D A wc → va_Run p l e R s m args below meth c H locs cells slots mc ms (F0 m pc ls st0) rest (ds_Qi D post wo (va_A wc H.size) a) (va_A wc H.size))
    (kk : ∀ (r : Int32) (u : S) (H1 : Heap) (locs1 : List Loc), post r u → va_P D vwCl (wn u) H1 → va_D A (wn u) → va_S A s.heap H1 locs1 → W p l e R s m args below meth c H1 locs1 (cells + mc) (slots + ms) Q (F0 m (pc + 3) ls (.int r :: rest))) :
    W p l e R s m args below meth c H locs cells slots Q (F0 m pc ls st0) := by
  have hF := va_free (wc := wc) hD hS hA isC hC.1
  refine va_calli (hr (hP.sub isC (ds_fm _ _ _ hC.1)) (hD.sub isC hC.2.2.1 hC.1)) hS (fun q _ h => hF q h) hF (fun r u t H1 locs1 ht hvm hp hB hz hk hS1 => ?_)
  obtain ⟨hP1, hD1⟩ := hB
  rw [ht] at hP1
  obtain ⟨hP2, hD2⟩ := ds_after hP hD hC isN hn2 hN hk hF hP1 hD1
  exact kk r u H1 locs1 hp hP2 hD2 hS1

theorem ds_callXi {post : Int32 → S → Prop} {px : String → Prop} {isC isR : List Nat} (hP : va_P D vwCl ws H) (hD : va_D A ws) (hS : va_S A s.heap H locs) (hA : ∀ q : Nat, s.heap.size ≤ q → A q) (hC : ds_C ws wc wr isC isR) (isN : List Nat) (hn2 : va_nd isN = true) (hN : ∀ u, isN.map (fun i => (wr ++ wo u)[i]?) = (wn u).map some) (isB : List Nat) (hB : isB.map (fun i => (wr ++ wc)[i]?) = ws.map some)
    (hr : va_P D vwCl wc H → va_D A wc → (∀ q, va_A wc H.size q → A q) → vx_Run p l e R s m args below meth c H locs cells slots mc ms (F0 m pc ls st0) rest (ds_Qi D post wo (va_A wc H.size) a) (ds_X D px wc (va_A wc H.size)) (va_A wc H.size))
    (kx : ∀ (E : String) (ce : Cell) (q9 : Addr) (H1 : Heap) (locs1 : List Loc), px E → va_P D vwCl ws H1 → va_S A s.heap H1 locs1 → H1[q9]? = some ce → ce.vm = .none → s.vm.findClass E = some ce.cls → vx_W p l e R s m args below meth c H1 locs1 (cells + mc) (slots + ms) Q (F0 m pc ls rest) q9)
    (kk : ∀ (r : Int32) (u : S) (H1 : Heap) (locs1 : List Loc), post r u → va_P D vwCl (wn u) H1 → va_D A (wn u) → va_S A s.heap H1 locs1 → W p l e R s m args below meth c H1 locs1 (cells + mc) (slots + ms) Q (F0 m (pc + 3) ls (.int r :: rest))) :
    W p l e R s m args below meth c H locs cells slots Q (F0 m pc ls st0) := by
  have hF := va_free (wc := wc) hD hS hA isC hC.1
  refine vx_calli (hr (hP.sub isC (ds_fm _ _ _ hC.1)) (hD.sub isC hC.2.2.1 hC.1) hF) hS (fun q _ h => hF q h) hF (fun q _ h => hF q h) (fun E ce q9 u t H1 locs1 ht hvm hp hB1 hz hk hS1 h9 hn9 hc9 => ?_) (fun r u t H1 locs1 ht hvm hp hB1 hz hk hS1 => ?_)
  · obtain ⟨hpx, hP1⟩ := hB1
    rw [ht] at hP1
    exact kx E ce q9 H1 locs1 hpx (ds_same hP hD hC isB hB hk hF hP1) hS1 h9 hn9 hc9
  · obtain ⟨hP1, hD1⟩ := hB1
    rw [ht] at hP1
    obtain ⟨hP2, hD2⟩ := ds_after hP hD hC isN hn2 hN hk hF hP1 hD1
    exact kk r u H1 locs1 hp hP2 hD2 hS1

theorem ds_calll {post : Int64 → S → Prop} {isC isR : List Nat} (hP : va_P D vwCl ws H) (hD : va_D A ws) (hS : va_S A s.heap H locs) (hA : ∀ q : Nat, s.heap.size ≤ q → A q) (hC : ds_C ws wc wr isC isR) (isN : List Nat) (hn2 : va_nd isN = true) (hN : ∀ u, isN.map (fun i => (wr ++ wo u)[i]?) = (wn u).map some)
    (hr : va_P D vwCl wc H → va_D A wc → va_Run p l e R s m args below meth c H locs cells slots mc ms (F0 m pc ls st0) rest (ds_Ql D post wo (va_A wc H.size) a) (va_A wc H.size))
    (kk : ∀ (r : Int64) (u : S) (H1 : Heap) (locs1 : List Loc), post r u → va_P D vwCl (wn u) H1 → va_D A (wn u) → va_S A s.heap H1 locs1 → W p l e R s m args below meth c H1 locs1 (cells + mc) (slots + ms) Q (F0 m (pc + 3) ls (.long r :: rest))) :
    W p l e R s m args below meth c H locs cells slots Q (F0 m pc ls st0) := by
  have hF := va_free (wc := wc) hD hS hA isC hC.1
  refine va_calll (hr (hP.sub isC (ds_fm _ _ _ hC.1)) (hD.sub isC hC.2.2.1 hC.1)) hS (fun q _ h => hF q h) hF (fun r u t H1 locs1 ht hvm hp hB hz hk hS1 => ?_)
  obtain ⟨hP1, hD1⟩ := hB
  rw [ht] at hP1
  obtain ⟨hP2, hD2⟩ := ds_after hP hD hC isN hn2 hN hk hF hP1 hD1
  exact kk r u H1 locs1 hp hP2 hD2 hS1

theorem ds_callXl {post : Int64 → S → Prop} {px : String → Prop} {isC isR : List Nat} (hP : va_P D vwCl ws H) (hD : va_D A ws) (hS : va_S A s.heap H locs) (hA : ∀ q : Nat, s.heap.size ≤ q → A q) (hC : ds_C ws wc wr isC isR) (isN : List Nat) (hn2 : va_nd isN = true) (hN : ∀ u, isN.map (fun i => (wr ++ wo u)[i]?) = (wn u).map some) (isB : List Nat) (hB : isB.map (fun i => (wr ++ wc)[i]?) = ws.map some)
    (hr : va_P D vwCl wc H → va_D A wc → (∀ q, va_A wc H.size q → A q) → vx_Run p l e R s m args below meth c H locs cells slots mc ms (F0 m pc ls st0) rest (ds_Ql D post wo (va_A wc H.size) a) (ds_X D px wc (va_A wc H.size)) (va_A wc H.size))
    (kx : ∀ (E : String) (ce : Cell) (q9 : Addr) (H1 : Heap) (locs1 : List Loc), px E → va_P D vwCl ws H1 → va_S A s.heap H1 locs1 → H1[q9]? = some ce → ce.vm = .none → s.vm.findClass E = some ce.cls → vx_W p l e R s m args below meth c H1 locs1 (cells + mc) (slots + ms) Q (F0 m pc ls rest) q9)
    (kk : ∀ (r : Int64) (u : S) (H1 : Heap) (locs1 : List Loc), post r u → va_P D vwCl (wn u) H1 → va_D A (wn u) → va_S A s.heap H1 locs1 → W p l e R s m args below meth c H1 locs1 (cells + mc) (slots + ms) Q (F0 m (pc + 3) ls (.long r :: rest))) :
    W p l e R s m args below meth c H locs cells slots Q (F0 m pc ls st0) := by
  have hF := va_free (wc := wc) hD hS hA isC hC.1
  refine vx_calll (hr (hP.sub isC (ds_fm _ _ _ hC.1)) (hD.sub isC hC.2.2.1 hC.1) hF) hS (fun q _ h => hF q h) hF (fun q _ h => hF q h) (fun E ce q9 u t H1 locs1 ht hvm hp hB1 hz hk hS1 h9 hn9 hc9 => ?_) (fun r u t H1 locs1 ht hvm hp hB1 hz hk hS1 => ?_)
  · obtain ⟨hpx, hP1⟩ := hB1
    rw [ht] at hP1
    exact kx E ce q9 H1 locs1 hpx (ds_same hP hD hC isB hB hk hF hP1) hS1 h9 hn9 hc9
  · obtain ⟨hP1, hD1⟩ := hB1
    rw [ht] at hP1
    obtain ⟨hP2, hD2⟩ := ds_after hP hD hC isN hn2 hN hk hF hP1 hD1
    exact kk r u H1 locs1 hp hP2 hD2 hS1

theorem ds_callv {post : S → Prop} {isC isR : List Nat} (hP : va_P D vwCl ws H) (hD : va_D A ws) (hS : va_S A s.heap H locs) (hA : ∀ q : Nat, s.heap.size ≤ q → A q) (hC : ds_C ws wc wr isC isR) (isN : List Nat) (hn2 : va_nd isN = true) (hN : ∀ u, isN.map (fun i => (wr ++ wo u)[i]?) = (wn u).map some)
    (hr : va_P D vwCl wc H → va_D A wc → va_Run p l e R s m args below meth c H locs cells slots mc ms (F0 m pc ls st0) rest (ds_Qv D post wo (va_A wc H.size) a) (va_A wc H.size))
    (kk : ∀ (u : S) (H1 : Heap) (locs1 : List Loc), post u → va_P D vwCl (wn u) H1 → va_D A (wn u) → va_S A s.heap H1 locs1 → W p l e R s m args below meth c H1 locs1 (cells + mc) (slots + ms) Q (F0 m (pc + 3) ls (rest))) :
    W p l e R s m args below meth c H locs cells slots Q (F0 m pc ls st0) := by
  have hF := va_free (wc := wc) hD hS hA isC hC.1
  refine va_callv (hr (hP.sub isC (ds_fm _ _ _ hC.1)) (hD.sub isC hC.2.2.1 hC.1)) hS (fun q _ h => hF q h) hF (fun u t H1 locs1 ht hvm hp hB hz hk hS1 => ?_)
  obtain ⟨hP1, hD1⟩ := hB
  rw [ht] at hP1
  obtain ⟨hP2, hD2⟩ := ds_after hP hD hC isN hn2 hN hk hF hP1 hD1
  exact kk u H1 locs1 hp hP2 hD2 hS1

theorem ds_callXv {post : S → Prop} {px : String → Prop} {isC isR : List Nat} (hP : va_P D vwCl ws H) (hD : va_D A ws) (hS : va_S A s.heap H locs) (hA : ∀ q : Nat, s.heap.size ≤ q → A q) (hC : ds_C ws wc wr isC isR) (isN : List Nat) (hn2 : va_nd isN = true) (hN : ∀ u, isN.map (fun i => (wr ++ wo u)[i]?) = (wn u).map some) (isB : List Nat) (hB : isB.map (fun i => (wr ++ wc)[i]?) = ws.map some)
    (hr : va_P D vwCl wc H → va_D A wc → (∀ q, va_A wc H.size q → A q) → vx_Run p l e R s m args below meth c H locs cells slots mc ms (F0 m pc ls st0) rest (ds_Qv D post wo (va_A wc H.size) a) (ds_X D px wc (va_A wc H.size)) (va_A wc H.size))
    (kx : ∀ (E : String) (ce : Cell) (q9 : Addr) (H1 : Heap) (locs1 : List Loc), px E → va_P D vwCl ws H1 → va_S A s.heap H1 locs1 → H1[q9]? = some ce → ce.vm = .none → s.vm.findClass E = some ce.cls → vx_W p l e R s m args below meth c H1 locs1 (cells + mc) (slots + ms) Q (F0 m pc ls rest) q9)
    (kk : ∀ (u : S) (H1 : Heap) (locs1 : List Loc), post u → va_P D vwCl (wn u) H1 → va_D A (wn u) → va_S A s.heap H1 locs1 → W p l e R s m args below meth c H1 locs1 (cells + mc) (slots + ms) Q (F0 m (pc + 3) ls (rest))) :
    W p l e R s m args below meth c H locs cells slots Q (F0 m pc ls st0) := by
  have hF := va_free (wc := wc) hD hS hA isC hC.1
  refine vx_callv (hr (hP.sub isC (ds_fm _ _ _ hC.1)) (hD.sub isC hC.2.2.1 hC.1) hF) hS (fun q _ h => hF q h) hF (fun q _ h => hF q h) (fun E ce q9 u t H1 locs1 ht hvm hp hB1 hz hk hS1 h9 hn9 hc9 => ?_) (fun u t H1 locs1 ht hvm hp hB1 hz hk hS1 => ?_)
  · obtain ⟨hpx, hP1⟩ := hB1
    rw [ht] at hP1
    exact kx E ce q9 H1 locs1 hpx (ds_same hP hD hC isB hB hk hF hP1) hS1 h9 hn9 hc9
  · obtain ⟨hP1, hD1⟩ := hB1
    rw [ht] at hP1
    obtain ⟨hP2, hD2⟩ := ds_after hP hD hC isN hn2 hN hk hF hP1 hD1
    exact kk u H1 locs1 hp hP2 hD2 hS1

theorem ds_callr {post : S → Nat → Prop} {isC isR : List Nat} (hP : va_P D vwCl ws H) (hD : va_D A ws) (hS : va_S A s.heap H locs) (hA : ∀ q : Nat, s.heap.size ≤ q → A q) (hC : ds_C ws wc wr isC isR) (isN : List Nat) (hn2 : va_nd isN = true) (hN : ∀ u, isN.map (fun i => (wr ++ wo u)[i]?) = (wn u).map some)
    (hr : va_P D vwCl wc H → va_D A wc → va_Run p l e R s m args below meth c H locs cells slots mc ms (F0 m pc ls st0) rest (ds_Qr D post wo (va_A wc H.size) a) (va_A wc H.size))
    (kk : ∀ (r : Nat) (u : S) (H1 : Heap) (locs1 : List Loc), post u r → va_P D vwCl (wn u) H1 → va_D A (wn u) → va_S A s.heap H1 locs1 → W p l e R s m args below meth c H1 locs1 (cells + mc) (slots + ms) Q (F0 m (pc + 3) ls (.ref r :: rest))) :
    W p l e R s m args below meth c H locs cells slots Q (F0 m pc ls st0) := by
  have hF := va_free (wc := wc) hD hS hA isC hC.1
  refine va_callr (hr (hP.sub isC (ds_fm _ _ _ hC.1)) (hD.sub isC hC.2.2.1 hC.1)) hS (fun q _ h => hF q h) hF (fun u r t H1 locs1 ht hvm _ hB hz hk hS1 => ?_)
  obtain ⟨hp, hP1, hD1⟩ := hB
  rw [ht] at hP1
  obtain ⟨hP2, hD2⟩ := ds_after hP hD hC isN hn2 hN hk hF hP1 hD1
  exact kk r u H1 locs1 hp hP2 hD2 hS1
/-- what a call threw leaves this method too -/
theorem ds_out {Qc : Array Value → State → Outcome → State → Prop} {px : String → Prop} {E : String} {ce : Cell} {q9 : Addr} (hno : ∀ x ∈ c.exceptionTable.toList, False) (hlk : meth.locks = false) (hpx : px E) (hP : va_P D vwCl ws H) (hS : va_S A s.heap H locs) (h9 : H[q9]? = some ce) (hn9 : ce.vm = .none) (hc9 : s.vm.findClass E = some ce.cls) (hc : cells ≤ mc) (hs : slots ≤ ms) :
    vx_W p l e R s m args below meth c H locs cells slots (vx_MQ below Qc (ds_X D px ws A) args s mc ms A) (F0 m pc ls rest) q9 :=
  vx_out (fun x h => (hno x h).elim) hlk h9 hn9 hc9 (fun t ht _ => ⟨(), trivial, ⟨hpx, by rw [ht]; exact hP⟩, hS.F ht⟩) hS.2.2 hc hs
-- arrays, at places that are naturals
variable {b n k : Nat} {f : Nat → Int32} {fl : Nat → Int64}
theorem ds_iald (hexec : p.tables.exec = Jvm.exec) (hb : c.code = cc) (hK : ds_K D cI cL s) (hP : va_P D vwCl ws H) (q0 : Nat) (ha : ws[q0]? = some (b, .inl (cI, n, .inl f))) (hk : k < n) (hn : n < 2 ^ 31) (hdg : decode cc pc = .ok (.iaload, 1))
    (kk : W p l e R s m args below meth c H locs cells slots Q (F0 m (pc + 1) ls (.int (f k) :: rest))) : W p l e R s m args below meth c H locs cells slots Q (F0 m pc ls (.int (nI k) :: .ref b :: rest)) := by
  refine va_iald hexec hb hK.1 hP q0 0 ha rfl (vp_in_nI hk hn) hdg ?_
  rw [nI_clamp (by omega)]
  exact kk
theorem ds_lald (hexec : p.tables.exec = Jvm.exec) (hb : c.code = cc) (hK : ds_K D cI cL s) (hP : va_P D vwCl ws H) (q0 : Nat) (ha : ws[q0]? = some (b, .inl (cL, n, .inr (.inl fl)))) (hk : k < n) (hn : n < 2 ^ 31) (hdg : decode cc pc = .ok (.laload, 1))
    (kk : W p l e R s m args below meth c H locs cells slots Q (F0 m (pc + 1) ls (.long (fl k) :: rest))) : W p l e R s m args below meth c H locs cells slots Q (F0 m pc ls (.int (nI k) :: .ref b :: rest)) := by
  refine va_lald hexec hb hK.1 hP q0 1 ha rfl (vp_in_nI hk hn) hdg ?_
  rw [nI_clamp (by omega)]
  exact kk
theorem ds_iast {x : Int32} (hexec : p.tables.exec = Jvm.exec) (hb : c.code = cc) (hK : ds_K D cI cL s) (hP : va_P D vwCl ws H) (hD : va_D A ws) (hS : va_S A s.heap H locs) (q0 : Nat) (ha : ws[q0]? = some (b, .inl (cI, n, .inl f))) (hk : k < n) (hn : n < 2 ^ 31) (hdg : decode cc pc = .ok (.iastore, 1))
    (kk : ∀ (H1 : Heap) (locs1 : List Loc), va_P D vwCl (ws.set q0 (b, .inl (cI, n, .inl (upd f k x)))) H1 → va_D A (ws.set q0 (b, .inl (cI, n, .inl (upd f k x)))) → va_S A s.heap H1 locs1 → W p l e R s m args below meth c H1 locs1 cells slots Q (F0 m (pc + 1) ls rest)) : W p l e R s m args below meth c H locs cells slots Q (F0 m pc ls (.int x :: .int (nI k) :: .ref b :: rest)) := by
  refine va_iast hexec hb hK.1 hP hD hS q0 0 ha rfl (vp_in_nI hk hn) hdg (fun H1 locs1 h1 h2 h3 => ?_)
  rw [nI_clamp (by omega)] at h1 h2
  exact kk H1 locs1 h1 h2 h3
theorem ds_last {x : Int64} (hexec : p.tables.exec = Jvm.exec) (hb : c.code = cc) (hK : ds_K D cI cL s) (hP : va_P D vwCl ws H) (hD : va_D A ws) (hS : va_S A s.heap H locs) (q0 : Nat) (ha : ws[q0]? = some (b, .inl (cL, n, .inr (.inl fl)))) (hk : k < n) (hn : n < 2 ^ 31) (hdg : decode cc pc = .ok (.lastore, 1))
    (kk : ∀ (H1 : Heap) (locs1 : List Loc), va_P D vwCl (ws.set q0 (b, .inl (cL, n, .inr (.inl (vp_updL fl k x))))) H1 → va_D A (ws.set q0 (b, .inl (cL, n, .inr (.inl (vp_updL fl k x))))) → va_S A s.heap H1 locs1 → W p l e R s m args below meth c H1 locs1 cells slots Q (F0 m (pc + 1) ls rest)) : W p l e R s m args below meth c H locs cells slots Q (F0 m pc ls (.long x :: .int (nI k) :: .ref b :: rest)) := by
  refine va_last hexec hb hK.1 hP hD hS q0 1 ha rfl (vp_in_nI hk hn) hdg (fun H1 locs1 h1 h2 h3 => ?_)
  rw [nI_clamp (by omega)] at h1 h2
  exact kk H1 locs1 h1 h2 h3
/-- the number on top, said otherwise -/
theorem ds_top {x z : Int32} (h : x = z) (kk : W p l e R s m args below meth c H locs cells slots Q (F0 m pc ls (.int z :: rest))) : W p l e R s m args below meth c H locs cells slots Q (F0 m pc ls (.int x :: rest)) := h ▸ kk
theorem ds_topl {x z : Int64} (h : x = z) (kk : W p l e R s m args below meth c H locs cells slots Q (F0 m pc ls (.long z :: rest))) : W p l e R s m args below meth c H locs cells slots Q (F0 m pc ls (.long x :: rest)) := h ▸ kk
end DSC

theorem ds_otI (ik : Nat) : ∀ w ∈ Cond.classLink RX4 ik "java/lang/IllegalArgumentException" :: Cond.initialized "java/lang/IllegalArgumentException" :: vx_atS RX4 60 "java/lang/IllegalArgumentException" ["java/lang/RuntimeException", "java/lang/Exception"], vx_ot w = true := by
  have h : ∀ w ∈ Cond.initialized "java/lang/IllegalArgumentException" :: vx_atS RX4 60 "java/lang/IllegalArgumentException" ["java/lang/RuntimeException", "java/lang/Exception"], vx_ot w = true := by decide +kernel
  intro w hw
  rcases List.mem_cons.mp hw with rfl | hw
  · rfl
  · exact h w hw
theorem ds_otO (ik : Nat) : ∀ w ∈ Cond.classLink RX4 ik "java/lang/IndexOutOfBoundsException" :: Cond.initialized "java/lang/IndexOutOfBoundsException" :: vx_atS RX4 115 "java/lang/IndexOutOfBoundsException" ["java/lang/RuntimeException", "java/lang/Exception"], vx_ot w = true := by
  have h : ∀ w ∈ Cond.initialized "java/lang/IndexOutOfBoundsException" :: vx_atS RX4 115 "java/lang/IndexOutOfBoundsException" ["java/lang/RuntimeException", "java/lang/Exception"], vx_ot w = true := by decide +kernel
  intro w hw
  rcases List.mem_cons.mp hw with rfl | hw
  · rfl
  · exact h w hw
theorem ds_cI {D : va_G} {cI cL cA : ClassId} {s : State} (h : va_K D vwCl ([(cI, .int), (cL, .long)] ++ [(cA, .int)]) s) : cA = cI := by
  have h1 : s.vm.findClass ("[" ++ FieldType.int.toString) = some cA := (h.2 2 (cA, .int) rfl).2
  have h2 : s.vm.findClass ("[" ++ FieldType.int.toString) = some cI := (h.2 0 (cI, .int) rfl).2
  exact Option.some.inj (h1.symm.trans h2)
theorem ds_cL {D : va_G} {cI cL cA : ClassId} {s : State} (h : va_K D vwCl ([(cI, .int), (cL, .long)] ++ [(cA, .long)]) s) : cA = cL := by
  have h1 : s.vm.findClass ("[" ++ FieldType.long.toString) = some cA := (h.2 2 (cA, .long) rfl).2
  have h2 : s.vm.findClass ("[" ++ FieldType.long.toString) = some cL := (h.2 1 (cL, .long) rfl).2
  exact Option.some.inj (h1.symm.trans h2)
section DST
variable {p : Program} {l : Launch} {e : Env} {R : Room} {s : State} {m : MethodId} {args : Array Value} {below : List Frame} {meth : Method} {c : Code} {H : Heap} {locs : List Loc} {cells slots : Nat} {Q : State → Prop}
variable {cc : ByteArray} {pc : Nat} {ls : Array Slot} {rest st0 : List Value} {D : va_G} {cI cL : ClassId} {A : Nat → Prop} {mc ms : Nat} {ws : va_W}
theorem ds_copyi {own : String} {index : Nat} (sp dp n : Nat) {a a0 n0 n1 : Nat} {f g : Nat → Int32} (hexec : p.tables.exec = Jvm.exec) (hb : c.code = cc) (hml : c.maxLocals = ls.size) (hown : s.vm.findClass own = some m.cls) (hlink : (Cond.methodLink own index arraycopyName).before args s = true) (hnat : (Cond.native arraycopyName).before args s = true) (hstat : (Cond.static arraycopyName).before args s = true) (hini : (Cond.initialized "java/lang/System").before args s = true)
    (hK : ds_K D cI cL s) (hP : va_P D vwCl ws H) (hD : va_D A ws) (hS : va_S A s.heap H locs) (q0 q1 : Nat) (ha0 : ws[q0]? = some (a0, .inl (cI, n0, .inl f))) (ha1 : ws[q1]? = some (a, .inl (cI, n1, .inl g))) (h4 : sp + n ≤ n0) (h5 : dp + n ≤ n1) (hbig : n0 < 2 ^ 31 ∧ n1 < 2 ^ 31)
    (hframes : 1 ≤ R.frames) (hlocals : (rest.map fun v => v.category).sum + 18 ≤ R.locals) (hdg : decode cc pc = .ok (.invokestatic index, 3))
    (kk : ∀ (H1 : Heap) (locs1 : List Loc), va_P D vwCl (ws.set q1 (a, .inl (cI, n1, .inl (va_cpy f g sp dp n)))) H1 → va_D A (ws.set q1 (a, .inl (cI, n1, .inl (va_cpy f g sp dp n)))) → va_S A s.heap H1 locs1 → W p l e R s m args below meth c H1 locs1 cells slots Q (F0 m (pc + 3) ls rest)) : W p l e R s m args below meth c H locs cells slots Q (F0 m pc ls (.int (nI n) :: .int (nI dp) :: .ref a :: .int (nI sp) :: .ref a0 :: rest)) := by
  have e1 : (nI sp).toNatClampNeg = sp := nI_clamp (by omega)
  have e2 : (nI dp).toNatClampNeg = dp := nI_clamp (by omega)
  have e3 : (nI n).toNatClampNeg = n := nI_clamp (by omega)
  have z : ∀ k : Nat, k < 2 ^ 31 → ¬ nI k < 0 := fun k hk h => by rw [← nI_0] at h; exact Nat.not_lt_zero _ ((nI_ltI hk (by omega)).mp h)
  refine va_copyi hexec hb hml hown hlink hnat hstat hini hK.1 hP hD hS q0 q1 0 0 ha0 ha1 rfl rfl rfl (z sp (by omega)) (z dp (by omega)) (z n (by omega)) (by rw [e1, e3]; exact h4) (by rw [e2, e3]; exact h5) (fun _ _ => rfl) hframes hlocals hdg (fun H1 locs1 h1 h2 h3 => ?_)
  rw [e1, e2, e3] at h1 h2
  exact kk H1 locs1 h1 h2 h3
theorem ds_throwI {Qc : Array Value → State → Outcome → State → Prop} {px : String → Prop} {ik is : Nat} {text : String} (hexec : p.tables.exec = Jvm.exec) (hb : c.code = cc) (hl : l.stackTraces = false) (hown : s.vm.findClass RX4 = some m.cls) (hk : (Cond.classLink RX4 ik "java/lang/IllegalArgumentException").before args s = true) (hini : (Cond.initialized "java/lang/IllegalArgumentException").before args s = true)
    (ht : ∀ w ∈ ds_all, w.before args s = true) (hK : ds_K D cI cL s) (htx : (is, text) ∈ ds_tx) (hZ : ds_Z A s s.heap) (hP : va_P D vwCl ws H) (hS : va_S A s.heap H locs) (hsize : ls.size = c.maxLocals)
    (d0 : decode cc pc = .ok (.new ik, 3)) (d3 : decode cc (pc + 3) = .ok (.dup, 1)) (d4 : decode cc (pc + 4) = .ok (.ldc is, 2)) (d6 : decode cc (pc + 6) = .ok (.invokespecial 60, 3)) (d9 : decode cc (pc + 9) = .ok (.athrow, 1))
    (hno : ∀ x ∈ c.exceptionTable.toList, False) (hlocks : meth.locks = false) (hRframes : 5 < R.frames) (hRlocals : (rest.map fun v => v.category).sum + 82 ≤ R.locals) (hRcells : cells + 1 ≤ R.cells) (hRslots : slots + 6 ≤ R.slots) (hc : cells + 1 ≤ mc) (hs : slots + 6 ≤ ms) (hpx : px "java/lang/IllegalArgumentException") :
    W p l e R s m args below meth c H locs cells slots (vx_MQ below Qc (ds_X D px ws A) args s mc ms A) (F0 m pc ls rest) := by
  obtain ⟨sa, hstr⟩ := hK.2.2.2.2.1 _ htx
  refine vx_throwS (own := RX4) (cls := "java/lang/IllegalArgumentException") (names := ["java/lang/RuntimeException", "java/lang/Exception"]) (ic := 60) (A := A) hexec hb hl hown (by decide +kernel) (by decide +kernel) hk hini hstr
    (vx_hat (B := .castable "java/lang/IllegalArgumentException" "java/lang/IllegalArgumentException" :: ds_nD.map Cond.declares) (fun w h => ht w (inA_xI w h)) (by decide +kernel) (fun w h => ?_)) (ds_otI ik) hZ.1 hZ.2 hS hsize d0 d3 d4 d6 d9 (fun x h => (hno x h).elim) hRframes hRlocals hRcells hRslots hlocks ?_ hS.2.2 hc hs
  · rcases List.mem_cons.mp h with rfl | h
    rotate_left
    · obtain ⟨y9, hy9, rfl⟩ := List.mem_map.mp h
      exact va_Nw.use rfl (hK.2.2.2.2.2.2 y9 hy9)
    exact va_Nw.use rfl (hK.2.2.2.1 ("java/lang/IllegalArgumentException", "java/lang/IllegalArgumentException") (List.mem_cons_self))
  · intro t _ h1 h2
    refine ⟨(), trivial, ⟨hpx, hP.kept (fun k q hq => h2 q.1 (hP k q hq).lt)⟩, ?_⟩
    exact ⟨Nat.le_trans hS.1 h1, fun q hq hn => (h2 q (Nat.lt_of_lt_of_le hq hS.1)).trans (hS.2.1 q hq hn)⟩
theorem ds_throwO {Qc : Array Value → State → Outcome → State → Prop} {px : String → Prop} {ik is : Nat} {text : String} (hexec : p.tables.exec = Jvm.exec) (hb : c.code = cc) (hl : l.stackTraces = false) (hown : s.vm.findClass RX4 = some m.cls) (hk : (Cond.classLink RX4 ik "java/lang/IndexOutOfBoundsException").before args s = true) (hini : (Cond.initialized "java/lang/IndexOutOfBoundsException").before args s = true)
    (ht : ∀ w ∈ ds_all, w.before args s = true) (hK : ds_K D cI cL s) (htx : (is, text) ∈ ds_tx) (hZ : ds_Z A s s.heap) (hP : va_P D vwCl ws H) (hS : va_S A s.heap H locs) (hsize : ls.size = c.maxLocals)
    (d0 : decode cc pc = .ok (.new ik, 3)) (d3 : decode cc (pc + 3) = .ok (.dup, 1)) (d4 : decode cc (pc + 4) = .ok (.ldc is, 2)) (d6 : decode cc (pc + 6) = .ok (.invokespecial 115, 3)) (d9 : decode cc (pc + 9) = .ok (.athrow, 1))
    (hno : ∀ x ∈ c.exceptionTable.toList, False) (hlocks : meth.locks = false) (hRframes : 5 < R.frames) (hRlocals : (rest.map fun v => v.category).sum + 82 ≤ R.locals) (hRcells : cells + 1 ≤ R.cells) (hRslots : slots + 6 ≤ R.slots) (hc : cells + 1 ≤ mc) (hs : slots + 6 ≤ ms) (hpx : px "java/lang/IndexOutOfBoundsException") :
    W p l e R s m args below meth c H locs cells slots (vx_MQ below Qc (ds_X D px ws A) args s mc ms A) (F0 m pc ls rest) := by
  obtain ⟨sa, hstr⟩ := hK.2.2.2.2.1 _ htx
  refine vx_throwS (own := RX4) (cls := "java/lang/IndexOutOfBoundsException") (names := ["java/lang/RuntimeException", "java/lang/Exception"]) (ic := 115) (A := A) hexec hb hl hown (by decide +kernel) (by decide +kernel) hk hini hstr
    (vx_hat (B := .castable "java/lang/IndexOutOfBoundsException" "java/lang/IndexOutOfBoundsException" :: ds_nD.map Cond.declares) (fun w h => ht w (inA_xO w h)) (by decide +kernel) (fun w h => ?_)) (ds_otO ik) hZ.1 hZ.2 hS hsize d0 d3 d4 d6 d9 (fun x h => (hno x h).elim) hRframes hRlocals hRcells hRslots hlocks ?_ hS.2.2 hc hs
  · rcases List.mem_cons.mp h with rfl | h
    rotate_left
    · obtain ⟨y9, hy9, rfl⟩ := List.mem_map.mp h
      exact va_Nw.use rfl (hK.2.2.2.2.2.2 y9 hy9)
    exact va_Nw.use rfl (hK.2.2.2.1 ("java/lang/IndexOutOfBoundsException", "java/lang/IndexOutOfBoundsException") (List.mem_cons_of_mem _ List.mem_cons_self))
  · intro t _ h1 h2
    refine ⟨(), trivial, ⟨hpx, hP.kept (fun k q hq => h2 q.1 (hP k q hq).lt)⟩, ?_⟩
    exact ⟨Nat.le_trans hS.1 h1, fun q hq hn => (h2 q (Nat.lt_of_lt_of_le hq hS.1)).trans (hS.2.1 q hq hn)⟩
end DST
end
section
/-! ===== the sums of the document, as numbers of 32 and 64 bits ===== -/
/-- the sum of n octets from p on -/
def su_A (f : Nat → Int32) (p : Nat) : Nat → Int32
  | 0 => 0
  | n + 1 => su_A f p n + f (p + n)
/-- .. each as often as octets stand from it to the end -/
def su_B (f : Nat → Int32) (p : Nat) : Nat → Int32
  | 0 => 0
  | n + 1 => su_B f p n + su_A f p (n + 1)
/-- WEAK out of both -/
def su_J (a b : Int32) : Int32 := (a &&& 65535) + 65536 * (b &&& 65535)
def su_W (f : Nat → Int32) (p n : Nat) : Int32 := su_J (su_A f p n) (su_B f p n)
/-- STRONG -/
def su_S (f : Nat → Int32) (p : Nat) : Nat → Int64
  | 0 => -3750763034362895579
  | n + 1 => (su_S f p n ^^^ (f (p + n)).toInt64) * 1099511628211
/-- the sum with weights that count down from n, over the first k -/
def su_C (f : Nat → Int32) (p n : Nat) : Nat → Int32
  | 0 => 0
  | k + 1 => su_C f p n k + nI (n - k) * f (p + k)
theorem su_C_B (f : Nat → Int32) (p n : Nat) : ∀ k, k ≤ n → su_C f p n k = su_B f p k + nI (n - k) * su_A f p k
  | 0, _ => by
    show (0 : Int32) = 0 + nI (n - 0) * 0
    grind
  | k + 1, h => by
    have ih := su_C_B f p n k (by omega)
    have e1 : nI (n - k) = nI (n - (k + 1)) + 1 := by rw [show n - k = (n - (k + 1)) + 1 by omega, nI_succ]
    show su_C f p n k + nI (n - k) * f (p + k) = su_B f p k + su_A f p (k + 1) + nI (n - (k + 1)) * su_A f p (k + 1)
    rw [ih, e1]
    show _ = su_B f p k + (su_A f p k + f (p + k)) + nI (n - (k + 1)) * (su_A f p k + f (p + k))
    grind
theorem su_C_n (f : Nat → Int32) (p n : Nat) : su_C f p n n = su_B f p n := by
  rw [su_C_B f p n n (Nat.le_refl n), Nat.sub_self]
  show su_B f p n + nI 0 * su_A f p n = su_B f p n
  rw [nI_0]
  grind
/-- a window that goes on by one -/
theorem su_A_roll (f : Nat → Int32) (p : Nat) : ∀ n, su_A f (p + 1) n = su_A f p n + (f (p + n) - f p)
  | 0 => by
    show (0 : Int32) = 0 + (f (p + 0) - f p)
    rw [Nat.add_zero]
    grind
  | n + 1 => by
    show su_A f (p + 1) n + f (p + 1 + n) = su_A f p n + f (p + n) + (f (p + (n + 1)) - f p)
    rw [su_A_roll f p n, show p + 1 + n = p + (n + 1) by omega]
    grind
theorem su_B_roll (f : Nat → Int32) (p : Nat) : ∀ n, su_B f (p + 1) n = su_B f p n + (su_A f (p + 1) n - nI n * f p)
  | 0 => by
    show (0 : Int32) = 0 + (0 - nI 0 * f p)
    rw [nI_0]
    grind
  | n + 1 => by
    show su_B f (p + 1) n + su_A f (p + 1) (n + 1) = su_B f p n + su_A f p (n + 1) + (su_A f (p + 1) (n + 1) - nI (n + 1) * f p)
    have h1 := su_A_roll f p n
    have h2 := su_A_roll f p (n + 1)
    have h3 : su_A f p (n + 1) = su_A f p n + f (p + n) := rfl
    rw [su_B_roll f p n, nI_succ]
    grind
theorem su_A_congr {f g : Nat → Int32} (p : Nat) : ∀ n, (∀ j, j < n → f (p + j) = g (p + j)) → su_A f p n = su_A g p n
  | 0, _ => rfl
  | n + 1, h => by
    show su_A f p n + f (p + n) = su_A g p n + g (p + n)
    rw [su_A_congr p n (fun j hj => h j (by omega)), h n (by omega)]
theorem su_B_congr {f g : Nat → Int32} (p : Nat) : ∀ n, (∀ j, j < n → f (p + j) = g (p + j)) → su_B f p n = su_B g p n
  | 0, _ => rfl
  | n + 1, h => by
    show su_B f p n + su_A f p (n + 1) = su_B g p n + su_A g p (n + 1)
    rw [su_B_congr p n (fun j hj => h j (by omega)), su_A_congr p (n + 1) h]
theorem su_S_congr {f g : Nat → Int32} (p : Nat) : ∀ n, (∀ j, j < n → f (p + j) = g (p + j)) → su_S f p n = su_S g p n
  | 0, _ => rfl
  | n + 1, h => by
    show (su_S f p n ^^^ (f (p + n)).toInt64) * 1099511628211 = (su_S g p n ^^^ (g (p + n)).toInt64) * 1099511628211
    rw [su_S_congr p n (fun j hj => h j (by omega)), h n (by omega)]

def rz (f : Nat → Int32) (n k : Nat) : Nat → Int32 := fun j => if n ≤ j ∧ j < k then 0 else f j
theorem rz_0 {f : Nat → Int32} {n : Nat} : rz f n n = f := by
  funext j
  show (if n ≤ j ∧ j < n then 0 else f j) = f j
  rw [if_neg (by omega)]
theorem rz_s {f : Nat → Int32} {n i : Nat} (h : n ≤ i) : rz f n (i + 1) = upd (rz f n i) i (nI 0) := by
  funext j
  show (if n ≤ j ∧ j < i + 1 then 0 else f j) = if j = i then nI 0 else (if n ≤ j ∧ j < i then 0 else f j)
  by_cases e : j = i
  · rw [if_pos (by omega), if_pos e, nI_0]
  · rw [if_neg e]
    by_cases e2 : n ≤ j ∧ j < i
    · rw [if_pos e2, if_pos (by omega)]
    · rw [if_neg e2, if_neg (by omega)]
theorem rz_e {f : Nat → Int32} {n k i : Nat} (h1 : n ≤ i) (h2 : k ≤ i) (h3 : i ≤ n ∨ i ≤ k) : rz f n k = rz f n i := by
  funext j
  show (if n ≤ j ∧ j < k then 0 else f j) = (if n ≤ j ∧ j < i then 0 else f j)
  by_cases e2 : n ≤ j ∧ j < k
  · rw [if_pos e2, if_pos (by omega)]
  · rw [if_neg e2, if_neg (by omega)]
def ds_oct (v : Int64) (i : Nat) : Int32 := (v.toUInt64 >>> ((nI (56 - 8 * i)).toInt64.toUInt64 &&& Int64.toUInt64 63)).toInt64.toInt32 &&& nI 255
def wr (f : Nat → Int32) (q : Nat) (v : Int64) (i : Nat) : Nat → Int32 := fun j => if q ≤ j ∧ j < q + i then ds_oct v (j - q) else f j
theorem wr_0 {f : Nat → Int32} {q : Nat} {v : Int64} : wr f q v 0 = f := by
  funext j
  show (if q ≤ j ∧ j < q + 0 then ds_oct v (j - q) else f j) = f j
  rw [if_neg (by omega)]
theorem wr_s {f : Nat → Int32} {q i : Nat} {v : Int64} : wr f q v (i + 1) = upd (wr f q v i) (q + i) (ds_oct v i) := by
  funext j
  show (if q ≤ j ∧ j < q + (i + 1) then ds_oct v (j - q) else f j) = if j = q + i then ds_oct v i else (if q ≤ j ∧ j < q + i then ds_oct v (j - q) else f j)
  by_cases e : j = q + i
  · rw [if_pos (by omega), if_pos e, show j - q = i by omega]
  · rw [if_neg e]
    by_cases e2 : q ≤ j ∧ j < q + i
    · rw [if_pos e2, if_pos (by omega)]
    · rw [if_neg e2, if_neg (by omega)]
def tk_add (fk ff fl : Nat → Int32) (c : Nat) (kd nb : Int32) : (Nat → Int32) × (Nat → Int32) × (Nat → Int32) × Nat :=
  if 0 < c ∧ fk (c - 1) = kd ∧ ff (c - 1) + fl (c - 1) = nb then (fk, ff, upd fl (c - 1) (fl (c - 1) + nI 1), c) else (upd fk c kd, upd ff c nb, upd fl c (nI 1), c + 1)
def bn (n s : Nat) : Nat := (n + s - 1) / s
def bL (n s : Nat) : Nat := if bn n s = 0 then 0 else n - (bn n s - 1) * s
def bl (n s i : Nat) : Nat := if i + 1 = bn n s then bL n s else s
theorem bn_lt {n s i : Nat} (h0 : 0 < s) (h : i < bn n s) : i * s < n := by
  have h1 : (i + 1) * s ≤ n + s - 1 := (Nat.le_div_iff_mul_le h0).mp h
  rw [Nat.add_mul, Nat.one_mul] at h1
  omega
theorem bn_up {n s : Nat} (h0 : 0 < s) : n ≤ bn n s * s := by
  have h1 : n + s - 1 < ((n + s - 1) / s + 1) * s := Nat.lt_mul_of_div_lt (Nat.lt_succ_self _) h0
  rw [Nat.add_mul, Nat.one_mul] at h1
  show n ≤ (n + s - 1) / s * s
  omega
theorem bn_pos {n s : Nat} (h0 : 0 < s) (h : 0 < n) : 0 < bn n s := by
  have := bn_up (n := n) h0
  rcases Nat.eq_zero_or_pos (bn n s) with e | e
  · rw [e, Nat.zero_mul] at this
    omega
  · exact e
theorem bn_300 {n s : Nat} (h : n ≤ 1200) (h4 : 4 ≤ s) : bn n s ≤ 300 := by
  rcases Nat.lt_or_ge 300 (bn n s) with e | e
  · have h1 := bn_lt (by omega) e
    have h2 : 300 * 4 ≤ 300 * s := Nat.mul_le_mul_left 300 h4
    omega
  · exact e
theorem bl_in {n s i : Nat} (h0 : 0 < s) (h : i < bn n s) : i * s + bl n s i ≤ n ∧ 0 < bl n s i := by
  have h1 := bn_lt h0 h
  unfold bl
  by_cases e : i + 1 = bn n s
  · rw [if_pos e, bL, if_neg (by omega), show bn n s - 1 = i by omega]
    omega
  · rw [if_neg e]
    have h2 := bn_lt (i := i + 1) h0 (by omega)
    rw [Nat.add_mul, Nat.one_mul] at h2
    omega
theorem bL_le {n s : Nat} (h0 : 0 < s) : bL n s ≤ s := by
  unfold bL
  by_cases e : bn n s = 0
  · rw [if_pos e]
    omega
  · rw [if_neg e]
    have h1 := bn_up (n := n) h0
    have h2 : bn n s * s = (bn n s - 1) * s + s := by
      have h3 : bn n s = (bn n s - 1) + 1 := by omega
      calc bn n s * s = ((bn n s - 1) + 1) * s := by rw [← h3]
        _ = (bn n s - 1) * s + s := by rw [Nat.add_mul, Nat.one_mul]
    omega
theorem bl_last {n s i : Nat} (h : i + 1 = bn n s) : bl n s i = n - i * s := by
  unfold bl
  rw [if_pos h, bL, if_neg (by omega), show bn n s - 1 = i by omega]
/-- a window: its sums belong to its place, where it is inside -/
def dw_I (f : Nat → Int32) (n z : Nat) (ins pl a b : Int32) : Prop := ins = 0 ∨ (ins = 1 ∧ ∃ q, pl = nI q ∧ q + z ≤ n ∧ a = su_A f q z ∧ b = su_B f q z)
def dw_S (f : Nat → Int32) (z p : Nat) (ks : Int32) (st : Int64) : Prop := ks = 0 ∨ (ks = 1 ∧ st = su_S f p z)
theorem ds_sublt {n z p : Nat} (hn : n ≤ 1200) (hz : z ≤ 1200) (hp : p < 2 ^ 31) : nI n - nI z < nI p ↔ n < p + z := by
  rw [Int32.lt_iff_toInt_lt, pk_sub_toInt (by omega) (by omega), nI_toInt (by omega)]
  omega
theorem cut_s {gw : Nat → Int32} {gs : Nat → Int64} {f : Nat → Int32} {n k i : Nat} (hv : ∀ j, j < i → gw j = su_W f (j * k) (bl n k j) ∧ gs j = su_S f (j * k) (bl n k j)) :
    ∀ j, j < i + 1 → upd gw i (su_W f (i * k) (bl n k i)) j = su_W f (j * k) (bl n k j) ∧ vp_updL gs i (su_S f (i * k) (bl n k i)) j = su_S f (j * k) (bl n k j) := by
  intro j hj
  by_cases e : j = i
  · subst e
    exact ⟨pk_us, pk_uLs⟩
  · rw [pk_un e, pk_uLn e]
    exact hv j (by omega)
theorem ds_nm1 {b : Nat} (h : b < 2 ^ 31) : ¬ nI b = -1 := fun e => nI_pos h (by rw [e]; decide)
def dw_P (f : Nat → Int32) (n z p : Nat) (ins wk : Int32) : Prop := (p + z ≤ n ∧ ins = 1 ∧ wk = su_W f p z) ∨ (n < p + z ∧ ins = 0)
abbrev ft (fo fn : Nat → Int32) (ln : Nat) (mk : Int64) (q p k : Nat) : Prop := p + k ≤ ln ∧ su_W fn p k = su_W fo q k ∧ (su_S fn p k ^^^ su_S fo q k) &&& mk = 0
theorem dw_P.sh {f : Nat → Int32} {n z p : Nat} {ins wk : Int32} (h : dw_P f n z p ins wk) (hn : n ≤ 1200) : ins = 0 ∨ (ins = 1 ∧ p + z ≤ 1200) := by
  rcases h with h | h
  · exact Or.inr ⟨h.2.1, by omega⟩
  · exact Or.inl h.2
theorem dw_P.ft {fo f : Nat → Int32} {n z p q : Nat} {ins wk wv : Int32} {sv mk : Int64} (h : dw_P f n z p ins wk) (h1 : wv = su_W fo q z) (h2 : sv = su_S fo q z) : (ins = 1 ∧ wk = wv ∧ (su_S f p z ^^^ sv) &&& mk = 0) ↔ ft fo f n mk q p z := by
  subst h1 h2
  rcases h with ⟨h3, h4, h5⟩ | ⟨h3, h4⟩
  · subst h4 h5
    exact ⟨fun k => ⟨h3, k.2.1, k.2.2⟩, fun k => ⟨rfl, k.2.1, k.2.2⟩⟩
  · subst h4
    exact ⟨fun k => absurd k.1 (by decide), fun k => absurd k.1 (by omega)⟩
def fb (fo fn : Nat → Int32) (lo ln s : Nat) (mk : Int64) (p b : Nat) : Bool := decide (ft fo fn ln mk (b * s) p (bl lo s b))
def oI : Option Nat → Int32
  | none => -1
  | some b => nI b
def fsN (P : Nat → Bool) : Nat → Nat → Option Nat
  | _, 0 => none
  | i, k + 1 => if P i = true then some i else fsN P (i + 1) k
def pick (P : Nat → Bool) (n : Nat) : Option Nat → Option Nat
  | none => fsN P 0 n
  | some b => if b + 1 < n ∧ P (b + 1) = true then some (b + 1) else fsN P 0 n
theorem fsN_yes {P : Nat → Bool} {i n : Nat} (h : i < n) (hp : P i = true) : fsN P i (n - i) = some i := by
  rw [show n - i = (n - (i + 1)) + 1 by omega]
  exact if_pos hp
theorem fsN_no {P : Nat → Bool} {i n : Nat} (h : i < n) (hp : ¬ P i = true) : fsN P i (n - i) = fsN P (i + 1) (n - (i + 1)) := by
  rw [show n - i = (n - (i + 1)) + 1 by omega]
  exact if_neg hp
theorem fsN_end {P : Nat → Bool} {i n : Nat} (h : n ≤ i) : fsN P i (n - i) = none := by
  rw [show n - i = 0 by omega]
  rfl
theorem fsN_lt {P : Nat → Bool} : ∀ (k i b : Nat), fsN P i k = some b → b < i + k ∧ P b = true
  | 0, _, _, h => by cases h
  | k + 1, i, b, h => by
    by_cases e : P i = true
    · rw [show fsN P i (k + 1) = some i from if_pos e] at h
      cases h
      exact ⟨by omega, e⟩
    · rw [show fsN P i (k + 1) = fsN P (i + 1) k from if_neg e] at h
      have := fsN_lt k (i + 1) b h
      exact ⟨by omega, this.2⟩
theorem pick_lt {P : Nat → Bool} {n b : Nat} {bf : Option Nat} (h : pick P n bf = some b) : b < n ∧ P b = true := by
  have key : fsN P 0 n = some b → b < n ∧ P b = true := fun h => by
    have := fsN_lt n 0 b h
    exact ⟨by omega, this.2⟩
  rcases bf with _ | b0
  · exact key h
  · by_cases e : b0 + 1 < n ∧ P (b0 + 1) = true
    · rw [show pick P n (some b0) = some (b0 + 1) from if_pos e] at h
      cases h
      exact e
    · rw [show pick P n (some b0) = fsN P 0 n from if_neg e] at h
      exact key h
def ds_mask (b : Nat) : Int64 := if b = 64 then -1 else 1 <<< ((nI b).toInt64 &&& 63) - 1
theorem fb_no {P : Prop} {r : Int32} (h : (r = 1 ∧ P) ∨ (r = 0 ∧ ¬ P)) : narrow .boolean (.int r) = .int r := by
  rcases h with ⟨rfl, _⟩ | ⟨rfl, _⟩ <;> rfl
theorem ds_cv {r : Int32} {X Y : Prop} (h : X ↔ Y) (hp : (r = 1 ∧ X) ∨ (r = 0 ∧ ¬ X)) : (r = 1 ∧ Y) ∨ (r = 0 ∧ ¬ Y) := hp.imp (fun z => ⟨z.1, h.mp z.2⟩) (fun z => ⟨z.1, fun y => z.2 (h.mpr y)⟩)
theorem mv_P {f : Nat → Int32} {n z q : Nat} {u : Int32 × Int32 × Int32 × Int32} (h : (q + z ≤ n ∧ u.1 = 1 ∧ u.2.1 = su_A f q z ∧ u.2.2.1 = su_B f q z ∧ u.2.2.2 = su_W f q z) ∨ (n < q + z ∧ u.1 = 0)) : dw_P f n z q u.1 u.2.2.2 :=
  h.imp (fun k => ⟨k.1, k.2.1, k.2.2.2.2⟩) id
theorem mv_I {f : Nat → Int32} {n z q : Nat} {u : Int32 × Int32 × Int32 × Int32} (h : (q + z ≤ n ∧ u.1 = 1 ∧ u.2.1 = su_A f q z ∧ u.2.2.1 = su_B f q z ∧ u.2.2.2 = su_W f q z) ∨ (n < q + z ∧ u.1 = 0)) : dw_I f n z u.1 (nI q) u.2.1 u.2.2.1 :=
  h.elim (fun k => Or.inr ⟨k.2.1, q, rfl, k.1, k.2.2.1, k.2.2.2.1⟩) (fun k => Or.inl k.2)
abbrev dl_T : Type := Nat × Option Nat × ((Nat → Int32) × (Nat → Int32) × (Nat → Int32) × Nat) × (Nat → Int32)
def dl_step (fo fn : Nat → Int32) (lo ln s : Nat) (mk : Int64) (t : dl_T) : dl_T :=
  match pick (fb fo fn lo ln s mk t.1) (bn lo s) t.2.1 with
  | none => (t.1 + 1, none, tk_add t.2.2.1.1 t.2.2.1.2.1 t.2.2.1.2.2.1 t.2.2.1.2.2.2 (nI 1) (nI t.1), va_cpy fn t.2.2.2 t.1 t.1 1)
  | some b => (t.1 + bl lo s b, some b, tk_add t.2.2.1.1 t.2.2.1.2.1 t.2.2.1.2.2.1 t.2.2.1.2.2.2 (nI 0) (nI b), va_cpy fo t.2.2.2 (b * s) t.1 (bl lo s b))
def dl (fo fn : Nat → Int32) (lo ln s : Nat) (mk : Int64) : Nat → dl_T → dl_T
  | 0, t => t
  | k + 1, t => if t.1 < ln then dl fo fn lo ln s mk k (dl_step fo fn lo ln s mk t) else t
theorem dl_end {fo fn : Nat → Int32} {lo ln s : Nat} {mk : Int64} {t : dl_T} (h : ln ≤ t.1) : ∀ k, dl fo fn lo ln s mk k t = t
  | 0 => rfl
  | _ + 1 => if_neg (by omega)
theorem dl_go {fo fn : Nat → Int32} {lo ln s : Nat} {mk : Int64} {t : dl_T} {i : Nat} (h : t.1 < ln) (hi : i < 1200) : dl fo fn lo ln s mk (1200 - i) t = dl fo fn lo ln s mk (1200 - (i + 1)) (dl_step fo fn lo ln s mk t) := by
  rw [show 1200 - i = (1200 - (i + 1)) + 1 by omega]
  exact if_pos h
theorem dl_none {fo fn : Nat → Int32} {lo ln s : Nat} {mk : Int64} {p c : Nat} {bf : Option Nat} {fk ff fl fm : Nat → Int32} (h : pick (fb fo fn lo ln s mk p) (bn lo s) bf = none) :
    dl_step fo fn lo ln s mk (p, bf, (fk, ff, fl, c), fm) = (p + 1, none, tk_add fk ff fl c (nI 1) (nI p), va_cpy fn fm p p 1) := by
  unfold dl_step
  rw [show pick (fb fo fn lo ln s mk ((p, bf, (fk, ff, fl, c), fm) : dl_T).1) (bn lo s) ((p, bf, (fk, ff, fl, c), fm) : dl_T).2.1 = none from h]
theorem dl_some {fo fn : Nat → Int32} {lo ln s : Nat} {mk : Int64} {p c b : Nat} {bf : Option Nat} {fk ff fl fm : Nat → Int32} (h : pick (fb fo fn lo ln s mk p) (bn lo s) bf = some b) :
    dl_step fo fn lo ln s mk (p, bf, (fk, ff, fl, c), fm) = (p + bl lo s b, some b, tk_add fk ff fl c (nI 0) (nI b), va_cpy fo fm (b * s) p (bl lo s b)) := by
  unfold dl_step
  rw [show pick (fb fo fn lo ln s mk ((p, bf, (fk, ff, fl, c), fm) : dl_T).1) (bn lo s) ((p, bf, (fk, ff, fl, c), fm) : dl_T).2.1 = some b from h]
theorem tk_add_c {fk ff fl : Nat → Int32} {c : Nat} {kd nb : Int32} : (tk_add fk ff fl c kd nb).2.2.2 ≤ c + 1 := by
  unfold tk_add
  by_cases h : 0 < c ∧ fk (c - 1) = kd ∧ ff (c - 1) + fl (c - 1) = nb
  · rw [if_pos h]
    exact Nat.le_succ c
  · rw [if_neg h]
    exact Nat.le_refl _
theorem bl_min {n s i : Nat} (h0 : 0 < s) (h : i < bn n s) : (if n - i * s < s then n - i * s else s) = bl n s i := by
  have h1 := bn_lt h0 h
  by_cases e : i + 1 = bn n s
  · rw [bl_last e]
    have h2 := bL_le (n := n) h0
    have h3 : bL n s = n - i * s := by
      have := bl_last e
      rw [← this]
      exact (if_pos e).symm
    by_cases e2 : n - i * s < s
    · rw [if_pos e2]
    · rw [if_neg e2]
      omega
  · have h2 := bn_lt (i := i + 1) h0 (by omega)
    rw [Nat.add_mul, Nat.one_mul] at h2
    rw [if_neg (by omega), bl, if_neg e]
theorem bl_minI {n s i : Nat} (h0 : 0 < s) (hs : s ≤ 256) (hn : n ≤ 1200) (h : i < bn n s) : (if nI (n - i * s) < nI s then nI (n - i * s) else nI s) = nI (bl n s i) := by
  rw [← bl_min h0 h]
  by_cases e : n - i * s < s
  · rw [if_pos e, if_pos ((nI_ltI (by omega) (by omega)).mpr e)]
  · rw [if_neg e, if_neg (fun z => e ((nI_ltI (by omega) (by omega)).mp z))]
def snt (fk fl : Nat → Int32) : Nat → Int32
  | 0 => 0
  | k + 1 => snt fk fl k + (if fk k = 0 then nI 5 else nI 3 + fl k)
end
