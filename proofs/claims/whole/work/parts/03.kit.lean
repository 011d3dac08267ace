/-! ===== one shape of contract for every method: rows of mine over the kit of worlds ===== -/
theorem ds_fm {α β : Type} (f : α → Option β) : ∀ (l : List α) (w : List β), l.map f = w.map some → l.filterMap f = w
  | [], [], _ => rfl
  | [], _ :: _, h => by cases h
  | _ :: _, [], h => by cases h
  | a :: l, b :: w, h => by
    simp only [List.map_cons, List.cons.injEq] at h
    rw [List.filterMap_cons, h.1, ds_fm f l w h.2]
def ds_isN : Cond → Bool
  | .fieldLinkNest .. => true
  | .methodLinkNest .. => true
  | .castable .. => true
  | .declares .. => true
  | _ => false
theorem ds_isN_warm {w : Cond} {s U : State} (h : ds_isN w = true) (hW : s.WarmedH U.vm) (hZ : va_Nw w s) : va_Nw w U := by
  cases w <;> first | exact va_Nw.warmF hW hZ | exact va_Nw.warmM hW hZ | exact va_Nw.warmC hW hZ | exact va_Nw.warmD hW hZ | cases h
theorem ds_isN_tab {w : Cond} (h : ds_isN w = true) : w.onTables = true := by
  cases w <;> first | rfl | cases h
theorem ds_nW_ok : ∀ w ∈ ds_nW, ds_isN w = true := by decide +kernel
/-- what the tables say for ever: the kinds of objects, the two kinds of arrays, the nest mates' links, the texts -/
def ds_K (D : va_G) (cI cL : ClassId) (U : State) : Prop :=
  va_K D vwCl [(cI, .int), (cL, .long)] U ∧ (∀ w ∈ ds_nW, va_Nw w U) ∧ (∀ q ∈ ds_tx, ∃ a, vk_R RX4 q.1 q.2 a U) ∧ va_Nc "java/lang/IndexOutOfBoundsException" "java/lang/IllegalArgumentException" U
theorem ds_K.warm {D : va_G} {cI cL : ClassId} {s U : State} (hW : s.WarmedH U.vm) (h : ds_K D cI cL s) : ds_K D cI cL U :=
  ⟨va_K.moved hW.alike h.1, fun w hw => ds_isN_warm (ds_nW_ok w hw) hW (h.2.1 w hw), fun q hq => by obtain ⟨a, ha⟩ := h.2.2.1 q hq; exact ⟨a, vk_R.warm hW ha⟩, va_Nc.moved hW.alike h.2.2.2⟩
theorem ds_K.same {D : va_G} {cI cL : ClassId} {u U : State} (hv : u.vm = U.vm) (h : ds_K D cI cL u) : ds_K D cI cL U :=
  ⟨va_K.moved (by rw [hv]; exact Vm.Alike.refl _) h.1, fun w hw => va_Nw.same (ds_isN_tab (ds_nW_ok w hw)) hv (h.2.1 w hw), fun q hq => by obtain ⟨a, ha⟩ := h.2.2.1 q hq; exact ⟨a, vk_R.same hv.symm ha⟩, va_Nc.moved (by rw [hv]; exact Vm.Alike.refl _) h.2.2.2⟩
/-- the two statics that a throw reads, in a heap of which A may change -/
def ds_Z (A : Nat → Prop) (U : State) (H : Heap) : Prop := vx_Zq Bundle.tN "UNASSIGNED_STACK" Bundle.steD A U H ∧ vx_Zq Bundle.tN "SUPPRESSED_SENTINEL" Bundle.listD A U H
theorem ds_Z.go {A B : Nat → Prop} {s U : State} {H : Heap} {locs : List Loc} (h : ds_Z A s s.heap) (hS : va_S A s.heap H locs) (hB : ∀ q, B q → A q) (hW : s.WarmedH U.vm) (hU : U.heap = H) : ds_Z B U U.heap := by
  rw [hU]
  exact ⟨vx_Zq.moved hW.alike ((vx_Zq.kept h.1 hS.2.1).narrow hB), vx_Zq.moved hW.alike ((vx_Zq.kept h.2 hS.2.1).narrow hB)⟩
theorem ds_Z.same {A : Nat → Prop} {u U : State} {H : Heap} (hv : u.vm = U.vm) (h : ds_Z A u H) : ds_Z A U H :=
  ⟨vx_Zq.moved (by rw [hv]; exact Vm.Alike.refl _) h.1, vx_Zq.moved (by rw [hv]; exact Vm.Alike.refl _) h.2⟩
/-- a method's start; one that may throw has the statics beside it -/
def ds_P (D : va_G) (cI cL : ClassId) (av : List Value) (w : va_W) (sz : Nat) : Array Value → State → Prop :=
  va_Pc av (fun U => U.heap.size = sz ∧ va_P D vwCl w U.heap ∧ ds_K D cI cL U ∧ va_D (fun _ => True) w)
def ds_PX (D : va_G) (cI cL : ClassId) (av : List Value) (w : va_W) (sz : Nat) : Array Value → State → Prop :=
  va_Pc av (fun U => U.heap.size = sz ∧ va_P D vwCl w U.heap ∧ ds_K D cI cL U ∧ va_D (fun _ => True) w ∧ ds_Z (va_A w sz) U U.heap)
theorem ds_P.blind {D : va_G} {cI cL : ClassId} {av : List Value} {w : va_W} {sz : Nat} : FrameBlind (ds_P D cI cL av w sz) := fun a U g mk h => by
  obtain ⟨h0, h1, h2, h3, h4⟩ := h
  exact ⟨h0, h1, h2, ds_K.same (u := U) (U := U.calling g mk a) rfl h3, h4⟩
theorem ds_PX.blind {D : va_G} {cI cL : ClassId} {av : List Value} {w : va_W} {sz : Nat} : FrameBlind (ds_PX D cI cL av w sz) := fun a U g mk h => by
  obtain ⟨h0, h1, h2, h3, h4, h5⟩ := h
  exact ⟨h0, h1, h2, ds_K.same (u := U) (U := U.calling g mk a) rfl h3, h4, ds_Z.same (u := U) (U := U.calling g mk a) rfl h5⟩
theorem ds_pS {D : va_G} {cI cL : ClassId} {av : List Value} {w : va_W} {A : Nat → Prop} {s : State} {H : Heap} (hP : va_P D vwCl w H) (hD : va_D A w) (hK : ds_K D cI cL s) : PreS s H (ds_P D cI cL av w H.size) av :=
  ⟨ds_P.blind, fun U hU hW => ⟨rfl, by rw [hU], by rw [hU]; exact hP, hK.warm hW, hD.weaken (fun _ _ _ _ => trivial)⟩⟩
theorem ds_pV {D : va_G} {cI cL : ClassId} {As : List Value} {w : va_W} {A : Nat → Prop} {s : State} {H : Heap} {b q0 ci : Nat} {q : vw_C} {fs : List Value} (hP : va_P D vwCl w H) (hD : va_D A w) (hK : ds_K D cI cL s) (he : w[q0]? = some (b, .inr (ci, fs))) (hc : vwCl[ci]? = some q) : PreV s H q.1 b (ds_P D cI cL (.ref b :: As) w H.size) As :=
  ⟨ds_P.blind, va_recv hK.1 hP hc he, fun U hU hW => ⟨rfl, by rw [hU], by rw [hU]; exact hP, hK.warm hW, hD.weaken (fun _ _ _ _ => trivial)⟩⟩
theorem ds_pSX {D : va_G} {cI cL : ClassId} {av : List Value} {w ws : va_W} {A : Nat → Prop} {s : State} {H : Heap} {locs : List Loc} (hP : va_P D vwCl w H) (hD : va_D A w) (hK : ds_K D cI cL s) (hZ : ds_Z A s s.heap) (hS : va_S A s.heap H locs) (hF : ∀ q, va_A w H.size q → A q) : PreS s H (ds_PX D cI cL av w H.size) av :=
  ⟨ds_PX.blind, fun U hU hW => ⟨rfl, by rw [hU], by rw [hU]; exact hP, hK.warm hW, hD.weaken (fun _ _ _ _ => trivial), hZ.go hS hF hW hU⟩⟩
theorem ds_pVX {D : va_G} {cI cL : ClassId} {As : List Value} {w : va_W} {A : Nat → Prop} {s : State} {H : Heap} {locs : List Loc} {b q0 ci : Nat} {q : vw_C} {fs : List Value} (hP : va_P D vwCl w H) (hD : va_D A w) (hK : ds_K D cI cL s) (hZ : ds_Z A s s.heap) (hS : va_S A s.heap H locs) (hF : ∀ q, va_A w H.size q → A q) (he : w[q0]? = some (b, .inr (ci, fs))) (hc : vwCl[ci]? = some q) : PreV s H q.1 b (ds_PX D cI cL (.ref b :: As) w H.size) As :=
  ⟨ds_PX.blind, va_recv hK.1 hP hc he, fun U hU hW => ⟨rfl, by rw [hU], by rw [hU]; exact hP, hK.warm hW, hD.weaken (fun _ _ _ _ => trivial), hZ.go hS hF hW hU⟩⟩
/-- a method's end: the world behind it -/
abbrev ds_W {S : Type} (D : va_G) (wo : S → va_W) (A : Nat → Prop) : S → State → Prop := fun u t => va_P D vwCl (wo u) t.heap ∧ va_D A (wo u)
abbrev ds_Qi {S : Type} (D : va_G) (post : Int32 → S → Prop) (wo : S → va_W) (A : Nat → Prop) : Array Value → State → Outcome → State → Prop := va_Qi post (ds_W D wo A) A
abbrev ds_Ql {S : Type} (D : va_G) (post : Int64 → S → Prop) (wo : S → va_W) (A : Nat → Prop) : Array Value → State → Outcome → State → Prop := va_Ql post (ds_W D wo A) A
abbrev ds_Qv {S : Type} (D : va_G) (post : S → Prop) (wo : S → va_W) (A : Nat → Prop) : Array Value → State → Outcome → State → Prop := va_Qv post (ds_W D wo A) A
abbrev ds_Qr {S : Type} (D : va_G) (post : S → Nat → Prop) (wo : S → va_W) (A : Nat → Prop) : Array Value → State → Outcome → State → Prop := va_Qr (fun _ : S => True) (fun u a t => post u a ∧ va_P D vwCl (wo u) t.heap ∧ va_D A (wo u)) A
/-- .. and where it throws: the class of what is thrown, the world as it was -/
abbrev ds_X (D : va_G) (px : String → Prop) (w : va_W) (A : Nat → Prop) : String → State → State → Prop := vx_X (fun _ : Unit => True) (fun E _ t => px E ∧ va_P D vwCl w t.heap) A
section DSE
variable {l : Launch} {y : MethodName} {ws : List Cond} {rm : Room} {cc : ByteArray} {maxL : Nat} {ret : Option FieldType} {D : va_G} {cI cL : ClassId} {av : List Value} {w : va_W} {sz mc ms : Nat}
theorem ds_enter {Qf : (Nat → Prop) → Array Value → State → Outcome → State → Prop} (hy : plainName y.cls = true) (hw : ws = Cond.code y cc maxL ret :: ds_all) (hlen : (lg_sl av).length ≤ maxL)
    (body : ∀ (p : Program) (e : Env) (s : State) (m : MethodId) (args : Array Value) (below : List Frame) (meth : Method) (c : Code), p.tables.exec = Jvm.exec → c.code = cc → c.maxLocals = maxL → meth.sig.returnType = ret →
      (∀ w ∈ ds_all, w.before args s = true) → s.vm.findClass y.cls = some m.cls → meth.locks = false → meth.name = y.name → ∀ (A : Nat → Prop) (H : Heap) (locs : List Loc), (∀ q : Nat, s.heap.size ≤ q → A q) → va_P D vwCl w H → va_D A w → va_S A s.heap H locs → ds_K D cI cL s →
      ∀ ls : Array Slot, lv_has ls maxL (lv_args 0 av) → W p l e rm s m args below meth c H locs 0 0 (MQ below (Qf A) args s mc ms A) (F0 m 0 ls [])) :
    Met l y ws rm (ds_P D cI cL av w sz) (Qf (va_A w sz)) mc ms (va_A w sz) := by
  refine Met.ofW (cc := cc) (maxL := maxL) (ret := ret) hy hw ?_
  intro p e s m args below meth c s₁ B hml hv
  obtain ⟨rfl, hsz, hP, hK, hD0⟩ := hv
  subst hsz
  have hts := atoms_spec (ws := ws) B.pre
  have hl := lv_entry av (n := maxL) hlen
  rw [lg_entry_eq]
  exact body p e s m _ below meth c B.exec B.bytes hml B.returns (fun w h => hts w (by rw [hw]; exact List.mem_cons_of_mem _ h)) (findClass_of_methodNamed B.named) B.notSynchronized (name_of_methodNamed B.named B.method).1 _ s.heap [] (fun q h => Or.inr h) hP hD0.self va_S.rf hK _ hl
theorem ds_enterX {Qf : (Nat → Prop) → Array Value → State → Outcome → State → Prop} {XC : (Nat → Prop) → String → State → State → Prop} (hy : plainName y.cls = true) (hw : ws = Cond.code y cc maxL ret :: ds_all) (hlen : (lg_sl av).length ≤ maxL)
    (body : ∀ (p : Program) (e : Env) (s : State) (m : MethodId) (args : Array Value) (below : List Frame) (meth : Method) (c : Code), p.tables.exec = Jvm.exec → c.code = cc → c.maxLocals = maxL → meth.sig.returnType = ret →
      (∀ w ∈ ds_all, w.before args s = true) → s.vm.findClass y.cls = some m.cls → meth.locks = false → meth.name = y.name → ∀ (A : Nat → Prop) (H : Heap) (locs : List Loc), (∀ q : Nat, s.heap.size ≤ q → A q) → va_P D vwCl w H → va_D A w → va_S A s.heap H locs → ds_K D cI cL s →
      ds_Z A s s.heap → (∀ x ∈ c.exceptionTable.toList, False) →
      ∀ ls : Array Slot, lv_has ls maxL (lv_args 0 av) → W p l e rm s m args below meth c H locs 0 0 (vx_MQ below (Qf A) (XC A) args s mc ms A) (F0 m 0 ls [])) :
    vx_Met l y ws rm (ds_PX D cI cL av w sz) (Qf (va_A w sz)) (XC (va_A w sz)) mc ms (va_A w sz) := by
  refine vx_ofW (cc := cc) (maxL := maxL) (ret := ret) hy hw ?_
  intro p e s m args below meth c s₁ B hml hno hv
  obtain ⟨rfl, hsz, hP, hK, hD0, hZ⟩ := hv
  subst hsz
  have hts := atoms_spec (ws := ws) B.pre
  have hl := lv_entry av (n := maxL) hlen
  rw [lg_entry_eq]
  exact body p e s m _ below meth c B.exec B.bytes hml B.returns (fun w h => hts w (by rw [hw]; exact List.mem_cons_of_mem _ h)) (findClass_of_methodNamed B.named) B.notSynchronized (name_of_methodNamed B.named B.method).1 _ s.heap [] (fun q h => Or.inr h) hP hD0.self va_S.rf hK hZ hno _ hl
theorem ds_enterW {Qf : (Nat → Prop) → Array Value → State → Outcome → State → Prop} {hh : List (Nat × Nat × Nat × Nat)} (hy : plainName y.cls = true) (hw : ws = Cond.codeWith y cc maxL ret hh :: ds_all) (hlen : (lg_sl av).length ≤ maxL)
    (body : ∀ (p : Program) (e : Env) (s : State) (m : MethodId) (args : Array Value) (below : List Frame) (meth : Method) (c : Code), p.tables.exec = Jvm.exec → c.code = cc → c.maxLocals = maxL → meth.sig.returnType = ret →
      (∀ w ∈ ds_all, w.before args s = true) → s.vm.findClass y.cls = some m.cls → meth.locks = false → meth.name = y.name → ∀ (A : Nat → Prop) (H : Heap) (locs : List Loc), (∀ q : Nat, s.heap.size ≤ q → A q) → va_P D vwCl w H → va_D A w → va_S A s.heap H locs → ds_K D cI cL s →
      ds_Z A s s.heap → c.exceptionTable.toList = tableOf hh →
      ∀ ls : Array Slot, lv_has ls maxL (lv_args 0 av) → W p l e rm s m args below meth c H locs 0 0 (MQ below (Qf A) args s mc ms A) (F0 m 0 ls [])) :
    Met l y ws rm (ds_PX D cI cL av w sz) (Qf (va_A w sz)) mc ms (va_A w sz) := by
  refine va_MetW (cc := cc) (maxL := maxL) (ret := ret) (hh := hh) hy hw ?_
  intro p e s m args below meth c s₁ B hml hv
  obtain ⟨rfl, hsz, hP, hK, hD0, hZ⟩ := hv
  subst hsz
  have hts := atoms_spec (ws := ws) B.pre
  have hl := lv_entry av (n := maxL) hlen
  rw [lg_entry_eq]
  exact body p e s m _ below meth c B.exec B.bytes hml B.returns (fun w h => hts w (by rw [hw]; exact List.mem_cons_of_mem _ h)) (findClass_of_methodNamed B.named) B.notSynchronized (name_of_methodNamed B.named B.method).1 _ s.heap [] (fun q h => Or.inr h) hP hD0.self va_S.rf hK hZ (vx_table (x := y) B (hts _ (by rw [hw]; exact List.mem_cons_self))) _ hl
end DSE
section DSR
variable {p : Program} {l : Launch} {e : Env} {R : Room} {s : State} {m : MethodId} {args : Array Value} {below : List Frame} {meth : Method} {c : Code} {H : Heap} {locs : List Loc} {cells slots : Nat} {Q : State → Prop}
variable {cc : ByteArray} {pc : Nat} {ls : Array Slot} {rest st0 : List Value} {D : va_G} {cI cL : ClassId} {A : Nat → Prop} {S : Type} {wo wn : S → va_W} {mc ms : Nat}
-- returns
theorem ds_iret {post : Int32 → S → Prop} {v : Int32} {ty : FieldType} (hexec : p.tables.exec = Jvm.exec) (hb : c.code = cc) (hr : meth.sig.returnType = some ty) (hlk : meth.locks = false) (hn : narrow ty (.int v) = .int v) (u : S) (hp : post v u) (hP : va_P D vwCl (wo u) H) (hD : va_D A (wo u)) (hS : va_S A s.heap H locs) (hc : cells ≤ mc) (hs : slots ≤ ms) (hdg : decode cc pc = .ok (.ireturn, 1)) :
    W p l e R s m args below meth c H locs cells slots (MQ below (ds_Qi D post wo A) args s mc ms A) (F0 m pc ls [.int v]) := by
  refine W.widen hc hs ?_
  exact W.zret hexec hb hr hn (fun t ht hW => ⟨⟨v, u, rfl, hp, by rw [ht]; exact hP, hD⟩, hS.F ht⟩) hS.2.2 hdg hlk
theorem ds_lret {post : Int64 → S → Prop} {v : Int64} (hexec : p.tables.exec = Jvm.exec) (hb : c.code = cc) (hr : meth.sig.returnType = some .long) (hlk : meth.locks = false) (u : S) (hp : post v u) (hP : va_P D vwCl (wo u) H) (hD : va_D A (wo u)) (hS : va_S A s.heap H locs) (hc : cells ≤ mc) (hs : slots ≤ ms) (hdg : decode cc pc = .ok (.lreturn, 1)) :
    W p l e R s m args below meth c H locs cells slots (MQ below (ds_Ql D post wo A) args s mc ms A) (F0 m pc ls [.long v]) := by
  refine W.widen hc hs ?_
  exact W.lret hexec hb hr (fun t ht hW => ⟨⟨v, u, rfl, hp, by rw [ht]; exact hP, hD⟩, hS.F ht⟩) hS.2.2 hdg hlk
theorem ds_vret {post : S → Prop} (hexec : p.tables.exec = Jvm.exec) (hb : c.code = cc) (hr : meth.sig.returnType = none) (hlk : meth.locks = false) (u : S) (hp : post u) (hP : va_P D vwCl (wo u) H) (hD : va_D A (wo u)) (hS : va_S A s.heap H locs) (hc : cells ≤ mc) (hs : slots ≤ ms) (hdg : decode cc pc = .ok (.return_, 1)) :
    W p l e R s m args below meth c H locs cells slots (MQ below (ds_Qv D post wo A) args s mc ms A) (F0 m pc ls []) := by
  refine W.widen hc hs ?_
  exact W.vret hexec hb hr (fun t ht hW => ⟨⟨u, rfl, hp, by rw [ht]; exact hP, hD⟩, hS.F ht⟩) hS.2.2 hdg hlk
theorem ds_aret {post : S → Nat → Prop} {a : Nat} {nm : String} (hexec : p.tables.exec = Jvm.exec) (hb : c.code = cc) (hr : meth.sig.returnType = some (.object nm)) (hlk : meth.locks = false) (u : S) (hp : post u a) (hP : va_P D vwCl (wo u) H) (hD : va_D A (wo u)) (hS : va_S A s.heap H locs) (hc : cells ≤ mc) (hs : slots ≤ ms) (hdg : decode cc pc = .ok (.areturn, 1)) :
    W p l e R s m args below meth c H locs cells slots (MQ below (ds_Qr D post wo A) args s mc ms A) (F0 m pc ls [.ref a]) := by
  refine W.widen hc hs ?_
  exact W.aret hexec hb hr (Or.inl ⟨nm, rfl⟩) (Or.inr ⟨a, rfl⟩) (fun t ht hW => ⟨⟨u, a, rfl, trivial, hp, by rw [ht]; exact hP, hD⟩, hS.F ht⟩) hS.2.2 hdg hlk
end DSR

section DSC
variable {p : Program} {l : Launch} {e : Env} {R : Room} {s : State} {m : MethodId} {args : Array Value} {below : List Frame} {meth : Method} {c : Code} {H : Heap} {locs : List Loc} {cells slots : Nat} {Q : State → Prop}
variable {cc : ByteArray} {pc : Nat} {ls : Array Slot} {rest st0 : List Value} {D : va_G} {cI cL : ClassId} {A : Nat → Prop} {S : Type} {wo wn : S → va_W} {mc ms : Nat} {ws wc wr : va_W} {a : Array Value}

/-- how a call cuts the world: the callee's places, the rest's places -/
def ds_C (ws wc wr : va_W) (isC isR : List Nat) : Prop := isC.map (fun i => ws[i]?) = wc.map some ∧ isR.map (fun i => ws[i]?) = wr.map some ∧ va_nd isC = true ∧ va_nd isR = true ∧ ∀ i ∈ isR, i ∉ isC
theorem ds_after {H1 : Heap} {u : S} {isC isR : List Nat} (hP : va_P D vwCl ws H) (hD : va_D A ws) (hC : ds_C ws wc wr isC isR) (isN : List Nat) (hn2 : va_nd isN = true) (hN : ∀ u, isN.map (fun i => (wr ++ wo u)[i]?) = (wn u).map some)
    (hk : ∀ q : Nat, q < H.size → ¬ va_A wc H.size q → H1[q]? = H[q]?) (hF : ∀ q, va_A wc H.size q → A q) (hP1 : va_P D vwCl (wo u) H1) (hD1 : va_D (va_A wc H.size) (wo u)) : va_P D vwCl (wn u) H1 ∧ va_D A (wn u) := by
  obtain ⟨hP2, hD2⟩ := va_join (wr := wr) hP hD isC isR hC.1 hC.2.1 hC.2.2.2.1 hC.2.2.2.2 hk hF hP1 hD1
  exact ⟨hP2.sub isN (ds_fm _ _ _ (hN u)), hD2.sub isN hn2 (hN u)⟩
theorem ds_same {H1 : Heap} {isC isR : List Nat} (hP : va_P D vwCl ws H) (hD : va_D A ws) (hC : ds_C ws wc wr isC isR) (isB : List Nat) (hB : isB.map (fun i => (wr ++ wc)[i]?) = ws.map some)
    (hk : ∀ q : Nat, q < H.size → ¬ va_A wc H.size q → H1[q]? = H[q]?) (hF : ∀ q, va_A wc H.size q → A q) (hP1 : va_P D vwCl wc H1) : va_P D vwCl ws H1 := by
  obtain ⟨hP2, -⟩ := va_join (wr := wr) hP hD isC isR hC.1 hC.2.1 hC.2.2.2.1 hC.2.2.2.2 hk hF hP1 (hD.sub isC hC.2.2.1 hC.1).self
  exact hP2.sub isB (ds_fm _ _ _ hB)

theorem ds_calli {post : Int32 → S → Prop} {isC isR : List Nat} (hP : va_P D vwCl ws H) (hD : va_D A ws) (hS : va_S A s.heap H locs) (hA : ∀ q : Nat, s.heap.size ≤ q → A q) (hC : ds_C ws wc wr isC isR) (isN : List Nat) (hn2 : va_nd isN = true) (hN : ∀ u, isN.map (fun i => (wr ++ wo u)[i]?) = (wn u).map some)
    (hr : va_P D vwCl wc H → va_D A wc → va_Run p l e R s m args below meth c H locs cells slots mc ms (F0 m pc ls st0) rest (ds_Qi D post wo (va_A wc H.size) a) (va_A wc H.size))
    (kk : ∀ (r : Int32) (u : S) (H1 : Heap) (locs1 : List Loc), post r u → va_P D vwCl (wn u) H1 → va_D A (wn u) → va_S A s.heap H1 locs1 → W p l e R s m args below meth c H1 locs1 (cells + mc) (slots + ms) Q (F0 m (pc + 3) ls (.int r :: rest))) :
    W p l e R s m args below meth c H locs cells slots Q (F0 m pc ls st0) := by
  have hF := va_free (wc := wc) hD hS hA isC hC.1
  refine va_calli (hr (hP.sub isC (ds_fm _ _ _ hC.1)) (hD.sub isC hC.2.2.1 hC.1)) hS (fun q _ h => hF q h) hF (fun r u t H1 locs1 ht hvm hp hB hz hk hS1 => ?_)
  obtain ⟨hP1, hD1⟩ := hB
  rw [ht] at hP1
  obtain ⟨hP2, hD2⟩ := ds_after hP hD hC isN hn2 hN hk hF hP1 hD1
  exact kk r u H1 locs1 hp hP2 hD2 hS1

theorem ds_callXi {post : Int32 → S → Prop} {px : String → Prop} {isC isR : List Nat} (hP : va_P D vwCl ws H) (hD : va_D A ws) (hS : va_S A s.heap H locs) (hA : ∀ q : Nat, s.heap.size ≤ q → A q) (hC : ds_C ws wc wr isC isR) (isN : List Nat) (hn2 : va_nd isN = true) (hN : ∀ u, isN.map (fun i => (wr ++ wo u)[i]?) = (wn u).map some) (isB : List Nat) (hB : isB.map (fun i => (wr ++ wc)[i]?) = ws.map some)
    (hr : va_P D vwCl wc H → va_D A wc → (∀ q, va_A wc H.size q → A q) → vx_Run p l e R s m args below meth c H locs cells slots mc ms (F0 m pc ls st0) rest (ds_Qi D post wo (va_A wc H.size) a) (ds_X D px wc (va_A wc H.size)) (va_A wc H.size))
    (kx : ∀ (E : String) (ce : Cell) (q9 : Addr) (H1 : Heap) (locs1 : List Loc), px E → va_P D vwCl ws H1 → va_S A s.heap H1 locs1 → H1[q9]? = some ce → ce.vm = .none → s.vm.findClass E = some ce.cls → vx_W p l e R s m args below meth c H1 locs1 (cells + mc) (slots + ms) Q (F0 m pc ls rest) q9)
    (kk : ∀ (r : Int32) (u : S) (H1 : Heap) (locs1 : List Loc), post r u → va_P D vwCl (wn u) H1 → va_D A (wn u) → va_S A s.heap H1 locs1 → W p l e R s m args below meth c H1 locs1 (cells + mc) (slots + ms) Q (F0 m (pc + 3) ls (.int r :: rest))) :
    W p l e R s m args below meth c H locs cells slots Q (F0 m pc ls st0) := by
  have hF := va_free (wc := wc) hD hS hA isC hC.1
  refine vx_calli (hr (hP.sub isC (ds_fm _ _ _ hC.1)) (hD.sub isC hC.2.2.1 hC.1) hF) hS (fun q _ h => hF q h) hF (fun q _ h => hF q h) (fun E ce q9 u t H1 locs1 ht hvm hp hB1 hz hk hS1 h9 hn9 hc9 => ?_) (fun r u t H1 locs1 ht hvm hp hB1 hz hk hS1 => ?_)
  · obtain ⟨hpx, hP1⟩ := hB1
    rw [ht] at hP1
    exact kx E ce q9 H1 locs1 hpx (ds_same hP hD hC isB hB hk hF hP1) hS1 h9 hn9 hc9
  · obtain ⟨hP1, hD1⟩ := hB1
    rw [ht] at hP1
    obtain ⟨hP2, hD2⟩ := ds_after hP hD hC isN hn2 hN hk hF hP1 hD1
    exact kk r u H1 locs1 hp hP2 hD2 hS1

theorem ds_calll {post : Int64 → S → Prop} {isC isR : List Nat} (hP : va_P D vwCl ws H) (hD : va_D A ws) (hS : va_S A s.heap H locs) (hA : ∀ q : Nat, s.heap.size ≤ q → A q) (hC : ds_C ws wc wr isC isR) (isN : List Nat) (hn2 : va_nd isN = true) (hN : ∀ u, isN.map (fun i => (wr ++ wo u)[i]?) = (wn u).map some)
    (hr : va_P D vwCl wc H → va_D A wc → va_Run p l e R s m args below meth c H locs cells slots mc ms (F0 m pc ls st0) rest (ds_Ql D post wo (va_A wc H.size) a) (va_A wc H.size))
    (kk : ∀ (r : Int64) (u : S) (H1 : Heap) (locs1 : List Loc), post r u → va_P D vwCl (wn u) H1 → va_D A (wn u) → va_S A s.heap H1 locs1 → W p l e R s m args below meth c H1 locs1 (cells + mc) (slots + ms) Q (F0 m (pc + 3) ls (.long r :: rest))) :
    W p l e R s m args below meth c H locs cells slots Q (F0 m pc ls st0) := by
  have hF := va_free (wc := wc) hD hS hA isC hC.1
  refine va_calll (hr (hP.sub isC (ds_fm _ _ _ hC.1)) (hD.sub isC hC.2.2.1 hC.1)) hS (fun q _ h => hF q h) hF (fun r u t H1 locs1 ht hvm hp hB hz hk hS1 => ?_)
  obtain ⟨hP1, hD1⟩ := hB
  rw [ht] at hP1
  obtain ⟨hP2, hD2⟩ := ds_after hP hD hC isN hn2 hN hk hF hP1 hD1
  exact kk r u H1 locs1 hp hP2 hD2 hS1

theorem ds_callXl {post : Int64 → S → Prop} {px : String → Prop} {isC isR : List Nat} (hP : va_P D vwCl ws H) (hD : va_D A ws) (hS : va_S A s.heap H locs) (hA : ∀ q : Nat, s.heap.size ≤ q → A q) (hC : ds_C ws wc wr isC isR) (isN : List Nat) (hn2 : va_nd isN = true) (hN : ∀ u, isN.map (fun i => (wr ++ wo u)[i]?) = (wn u).map some) (isB : List Nat) (hB : isB.map (fun i => (wr ++ wc)[i]?) = ws.map some)
    (hr : va_P D vwCl wc H → va_D A wc → (∀ q, va_A wc H.size q → A q) → vx_Run p l e R s m args below meth c H locs cells slots mc ms (F0 m pc ls st0) rest (ds_Ql D post wo (va_A wc H.size) a) (ds_X D px wc (va_A wc H.size)) (va_A wc H.size))
    (kx : ∀ (E : String) (ce : Cell) (q9 : Addr) (H1 : Heap) (locs1 : List Loc), px E → va_P D vwCl ws H1 → va_S A s.heap H1 locs1 → H1[q9]? = some ce → ce.vm = .none → s.vm.findClass E = some ce.cls → vx_W p l e R s m args below meth c H1 locs1 (cells + mc) (slots + ms) Q (F0 m pc ls rest) q9)
    (kk : ∀ (r : Int64) (u : S) (H1 : Heap) (locs1 : List Loc), post r u → va_P D vwCl (wn u) H1 → va_D A (wn u) → va_S A s.heap H1 locs1 → W p l e R s m args below meth c H1 locs1 (cells + mc) (slots + ms) Q (F0 m (pc + 3) ls (.long r :: rest))) :
    W p l e R s m args below meth c H locs cells slots Q (F0 m pc ls st0) := by
  have hF := va_free (wc := wc) hD hS hA isC hC.1
  refine vx_calll (hr (hP.sub isC (ds_fm _ _ _ hC.1)) (hD.sub isC hC.2.2.1 hC.1) hF) hS (fun q _ h => hF q h) hF (fun q _ h => hF q h) (fun E ce q9 u t H1 locs1 ht hvm hp hB1 hz hk hS1 h9 hn9 hc9 => ?_) (fun r u t H1 locs1 ht hvm hp hB1 hz hk hS1 => ?_)
  · obtain ⟨hpx, hP1⟩ := hB1
    rw [ht] at hP1
    exact kx E ce q9 H1 locs1 hpx (ds_same hP hD hC isB hB hk hF hP1) hS1 h9 hn9 hc9
  · obtain ⟨hP1, hD1⟩ := hB1
    rw [ht] at hP1
    obtain ⟨hP2, hD2⟩ := ds_after hP hD hC isN hn2 hN hk hF hP1 hD1
    exact kk r u H1 locs1 hp hP2 hD2 hS1

theorem ds_callv {post : S → Prop} {isC isR : List Nat} (hP : va_P D vwCl ws H) (hD : va_D A ws) (hS : va_S A s.heap H locs) (hA : ∀ q : Nat, s.heap.size ≤ q → A q) (hC : ds_C ws wc wr isC isR) (isN : List Nat) (hn2 : va_nd isN = true) (hN : ∀ u, isN.map (fun i => (wr ++ wo u)[i]?) = (wn u).map some)
    (hr : va_P D vwCl wc H → va_D A wc → va_Run p l e R s m args below meth c H locs cells slots mc ms (F0 m pc ls st0) rest (ds_Qv D post wo (va_A wc H.size) a) (va_A wc H.size))
    (kk : ∀ (u : S) (H1 : Heap) (locs1 : List Loc), post u → va_P D vwCl (wn u) H1 → va_D A (wn u) → va_S A s.heap H1 locs1 → W p l e R s m args below meth c H1 locs1 (cells + mc) (slots + ms) Q (F0 m (pc + 3) ls (rest))) :
    W p l e R s m args below meth c H locs cells slots Q (F0 m pc ls st0) := by
  have hF := va_free (wc := wc) hD hS hA isC hC.1
  refine va_callv (hr (hP.sub isC (ds_fm _ _ _ hC.1)) (hD.sub isC hC.2.2.1 hC.1)) hS (fun q _ h => hF q h) hF (fun u t H1 locs1 ht hvm hp hB hz hk hS1 => ?_)
  obtain ⟨hP1, hD1⟩ := hB
  rw [ht] at hP1
  obtain ⟨hP2, hD2⟩ := ds_after hP hD hC isN hn2 hN hk hF hP1 hD1
  exact kk u H1 locs1 hp hP2 hD2 hS1

theorem ds_callXv {post : S → Prop} {px : String → Prop} {isC isR : List Nat} (hP : va_P D vwCl ws H) (hD : va_D A ws) (hS : va_S A s.heap H locs) (hA : ∀ q : Nat, s.heap.size ≤ q → A q) (hC : ds_C ws wc wr isC isR) (isN : List Nat) (hn2 : va_nd isN = true) (hN : ∀ u, isN.map (fun i => (wr ++ wo u)[i]?) = (wn u).map some) (isB : List Nat) (hB : isB.map (fun i => (wr ++ wc)[i]?) = ws.map some)
    (hr : va_P D vwCl wc H → va_D A wc → (∀ q, va_A wc H.size q → A q) → vx_Run p l e R s m args below meth c H locs cells slots mc ms (F0 m pc ls st0) rest (ds_Qv D post wo (va_A wc H.size) a) (ds_X D px wc (va_A wc H.size)) (va_A wc H.size))
    (kx : ∀ (E : String) (ce : Cell) (q9 : Addr) (H1 : Heap) (locs1 : List Loc), px E → va_P D vwCl ws H1 → va_S A s.heap H1 locs1 → H1[q9]? = some ce → ce.vm = .none → s.vm.findClass E = some ce.cls → vx_W p l e R s m args below meth c H1 locs1 (cells + mc) (slots + ms) Q (F0 m pc ls rest) q9)
    (kk : ∀ (u : S) (H1 : Heap) (locs1 : List Loc), post u → va_P D vwCl (wn u) H1 → va_D A (wn u) → va_S A s.heap H1 locs1 → W p l e R s m args below meth c H1 locs1 (cells + mc) (slots + ms) Q (F0 m (pc + 3) ls (rest))) :
    W p l e R s m args below meth c H locs cells slots Q (F0 m pc ls st0) := by
  have hF := va_free (wc := wc) hD hS hA isC hC.1
  refine vx_callv (hr (hP.sub isC (ds_fm _ _ _ hC.1)) (hD.sub isC hC.2.2.1 hC.1) hF) hS (fun q _ h => hF q h) hF (fun q _ h => hF q h) (fun E ce q9 u t H1 locs1 ht hvm hp hB1 hz hk hS1 h9 hn9 hc9 => ?_) (fun u t H1 locs1 ht hvm hp hB1 hz hk hS1 => ?_)
  · obtain ⟨hpx, hP1⟩ := hB1
    rw [ht] at hP1
    exact kx E ce q9 H1 locs1 hpx (ds_same hP hD hC isB hB hk hF hP1) hS1 h9 hn9 hc9
  · obtain ⟨hP1, hD1⟩ := hB1
    rw [ht] at hP1
    obtain ⟨hP2, hD2⟩ := ds_after hP hD hC isN hn2 hN hk hF hP1 hD1
    exact kk u H1 locs1 hp hP2 hD2 hS1

theorem ds_callr {post : S → Nat → Prop} {isC isR : List Nat} (hP : va_P D vwCl ws H) (hD : va_D A ws) (hS : va_S A s.heap H locs) (hA : ∀ q : Nat, s.heap.size ≤ q → A q) (hC : ds_C ws wc wr isC isR) (isN : List Nat) (hn2 : va_nd isN = true) (hN : ∀ u, isN.map (fun i => (wr ++ wo u)[i]?) = (wn u).map some)
    (hr : va_P D vwCl wc H → va_D A wc → va_Run p l e R s m args below meth c H locs cells slots mc ms (F0 m pc ls st0) rest (ds_Qr D post wo (va_A wc H.size) a) (va_A wc H.size))
    (kk : ∀ (r : Nat) (u : S) (H1 : Heap) (locs1 : List Loc), post u r → va_P D vwCl (wn u) H1 → va_D A (wn u) → va_S A s.heap H1 locs1 → W p l e R s m args below meth c H1 locs1 (cells + mc) (slots + ms) Q (F0 m (pc + 3) ls (.ref r :: rest))) :
    W p l e R s m args below meth c H locs cells slots Q (F0 m pc ls st0) := by
  have hF := va_free (wc := wc) hD hS hA isC hC.1
  refine va_callr (hr (hP.sub isC (ds_fm _ _ _ hC.1)) (hD.sub isC hC.2.2.1 hC.1)) hS (fun q _ h => hF q h) hF (fun u r t H1 locs1 ht hvm _ hB hz hk hS1 => ?_)
  obtain ⟨hp, hP1, hD1⟩ := hB
  rw [ht] at hP1
  obtain ⟨hP2, hD2⟩ := ds_after hP hD hC isN hn2 hN hk hF hP1 hD1
  exact kk r u H1 locs1 hp hP2 hD2 hS1
/-- what a call threw leaves this method too -/
theorem ds_out {Qc : Array Value → State → Outcome → State → Prop} {px : String → Prop} {E : String} {ce : Cell} {q9 : Addr} (hno : ∀ x ∈ c.exceptionTable.toList, False) (hlk : meth.locks = false) (hpx : px E) (hP : va_P D vwCl ws H) (hS : va_S A s.heap H locs) (h9 : H[q9]? = some ce) (hn9 : ce.vm = .none) (hc9 : s.vm.findClass E = some ce.cls) (hc : cells ≤ mc) (hs : slots ≤ ms) :
    vx_W p l e R s m args below meth c H locs cells slots (vx_MQ below Qc (ds_X D px ws A) args s mc ms A) (F0 m pc ls rest) q9 :=
  vx_out (fun x h => (hno x h).elim) hlk h9 hn9 hc9 (fun t ht _ => ⟨(), trivial, ⟨hpx, by rw [ht]; exact hP⟩, hS.F ht⟩) hS.2.2 hc hs
-- arrays, at places that are naturals
variable {b n k : Nat} {f : Nat → Int32} {fl : Nat → Int64}
theorem ds_iald (hexec : p.tables.exec = Jvm.exec) (hb : c.code = cc) (hK : ds_K D cI cL s) (hP : va_P D vwCl ws H) (q0 : Nat) (ha : ws[q0]? = some (b, .inl (cI, n, .inl f))) (hk : k < n) (hn : n < 2 ^ 31) (hdg : decode cc pc = .ok (.iaload, 1))
    (kk : W p l e R s m args below meth c H locs cells slots Q (F0 m (pc + 1) ls (.int (f k) :: rest))) : W p l e R s m args below meth c H locs cells slots Q (F0 m pc ls (.int (nI k) :: .ref b :: rest)) := by
  refine va_iald hexec hb hK.1 hP q0 0 ha rfl (vp_in_nI hk hn) hdg ?_
  rw [nI_clamp (by omega)]
  exact kk
theorem ds_lald (hexec : p.tables.exec = Jvm.exec) (hb : c.code = cc) (hK : ds_K D cI cL s) (hP : va_P D vwCl ws H) (q0 : Nat) (ha : ws[q0]? = some (b, .inl (cL, n, .inr (.inl fl)))) (hk : k < n) (hn : n < 2 ^ 31) (hdg : decode cc pc = .ok (.laload, 1))
    (kk : W p l e R s m args below meth c H locs cells slots Q (F0 m (pc + 1) ls (.long (fl k) :: rest))) : W p l e R s m args below meth c H locs cells slots Q (F0 m pc ls (.int (nI k) :: .ref b :: rest)) := by
  refine va_lald hexec hb hK.1 hP q0 1 ha rfl (vp_in_nI hk hn) hdg ?_
  rw [nI_clamp (by omega)]
  exact kk
theorem ds_iast {x : Int32} (hexec : p.tables.exec = Jvm.exec) (hb : c.code = cc) (hK : ds_K D cI cL s) (hP : va_P D vwCl ws H) (hD : va_D A ws) (hS : va_S A s.heap H locs) (q0 : Nat) (ha : ws[q0]? = some (b, .inl (cI, n, .inl f))) (hk : k < n) (hn : n < 2 ^ 31) (hdg : decode cc pc = .ok (.iastore, 1))
    (kk : ∀ (H1 : Heap) (locs1 : List Loc), va_P D vwCl (ws.set q0 (b, .inl (cI, n, .inl (upd f k x)))) H1 → va_D A (ws.set q0 (b, .inl (cI, n, .inl (upd f k x)))) → va_S A s.heap H1 locs1 → W p l e R s m args below meth c H1 locs1 cells slots Q (F0 m (pc + 1) ls rest)) : W p l e R s m args below meth c H locs cells slots Q (F0 m pc ls (.int x :: .int (nI k) :: .ref b :: rest)) := by
  refine va_iast hexec hb hK.1 hP hD hS q0 0 ha rfl (vp_in_nI hk hn) hdg (fun H1 locs1 h1 h2 h3 => ?_)
  rw [nI_clamp (by omega)] at h1 h2
  exact kk H1 locs1 h1 h2 h3
theorem ds_last {x : Int64} (hexec : p.tables.exec = Jvm.exec) (hb : c.code = cc) (hK : ds_K D cI cL s) (hP : va_P D vwCl ws H) (hD : va_D A ws) (hS : va_S A s.heap H locs) (q0 : Nat) (ha : ws[q0]? = some (b, .inl (cL, n, .inr (.inl fl)))) (hk : k < n) (hn : n < 2 ^ 31) (hdg : decode cc pc = .ok (.lastore, 1))
    (kk : ∀ (H1 : Heap) (locs1 : List Loc), va_P D vwCl (ws.set q0 (b, .inl (cL, n, .inr (.inl (vp_updL fl k x))))) H1 → va_D A (ws.set q0 (b, .inl (cL, n, .inr (.inl (vp_updL fl k x))))) → va_S A s.heap H1 locs1 → W p l e R s m args below meth c H1 locs1 cells slots Q (F0 m (pc + 1) ls rest)) : W p l e R s m args below meth c H locs cells slots Q (F0 m pc ls (.long x :: .int (nI k) :: .ref b :: rest)) := by
  refine va_last hexec hb hK.1 hP hD hS q0 1 ha rfl (vp_in_nI hk hn) hdg (fun H1 locs1 h1 h2 h3 => ?_)
  rw [nI_clamp (by omega)] at h1 h2
  exact kk H1 locs1 h1 h2 h3
/-- the number on top, said otherwise -/
theorem ds_top {x z : Int32} (h : x = z) (kk : W p l e R s m args below meth c H locs cells slots Q (F0 m pc ls (.int z :: rest))) : W p l e R s m args below meth c H locs cells slots Q (F0 m pc ls (.int x :: rest)) := h ▸ kk
theorem ds_topl {x z : Int64} (h : x = z) (kk : W p l e R s m args below meth c H locs cells slots Q (F0 m pc ls (.long z :: rest))) : W p l e R s m args below meth c H locs cells slots Q (F0 m pc ls (.long x :: rest)) := h ▸ kk
end DSC

theorem ds_otI (ik : Nat) : ∀ w ∈ Cond.classLink RX4 ik "java/lang/IllegalArgumentException" :: Cond.initialized "java/lang/IllegalArgumentException" :: vx_atS RX4 60 "java/lang/IllegalArgumentException" ["java/lang/RuntimeException", "java/lang/Exception"], vx_ot w = true := by
  have h : ∀ w ∈ Cond.initialized "java/lang/IllegalArgumentException" :: vx_atS RX4 60 "java/lang/IllegalArgumentException" ["java/lang/RuntimeException", "java/lang/Exception"], vx_ot w = true := by decide +kernel
  intro w hw
  rcases List.mem_cons.mp hw with rfl | hw
  · rfl
  · exact h w hw
theorem ds_otO (ik : Nat) : ∀ w ∈ Cond.classLink RX4 ik "java/lang/IndexOutOfBoundsException" :: Cond.initialized "java/lang/IndexOutOfBoundsException" :: vx_atS RX4 115 "java/lang/IndexOutOfBoundsException" ["java/lang/RuntimeException", "java/lang/Exception"], vx_ot w = true := by
  have h : ∀ w ∈ Cond.initialized "java/lang/IndexOutOfBoundsException" :: vx_atS RX4 115 "java/lang/IndexOutOfBoundsException" ["java/lang/RuntimeException", "java/lang/Exception"], vx_ot w = true := by decide +kernel
  intro w hw
  rcases List.mem_cons.mp hw with rfl | hw
  · rfl
  · exact h w hw
theorem ds_cI {D : va_G} {cI cL cA : ClassId} {s : State} (h : va_K D vwCl ([(cI, .int), (cL, .long)] ++ [(cA, .int)]) s) : cA = cI := by
  have h1 : s.vm.findClass ("[" ++ FieldType.int.toString) = some cA := (h.2 2 (cA, .int) rfl).2
  have h2 : s.vm.findClass ("[" ++ FieldType.int.toString) = some cI := (h.2 0 (cI, .int) rfl).2
  exact Option.some.inj (h1.symm.trans h2)
theorem ds_cL {D : va_G} {cI cL cA : ClassId} {s : State} (h : va_K D vwCl ([(cI, .int), (cL, .long)] ++ [(cA, .long)]) s) : cA = cL := by
  have h1 : s.vm.findClass ("[" ++ FieldType.long.toString) = some cA := (h.2 2 (cA, .long) rfl).2
  have h2 : s.vm.findClass ("[" ++ FieldType.long.toString) = some cL := (h.2 1 (cL, .long) rfl).2
  exact Option.some.inj (h1.symm.trans h2)
section DST
variable {p : Program} {l : Launch} {e : Env} {R : Room} {s : State} {m : MethodId} {args : Array Value} {below : List Frame} {meth : Method} {c : Code} {H : Heap} {locs : List Loc} {cells slots : Nat} {Q : State → Prop}
variable {cc : ByteArray} {pc : Nat} {ls : Array Slot} {rest st0 : List Value} {D : va_G} {cI cL : ClassId} {A : Nat → Prop} {mc ms : Nat} {ws : va_W}
theorem ds_copyi {own : String} {index : Nat} (sp dp n : Nat) {a a0 n0 n1 : Nat} {f g : Nat → Int32} (hexec : p.tables.exec = Jvm.exec) (hb : c.code = cc) (hml : c.maxLocals = ls.size) (hown : s.vm.findClass own = some m.cls) (hlink : (Cond.methodLink own index arraycopyName).before args s = true) (hnat : (Cond.native arraycopyName).before args s = true) (hstat : (Cond.static arraycopyName).before args s = true) (hini : (Cond.initialized "java/lang/System").before args s = true)
    (hK : ds_K D cI cL s) (hP : va_P D vwCl ws H) (hD : va_D A ws) (hS : va_S A s.heap H locs) (q0 q1 : Nat) (ha0 : ws[q0]? = some (a0, .inl (cI, n0, .inl f))) (ha1 : ws[q1]? = some (a, .inl (cI, n1, .inl g))) (h4 : sp + n ≤ n0) (h5 : dp + n ≤ n1) (hbig : n0 < 2 ^ 31 ∧ n1 < 2 ^ 31)
    (hframes : 1 ≤ R.frames) (hlocals : (rest.map fun v => v.category).sum + 18 ≤ R.locals) (hdg : decode cc pc = .ok (.invokestatic index, 3))
    (kk : ∀ (H1 : Heap) (locs1 : List Loc), va_P D vwCl (ws.set q1 (a, .inl (cI, n1, .inl (va_cpy f g sp dp n)))) H1 → va_D A (ws.set q1 (a, .inl (cI, n1, .inl (va_cpy f g sp dp n)))) → va_S A s.heap H1 locs1 → W p l e R s m args below meth c H1 locs1 cells slots Q (F0 m (pc + 3) ls rest)) : W p l e R s m args below meth c H locs cells slots Q (F0 m pc ls (.int (nI n) :: .int (nI dp) :: .ref a :: .int (nI sp) :: .ref a0 :: rest)) := by
  have e1 : (nI sp).toNatClampNeg = sp := nI_clamp (by omega)
  have e2 : (nI dp).toNatClampNeg = dp := nI_clamp (by omega)
  have e3 : (nI n).toNatClampNeg = n := nI_clamp (by omega)
  have z : ∀ k : Nat, k < 2 ^ 31 → ¬ nI k < 0 := fun k hk h => by rw [← nI_0] at h; exact Nat.not_lt_zero _ ((nI_ltI hk (by omega)).mp h)
  refine va_copyi hexec hb hml hown hlink hnat hstat hini hK.1 hP hD hS q0 q1 0 0 ha0 ha1 rfl rfl rfl (z sp (by omega)) (z dp (by omega)) (z n (by omega)) (by rw [e1, e3]; exact h4) (by rw [e2, e3]; exact h5) (fun _ _ => rfl) hframes hlocals hdg (fun H1 locs1 h1 h2 h3 => ?_)
  rw [e1, e2, e3] at h1 h2
  exact kk H1 locs1 h1 h2 h3
theorem ds_throwI {Qc : Array Value → State → Outcome → State → Prop} {px : String → Prop} {ik is : Nat} {text : String} (hexec : p.tables.exec = Jvm.exec) (hb : c.code = cc) (hl : l.stackTraces = false) (hown : s.vm.findClass RX4 = some m.cls) (hk : (Cond.classLink RX4 ik "java/lang/IllegalArgumentException").before args s = true) (hini : (Cond.initialized "java/lang/IllegalArgumentException").before args s = true)
    (ht : ∀ w ∈ ds_all, w.before args s = true) (hK : ds_K D cI cL s) (htx : (is, text) ∈ ds_tx) (hZ : ds_Z A s s.heap) (hP : va_P D vwCl ws H) (hS : va_S A s.heap H locs) (hsize : ls.size = c.maxLocals)
    (d0 : decode cc pc = .ok (.new ik, 3)) (d3 : decode cc (pc + 3) = .ok (.dup, 1)) (d4 : decode cc (pc + 4) = .ok (.ldc is, 2)) (d6 : decode cc (pc + 6) = .ok (.invokespecial 60, 3)) (d9 : decode cc (pc + 9) = .ok (.athrow, 1))
    (hno : ∀ x ∈ c.exceptionTable.toList, False) (hlocks : meth.locks = false) (hRframes : 5 < R.frames) (hRlocals : (rest.map fun v => v.category).sum + 82 ≤ R.locals) (hRcells : cells + 1 ≤ R.cells) (hRslots : slots + 6 ≤ R.slots) (hc : cells + 1 ≤ mc) (hs : slots + 6 ≤ ms) (hpx : px "java/lang/IllegalArgumentException") :
    W p l e R s m args below meth c H locs cells slots (vx_MQ below Qc (ds_X D px ws A) args s mc ms A) (F0 m pc ls rest) := by
  obtain ⟨sa, hstr⟩ := hK.2.2.1 _ htx
  refine vx_throwS (own := RX4) (cls := "java/lang/IllegalArgumentException") (names := ["java/lang/RuntimeException", "java/lang/Exception"]) (ic := 60) (A := A) hexec hb hl hown (by decide +kernel) (by decide +kernel) hk hini hstr
    (vx_hat (B := ds_nW) (fun w h => ht w (inA_xI w h)) (by decide +kernel) (fun w h => va_Nw.use (ds_isN_tab (ds_nW_ok w h)) (hK.2.1 w h))) (ds_otI ik) hZ.1 hZ.2 hS hsize d0 d3 d4 d6 d9 (fun x h => (hno x h).elim) hRframes hRlocals hRcells hRslots hlocks ?_ hS.2.2 hc hs
  intro t _ h1 h2
  refine ⟨(), trivial, ⟨hpx, hP.kept (fun k q hq => h2 q.1 (hP k q hq).lt)⟩, ?_⟩
  exact ⟨Nat.le_trans hS.1 h1, fun q hq hn => (h2 q (Nat.lt_of_lt_of_le hq hS.1)).trans (hS.2.1 q hq hn)⟩
theorem ds_throwO {Qc : Array Value → State → Outcome → State → Prop} {px : String → Prop} {ik is : Nat} {text : String} (hexec : p.tables.exec = Jvm.exec) (hb : c.code = cc) (hl : l.stackTraces = false) (hown : s.vm.findClass RX4 = some m.cls) (hk : (Cond.classLink RX4 ik "java/lang/IndexOutOfBoundsException").before args s = true) (hini : (Cond.initialized "java/lang/IndexOutOfBoundsException").before args s = true)
    (ht : ∀ w ∈ ds_all, w.before args s = true) (hK : ds_K D cI cL s) (htx : (is, text) ∈ ds_tx) (hZ : ds_Z A s s.heap) (hP : va_P D vwCl ws H) (hS : va_S A s.heap H locs) (hsize : ls.size = c.maxLocals)
    (d0 : decode cc pc = .ok (.new ik, 3)) (d3 : decode cc (pc + 3) = .ok (.dup, 1)) (d4 : decode cc (pc + 4) = .ok (.ldc is, 2)) (d6 : decode cc (pc + 6) = .ok (.invokespecial 115, 3)) (d9 : decode cc (pc + 9) = .ok (.athrow, 1))
    (hno : ∀ x ∈ c.exceptionTable.toList, False) (hlocks : meth.locks = false) (hRframes : 5 < R.frames) (hRlocals : (rest.map fun v => v.category).sum + 82 ≤ R.locals) (hRcells : cells + 1 ≤ R.cells) (hRslots : slots + 6 ≤ R.slots) (hc : cells + 1 ≤ mc) (hs : slots + 6 ≤ ms) (hpx : px "java/lang/IndexOutOfBoundsException") :
    W p l e R s m args below meth c H locs cells slots (vx_MQ below Qc (ds_X D px ws A) args s mc ms A) (F0 m pc ls rest) := by
  obtain ⟨sa, hstr⟩ := hK.2.2.1 _ htx
  refine vx_throwS (own := RX4) (cls := "java/lang/IndexOutOfBoundsException") (names := ["java/lang/RuntimeException", "java/lang/Exception"]) (ic := 115) (A := A) hexec hb hl hown (by decide +kernel) (by decide +kernel) hk hini hstr
    (vx_hat (B := ds_nW) (fun w h => ht w (inA_xO w h)) (by decide +kernel) (fun w h => va_Nw.use (ds_isN_tab (ds_nW_ok w h)) (hK.2.1 w h))) (ds_otO ik) hZ.1 hZ.2 hS hsize d0 d3 d4 d6 d9 (fun x h => (hno x h).elim) hRframes hRlocals hRcells hRslots hlocks ?_ hS.2.2 hc hs
  intro t _ h1 h2
  refine ⟨(), trivial, ⟨hpx, hP.kept (fun k q hq => h2 q.1 (hP k q hq).lt)⟩, ?_⟩
  exact ⟨Nat.le_trans hS.1 h1, fun q hq hn => (h2 q (Nat.lt_of_lt_of_le hq hS.1)).trans (hS.2.1 q hq hn)⟩
end DST
