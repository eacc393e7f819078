/-! Own rows: methods that return or throw (ux_Met), their call with a handler of the caller's, 'new E(); athrow'. -/
section UXW
variable {p : Program} {l : Launch} {e : Env} {R : Room} {s : State} {m : MethodId} {args : Array Value} {below : List Frame} {meth : Method} {c : Code} {H : Heap} {locs : List Loc} {cells slots : Nat} {Q : State → Prop}
theorem ux_mono {Q' : State → Prop} {g : JFrame} (h : ∀ t, Q t → Q' t) (k : W p l e R s m args below meth c H locs cells slots Q g) : W p l e R s m args below meth c H locs cells slots Q' g := by
  intro T hT X
  obtain ⟨t, a, b⟩ := k T hT X
  exact ⟨t, a, h t b⟩
/-- the end of a walk that returns or throws -/
def ux_E (below : List Frame) (Qc : Array Value → State → Outcome → State → Prop) (a : Array Value) (s : State) (mc ms : Nat) (free : Addr → Prop) : State → Prop := fun t =>
  ∃ o, t.status = .running ∧ Ended t below o ∧ Qc a s o t ∧ ∃ L : List Loc, (s.WarmedH t.vm ∧ s.sameButNew ({ t with vm := s.vm } : State) L mc ms) ∧ ∀ q ∈ L, free q.base
theorem ux_E_of {Qc : Array Value → State → Outcome → State → Prop} {a : Array Value} {mc ms : Nat} {free : Addr → Prop} (t : State) (h : MQ below Qc a s mc ms free t) : ux_E below Qc a s mc ms free t := by
  obtain ⟨o, h1, h2, h3, L, h4, h5⟩ := h
  exact ⟨o, h1, h2, h3, L, h4.2, h5⟩
/-- the contract of a method that returns or throws -/
def ux_Met (l : Launch) (y : MethodName) (ws : List Cond) (rm : Room) (Pc : Array Value → State → Prop) (Qc : Array Value → State → Outcome → State → Prop) (mc ms : Nat) (free : Addr → Prop) : Prop :=
  MetFree l y (headSpec ws rm) Pc (fun _ _ _ _ _ => True) (fun a st o t => Qc a st o t ∧ ∃ L : List Loc, (st.WarmedH t.vm ∧ st.sameButNew ({ t with vm := st.vm } : State) L mc ms) ∧ ∀ q ∈ L, free q.base)
theorem ux_ofW {y : MethodName} {ws ws' : List Cond} {rm : Room} {Pc : Array Value → State → Prop} {Qc : Array Value → State → Outcome → State → Prop} {mc ms : Nat} {free : Addr → Prop} {cc : ByteArray} {maxL : Nat} {ret : Option FieldType}
    (hy : plainName y.cls = true) (hw : ws = Cond.code y cc maxL ret :: ws')
    (body : ∀ p e s m args below meth c s₁, BodyLoose p l y (headSpec ws rm) cc maxL ret e s m args below meth c s₁ → c.maxLocals = maxL → Pc args s →
      W p l e (headSpec ws rm).room s m args below meth c s.heap [] 0 0 (ux_E below Qc args s mc ms free) (entryFrame m args maxL)) : ux_Met l y ws rm Pc Qc mc ms free := by
  refine MetFree.of_bodyS (code := cc) (maxLocals := maxL) (ret := ret) hy ?_ ?_
  · intro args s m h hn
    obtain ⟨meth, c, h1, h2, h3, h4, h5, h6, -, -⟩ := Cond.code_spec hn (atoms_spec (ws := ws) h _ (by rw [hw]; exact List.mem_cons_self))
    exact ⟨meth, c, h1, h2, h3, h4, h5, h6⟩
  · intro p e s m args below meth c s₁ B hml hP _
    have hh0 : s₁.heap = s.heap := by rw [B.state]; rfl
    obtain ⟨t, a1, o, b1, b2, b3, b4⟩ := body p e s m args below meth c s₁ B hml hP s₁ hh0 (Stand.of_body B)
    exact ⟨t, o, a1, b1, b2, b3, b4⟩
/-- a virtual call of such a method: both ends -/
theorem ux_callV {T : State} (X : Stand p l e R s m args below meth c T locs cells slots) (hexec : p.tables.exec = Jvm.exec) {own C : String} {index : Nat} {y : MethodName} {bytes : ByteArray} {maxL : Nat} {ret : Option FieldType}
    {ws : List Cond} {rm : Room} {Pc : Array Value → State → Prop} {Qc : Array Value → State → Outcome → State → Prop} {mc ms : Nat} {free : Addr → Prop}
    (hM : ux_Met l y ws rm Pc Qc mc ms free) (hbl : FrameBlind Pc) (hrc : rm.cells = mc) (hrs : rm.slots = ms) (hfr : rm.frames + 1 ≤ R.frames) (hlo : 8 + (maxL + 11) + rm.locals ≤ R.locals)
    (hws : ∀ w ∈ ws, ∀ (a' : Array Value) (U : State), s.WarmedH U.vm → w.before a' U = true)
    (hown : s.vm.findClass own = some m.cls) (hlink : (Cond.methodLink own index y).before args s = true) (hinst : (Cond.instanceMethod y).before args s = true) (hsel : (Cond.selects C y y).before args s = true)
    (hcode : (Cond.code y bytes maxL ret).before args s = true) (hini : (Cond.initialized y.cls).before args s = true) (hy : y.cls ≠ "java/lang/invoke/MethodHandle" ∧ y.cls ≠ "java/lang/invoke/VarHandle")
    {b : Addr} {cellB : Cell} (hcell : T.heap[b]? = some cellB) (hobj : cellB.vm.isStatics = false) (hcls : s.vm.findClass C = some cellB.cls)
    {g : JFrame} (hg : g.method = m) (hsize : g.locals.size = c.maxLocals) {argsL rest : List Value} (hlen : ∀ sig, parseMethodDescriptor y.desc = some sig → argsL.length = sig.parameters.length)
    (hstack : g.stack = argsL.reverse ++ .ref b :: rest) (hW : 2 * g.monitorRoom + (rest.map fun v => v.category).sum ≤ 8) (hdg : decode c.code g.pc = .ok (.invokevirtual index, 3))
    (hcells : cells + mc ≤ R.cells) (hslots : slots + ms ≤ R.slots) (hPc : ∀ vm₁, s.WarmedH vm₁ → Pc (Value.ref b :: argsL).toArray (T.setVm vm₁)) :
    ∃ (o : Outcome) (st₀ t T' : State) (L : List Loc), st₀.heap = T.heap ∧ Stand p l e R s m args below meth c T' (locs ++ L) (cells + mc) (slots + ms) ∧ (∀ q ∈ L, free q.base) ∧ T'.heap = t.heap ∧ T'.vm = t.vm ∧ Qc (Value.ref b :: argsL).toArray st₀ o t ∧
      (∀ v, o = .returned v → ∀ tg, Steps p.tables e below (T'.setTop { g with pc := g.pc + 3, stack := v.toList ++ rest }) tg → Steps p.tables e below (T.setTop g) tg) ∧
      (∀ x, o = .threw x → ∀ tg, Steps p.tables e below ((T'.setTop { g with stack := rest }).pushFrame (.throwing x)) tg → Steps p.tables e below (T.setTop g) tg) := by
  obtain ⟨mk, methM, hnamed, hmethM, hstM, habM⟩ := Cond.instanceMethod_spec hinst
  obtain ⟨methM', cM, hmethM', -, -, -, -, -, -, hsigM⟩ := Cond.code_spec hnamed hcode
  cases hmethM.symm.trans hmethM'
  obtain ⟨c2, r2, m2, q1, q2, q3, q4, kP, hkP, hkPi⟩ := Cond.selects_spec hsel
  cases hcls.symm.trans q1
  cases (State.methodFound?_of_named hnamed hy).symm.trans q2
  cases hnamed.symm.trans q3
  have hselP : selectMethod e.platform s.vm cellB.cls mk = .method mk := by rw [Launch.admits_selectMethod X.admits]; exact q4
  obtain ⟨vm₁, X₁, hstep₁⟩ := X.invokevirtual hexec hown hlink hnamed hmethM hstM hkP hkPi hy (a := b) (cell := cellB) hcell
    (fun z h => by rw [h] at hobj; cases hobj) hselP hmethM habM hkP hkPi (g := g) hg (argsL := argsL) (rest := rest) (hlen _ hsigM) hstack hdg
  have hg1 : ({ g with stack := rest } : JFrame).method = m := hg
  have hsz1 : ({ g with stack := rest } : JFrame).locals.size = c.maxLocals := hsize
  have hdg1 : decode c.code ({ g with stack := rest } : JFrame).pc = .ok (.invokevirtual index, 3) := hdg
  have hW1 : 2 * ({ g with stack := rest } : JFrame).monitorRoom + ((({ g with stack := rest } : JFrame).stack).map fun v => v.category).sum ≤ 8 := hW
  have hst1 : ({ g with stack := rest } : JFrame).stack = rest := rfl
  have hpc1 : ({ g with stack := rest } : JFrame).pc = g.pc := rfl
  generalize hgg : ({ g with stack := rest } : JFrame) = g1 at hg1 hsz1 hdg1 hW1 hst1 hpc1 hstep₁
  have hU : (T.setVm vm₁).heap = T.heap := rfl
  have hPcU := hPc vm₁ X₁.warmed
  generalize T.setVm vm₁ = U at X₁ hstep₁ hU hPcU
  have hnU : U.methodNamed? y = some mk := X₁.named hnamed
  have hcU : (Cond.code y bytes maxL ret).before args U = true := word_at X₁.warmed (Or.inl (by first | rfl | simp [Cond.onTables, Cond.keeps, Cond.steady])) hcode
  have hiU : (Cond.initialized y.cls).before args U = true := word_at X₁.warmed (Or.inl (by first | rfl | simp [Cond.onTables, Cond.keeps, Cond.steady])) hini
  obtain ⟨methY, cY, hmY, hcY, -, hlY, -⟩ := Cond.code_spec hnU hcU
  obtain ⟨kY, hkY, -⟩ := className_of_methodNamed hnU
  have hinitY : kY.init = .initialized := Cond.initialized_spec (findClass_of_methodNamed hnU) hkY hiU
  have h : At U g1.method c below := by rw [hg1]; exact X₁.here
  have happ : (headSpec ws rm).appliesLoose y e.platform (U.calling g1 mk (Value.ref b :: argsL).toArray) = true :=
    Spec.appliesLoose_calling (g := g1) h hdg1 hnU hkY hinitY
      (X₁.room_calling (g := g1) (R' := rm) hsz1 hmY hcY hfr (by rw [hlY]; omega) (by rw [hrc]; exact hcells) (by rw [hrs]; exact hslots)) (atoms_intro fun w hw => hws w hw _ _ X₁.warmed)
  obtain ⟨mid, hmid⟩ := h.above
  have hfrm : (U.setTop g1).frames = (.java g1 :: mid) ++ below := by rw [State.frames_setTop' g1 h.top, hmid]; rfl
  obtain ⟨o, s₂, hsteps, -, hend, hq, L, hWS, hL⟩ := Steps.callFree hM p X.admits X.cas X.clock (acts := []) hfrm happ (hbl _ _ _ _ hPcU) trivial
  have hW2 : (U.calling g1 mk (Value.ref b :: argsL).toArray).WarmedH s₂.vm := hWS.1
  have hsame : (U.calling g1 mk (Value.ref b :: argsL).toArray).sameButNew ({ s₂ with vm := (U.calling g1 mk (Value.ref b :: argsL).toArray).vm } : State) L mc ms := hWS.2
  rw [State.frames_setTop' g1 h.top, X₁.tail] at hend
  cases o with
  | returned v =>
    obtain ⟨T', X', -, -, ht⟩ := X₁.outOf (g := g1) hg1 hdg1 hend hW2 hsame
    refine ⟨.returned v, U.calling g1 mk (Value.ref b :: argsL).toArray, s₂, T', L, ?_, X', hL, by rw [ht]; simp, by rw [ht]; simp, hq, fun v' hv tg hs => ?_, fun x hx => by cases hx⟩
    · rw [← hU]; simp [State.calling, State.pushFrame, State.setFrames]
    · cases hv
      refine hstep₁ _ fun acts => ?_
      rw [doInvoke_state]
      refine hsteps.trans ?_
      rw [ht, hst1]
      have e3 : ({ g1 with pc := g1.pc + 3, stack := v.toList ++ rest } : JFrame) = { g with pc := g.pc + 3, stack := v.toList ++ rest } := by rw [← hgg]
      rw [e3]
      exact hs
  | threw x =>
    obtain ⟨T', X', -, -, ht⟩ := X₁.outOfThrown (g := g1) hg1 hend hW2 hsame
    refine ⟨.threw x, U.calling g1 mk (Value.ref b :: argsL).toArray, s₂, T', L, ?_, X', hL, by rw [ht]; exact (Stand.throwing_heap T' g1 x).symm, by rw [ht]; exact (Stand.throwing_vm T' g1 x).symm, hq, (fun v hv => by cases hv), fun x' hx tg hs => ?_⟩
    · rw [← hU]; simp [State.calling, State.pushFrame, State.setFrames]
    · cases hx
      refine hstep₁ _ fun acts => ?_
      rw [doInvoke_state]
      refine hsteps.trans ?_
      rw [ht]
      exact hs
/-- the first entry of the table takes it: what the entry names, resolved or not, is what the object is of -/
theorem ux_catch {T : State} (X : Stand p l e R s m args below meth c T locs cells slots) {a : Addr} {g : JFrame} (hg : g.method = m) {own E : String} (hown : s.vm.findClass own = some m.cls)
    {x : ExceptionTableEntry} {more : List ExceptionTableEntry} (htab : c.exceptionTable.toList = x :: more) (hx : covers x g.pc = true) (h0 : x.catchType ≠ 0)
    (hlink : (Cond.classLink own x.catchType E).before args s = true) {cell : Cell} (hcell : T.heap[a]? = some cell) (hobj : cell.vm.isStatics = false) (hcls : s.vm.findClass E = some cell.cls) :
    ∃ vm' : Vm, Stand p l e R s m args below meth c (T.setVm vm') locs cells slots ∧
      ∀ tg, Steps p.tables e below ((T.setVm vm').setTop { g with pc := x.handlerPc, stack := [.ref a] }) tg → Steps p.tables e below ((T.setTop g).pushFrame (.throwing a)) tg := by
  subst hg
  have hpl : e.platform.magicAccessors = ({} : Platform).magicAccessors := by rw [X.admits.platform]
  obtain ⟨cE, hfE, hcl⟩ := Cond.classLink_spec hown hlink e.platform hpl
  cases hcls.symm.trans hfE
  have hclT := X.warmed.classLinks hcl
  obtain ⟨-, hwarm, -⟩ := State.classEntry (e := e) X.warmed hcl
  refine ⟨T.vm.noted g.method.cls x.catchType (.cls cell.cls), X.noted hwarm, fun tg hrest => ?_⟩
  obtain ⟨hra, hrt⟩ := (resolveClass_links e.toSetting hclT).op (op := VmOp.resolveClass g.method.cls x.catchType) rfl
  have hal : s.vm.Alike (T.vm.noted g.method.cls x.catchType (.cls cell.cls)) := hwarm.alike
  obtain ⟨kE, hkE⟩ := Vm.classAt_of_findClass hcls
  obtain ⟨kE', hkE', -⟩ := hal.2.2 _ _ hkE
  have hasg : (T.vm.noted g.method.cls x.catchType (.cls cell.cls)).assignable cell.cls cell.cls = true := by
    show Vm.assignableAux _ (255 + 1) _ _ = true
    rw [Vm.assignableAux]; simp
  have hob : ∀ k, cell.vm ≠ .statics k := fun k => VmData.ne_statics_of hobj k
  obtain ⟨hgo, hw⟩ := X.here.throwing a
  have hvm : ((T.setTop g).pushFrame (.throwing a)).vm = T.vm := Stand.throwing_vm T g a
  have hhp : ((T.setTop g).pushFrame (.throwing a)).heap = T.heap := Stand.throwing_heap T g a
  have hfind : ∀ (Q : Handler → Pre) (E : CtlPost) (d : Bool) (acts : List Action), wp (findHandler g a) Q E e d acts ((T.setTop g).pushFrame (.throwing a)) ↔ Q (.found x.handlerPc) d acts (((T.setTop g).pushFrame (.throwing a)).setVm (T.vm.noted g.method.cls x.catchType (.cls cell.cls))) := by
    intro Q E d acts
    rw [W.findHandler_eq (meth := meth) (code := c) (by rw [hvm]; exact X.method') X.code, htab]
    have hx' : (decide (x.startPc ≤ g.pc) && decide (g.pc < x.endPc)) = true := hx
    simp only [← hvm] at hra hrt hasg hkE'
    have hcell' : ((T.setTop g).pushFrame (.throwing a)).heap[a]? = some cell := by rw [hhp]; exact hcell
    rw [← hvm]
    simp [findHandler.go, hx', h0, hra, hrt, hcell', hob, hkE', hasg, VmOp.dirties, VmOp.acts]
  refine Steps.head hgo hw ?_
  rw [stepThread_throwing (frames_entered X.here.top _)]
  have hstep : (stepThrowing e ((T.setTop g).pushFrame (.throwing a)) a (.java g :: T.frames.tail)).Is ((((T.setTop g).pushFrame (.throwing a)).setVm (T.vm.noted g.method.cls x.catchType (.cls cell.cls))).setFrames (.java { g with pc := x.handlerPc, stack := [.ref a] } :: T.frames.tail)) [] := by
    simp only [stepThrowing, searchFrame, vmDo]
    generalize hr : Sem.go _ e false [] ((T.setTop g).pushFrame (.throwing a)) = res
    obtain ⟨as, rfl, ha⟩ := Sem.eq_ok_of hr (a := Handler.found x.handlerPc) (s' := ((T.setTop g).pushFrame (.throwing a)).setVm (T.vm.noted g.method.cls x.catchType (.cls cell.cls))) (acts' := []) (by simp [hfind _ _ _ _])
    exact ⟨rfl, ha⟩
  rw [hstep.1]
  obtain ⟨g₀, hr⟩ := X.frames_eq
  have hr' : (T.setVm (T.vm.noted g.method.cls x.catchType (.cls cell.cls))).frames = .java g₀ :: below := hr
  rw [State.setTop_of_frames _ hr'] at hrest
  have e1 : (((T.setTop g).pushFrame (.throwing a)).setVm (T.vm.noted g.method.cls x.catchType (.cls cell.cls))).setFrames (.java { g with pc := x.handlerPc, stack := [.ref a] } :: T.frames.tail) = (T.setVm (T.vm.noted g.method.cls x.catchType (.cls cell.cls))).setFrames (.java { g with pc := x.handlerPc, stack := [.ref a] } :: below) := by
    rw [hr, List.tail_cons, State.pushFrame, State.setTop_of_frames _ hr, State.setFrames_setFrames]
    have z : ∀ (F G : List Frame) (w : Vm), ((T.setFrames F).setVm w).setFrames G = (T.setVm w).setFrames G := fun F G w => by
      show ((T.setVm w).setFrames F).setFrames G = _
      rw [State.setFrames_setFrames]
    exact z _ _ _
  rw [e1]
  exact hrest
/-- in the words of a walk: a call that returns, or throws an E that the first entry takes -/
theorem ux_run {Ts : List Cond} {own C E : String} {index : Nat} {y : MethodName} {bytes : ByteArray} {maxL nL n : Nat} {ret : Option FieldType} {cc : ByteArray}
    {ws : List Cond} {rm : Room} {Pc : Array Value → State → Prop} {Qc : Array Value → State → Outcome → State → Prop} {mc ms : Nat} {free : Addr → Prop} {b : Addr} {As rest : List Value} {pc : Nat} {ls : Array Slot} {st0 : List Value}
    {A0 : Nat → Prop} {H0 : Heap}
    (S : CallFix p m c cc nL s args Ts own) (hM : ux_Met l y ws rm Pc Qc mc ms free) (cw : CallW R s args own C index y bytes maxL ret ws rm mc ms n) (hp : PreV s H C b Pc As)
    {x : ExceptionTableEntry} {more : List ExceptionTableEntry} (htab : c.exceptionTable.toList = x :: more) (hx : covers x pc = true) (h0 : x.catchType ≠ 0) (hE : (Cond.classLink own x.catchType E).before args s = true)
    (hn : As.length = n) (hsize : ls.size = nL) (hstack : st0 = As.reverse ++ .ref b :: rest) (hW : (rest.map fun v => v.category).sum ≤ 8) (hdg : decode cc pc = .ok (.invokevirtual index, 3)) (hf : cells + mc ≤ R.cells ∧ slots + ms ≤ R.slots)
    (hS : va_S A0 H0 H locs) (hA : ∀ q, free q → A0 q)
    (hQ : ∀ st₀ o t, Qc (Value.ref b :: As).toArray st₀ o t → va_F A0 st₀ t ∧ ∀ z, o = .threw z → ∃ cell : Cell, t.heap[z]? = some cell ∧ cell.vm.isStatics = false ∧ t.vm.findClass E = some cell.cls)
    (kr : ∀ (v : Option Value) (st₀ t : State) (H1 : Heap) (locs1 : List Loc), st₀.heap = H → t.heap = H1 → s.vm.Alike t.vm → Qc (Value.ref b :: As).toArray st₀ (.returned v) t → va_S A0 H0 H1 locs1 → W p l e R s m args below meth c H1 locs1 (cells + mc) (slots + ms) Q (F0 m (pc + 3) ls (v.toList ++ rest)))
    (kt : ∀ (z : Addr) (st₀ t : State) (H1 : Heap) (locs1 : List Loc), st₀.heap = H → t.heap = H1 → s.vm.Alike t.vm → Qc (Value.ref b :: As).toArray st₀ (.threw z) t → va_S A0 H0 H1 locs1 → W p l e R s m args below meth c H1 locs1 (cells + mc) (slots + ms) Q (F0 m x.handlerPc ls [.ref z])) :
    W p l e R s m args below meth c H locs cells slots Q (F0 m pc ls st0) := by
  obtain ⟨⟨hrc, hrs, hfr, hlo, hws, hcw, hcode, hini, hy, hlen, hl⟩, hin, hse⟩ := cw
  obtain ⟨hxx, hb, hml, ho, -⟩ := S
  obtain ⟨hbl, ⟨cellB, hcB, hoB, hclB⟩, hPc⟩ := hp
  intro T hT X
  have hm0 : (F0 m pc ls st0).monitorRoom = 0 := rfl
  obtain ⟨o, st₀, t, T', L, e0, X', hL, e1, e2, hq, kR, kT⟩ := ux_callV X hxx (C := C) (bytes := bytes) (maxL := maxL) (ret := ret) hM hbl hrc hrs hfr hlo hws ho hl hin hse hcode hini hy (by rw [hT]; exact hcB) hoB hclB (g := F0 m pc ls st0) rfl (hsize.trans hml.symm) (argsL := As) (rest := rest) (fun sig h => hn.trans (hlen sig h)) hstack (by rw [hm0]; omega) (by rw [hb]; exact hdg) hf.1 hf.2
    (fun vm₁ hW₁ => hPc (T.setVm vm₁) hT hW₁)
  have e0' : st₀.heap = H := e0.trans hT
  obtain ⟨⟨hz, hk⟩, hthr⟩ := hQ _ _ _ hq
  rw [e0'] at hz hk
  have hS1 : va_S A0 H0 t.heap (locs ++ L) := ⟨Nat.le_trans hS.1 hz, fun q h1 h2 => by rw [hk q (Nat.lt_of_lt_of_le h1 hS.1) h2]; exact hS.2.1 q h1 h2, fun q hq => by
      rcases List.mem_append.mp hq with h | h
      · exact hS.2.2 q h
      · exact hA _ (hL q h)⟩
  have hal : s.vm.Alike t.vm := by rw [← e2]; exact X'.warmed.alike
  cases o with
  | returned v =>
    obtain ⟨t2, a1, b1⟩ := kr v st₀ t t.heap (locs ++ L) e0' rfl hal hq hS1 T' e1 X'
    exact ⟨t2, kR v rfl t2 a1, b1⟩
  | threw z =>
    obtain ⟨cell, hc1, hc2, hc3⟩ := hthr z rfl
    obtain ⟨vm', X2, kC⟩ := ux_catch X' (a := z) (g := { (F0 m pc ls st0) with stack := rest }) rfl ho htab hx h0 hE (by rw [e1]; exact hc1) hc2 (by rw [← hal.findClass]; exact hc3)
    obtain ⟨t2, a1, b1⟩ := kt z st₀ t t.heap (locs ++ L) e0' rfl hal hq hS1 (T'.setVm vm') e1 X2
    exact ⟨t2, kT z rfl t2 (kC t2 a1), b1⟩
theorem ux_dup {T : State} (X : Stand p l e R s m args below meth c T locs cells slots) (hexec : p.tables.exec = Jvm.exec) {pc : Nat} {ls : Array Slot} {va : Value} {rest : List Value} (hdg : decode c.code pc = .ok (.dup, 1)) (hva : va.category = 1) :
    ∀ tg, Steps p.tables e below (T.setTop (F0 m (pc + 1) ls (va :: va :: rest))) tg → Steps p.tables e below (T.setTop (F0 m pc ls (va :: rest))) tg := by
  intro tg htg
  jvm_step X.here [X.here.top, hexec, hdg, hva]
  exact htg
/-- 'new E(); athrow' where nothing was written before: the method ends, by a new cell, an E -/
theorem ux_throw {cc : ByteArray} {own E : String} {names : List String} {ic iN mc ms : Nat} {pc : Nat} {ls : Array Slot} {Qc : Array Value → State → Outcome → State → Prop} {free : Addr → Prop}
    (hexec : p.tables.exec = Jvm.exec) (htr : e.platform.stackTraces = false) (hb : c.code = cc) (hlk : meth.locks = false) (hnoH : c.exceptionTable.isEmpty = true) (hown : s.vm.findClass own = some m.cls) (hE : Bundle.fit E = true) (hnames : ∀ n ∈ names, Bundle.fit n = true)
    (hat : ∀ a ∈ Bundle.ownAtoms0 own ic E names, a.before args s = true) (hcl : (Cond.classLink own iN E).before args s = true) (hini : (Cond.initialized E).before args s = true) (hsize : ls.size = c.maxLocals)
    (d0 : decode cc pc = .ok (.new iN, 3)) (d3 : decode cc (pc + 3) = .ok (.dup, 1)) (d4 : decode cc (pc + 4) = .ok (.invokespecial ic, 3)) (d7 : decode cc (pc + 7) = .ok (.athrow, 1))
    (hmc : cells + 1 ≤ mc) (hms : slots + 6 ≤ ms) (hRc : cells + 1 ≤ R.cells) (hRs : slots + 6 ≤ R.slots) (hRf : names.length + 3 < R.frames) (hRl : 1 + (13 * (names.length + 1) + 41) ≤ R.locals) (hH : H = s.heap)
    (hq : ∀ (t : State) (z : Addr) (cell : Cell), s.WarmedH t.vm → t.heap[z]? = some cell → cell.vm.isStatics = false → t.vm.findClass E = some cell.cls → s.heap.size ≤ t.heap.size → (∀ q, q < s.heap.size → t.heap[q]? = s.heap[q]?) → Qc args s (.threw z) t) :
    W p l e R s m args below meth c H [] cells slots (ux_E below Qc args s mc ms free) (F0 m pc ls []) := by
  intro T hT X
  subst hb
  obtain ⟨vm', cC, kC, h1, h2, h3, h4, X1, st1⟩ := X.newCold hexec hown hcl (n := 6) (hat (.instantiable E 6) (by simp [Bundle.ownAtoms0])) hini (g := F0 m pc ls []) rfl d0 hRc hRs
  have hs0 : T.heap.size = s.heap.size := by rw [hT, hH]
  have hcellA : ((T.setVm vm').pushCell { cls := cC, slots := kC.instanceTypes.map defaultValue, vm := .none }).heap[T.heap.size]? = some (freshCell cC kC) := by
    have := State.heap_pushCell_size (T.setVm vm') ({ cls := cC, slots := kC.instanceTypes.map defaultValue, vm := .none } : Cell)
    exact this
  obtain ⟨U, hU, hrun, hend, hWU, hsame, ce, hce, hO⟩ := X1.ctorThrow0 hexec htr (ic := ic) hown hE hnames hat (by intro x hx; cases hx) h1 h2 hcellA (by rw [hs0]; exact Nat.le_refl _)
    (g := F0 m (pc + 4) ls [.ref T.heap.size, .ref T.heap.size]) rfl hsize rfl rfl (rest := []) rfl d4 d7 (fun x hx => by
      have : c.exceptionTable.toList = [] := by simpa using hnoH
      rw [this] at hx; cases hx) hRf (by show 2 * 0 + (1 + 0) + _ ≤ _; omega) hlk
  have hkeep : ∀ q, q < s.heap.size → U.heap[q]? = s.heap[q]? := by
    intro q hq
    obtain ⟨c', g1, g2, g3, g4⟩ := hsame.2.2.2.2.2 q s.heap[q] (Array.getElem?_eq_getElem hq)
    have g1' : U.heap[q]? = some c' := g1
    rw [g1', Array.getElem?_eq_getElem hq]
    have hsl : c'.slots = (s.heap[q]).slots := Array.ext_getElem? fun i => g4 i (by intro hh; cases hh)
    rw [g2, hsl]
  refine ⟨U, ?_, .threw T.heap.size, hrun, hend, hq U T.heap.size ce hWU hce (by rw [hO.vm]; rfl) (by rw [hWU.alike.findClass]; exact hO.cls) (by have := hsame.2.1; exact this) hkeep, [], ⟨hWU, hsame.mono hmc hms⟩, by intro q hq; cases hq⟩
  refine st1 _ ?_
  exact ux_dup X1 hexec d3 rfl _ hU
end UXW
