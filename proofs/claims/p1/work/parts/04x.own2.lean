/-! Own rows: a throw behind pure calls; the words on Throwable's statics; a static call of a method with a table. -/
def ux_W4 : List Cond := [.laysStatic "java/lang/Throwable" "UNASSIGNED_STACK" "[Ljava/lang/StackTraceElement;", .laysStatic "java/lang/Throwable" "SUPPRESSED_SENTINEL" "Ljava/util/List;", .isRef (.static "java/lang/Throwable" "UNASSIGNED_STACK" "[Ljava/lang/StackTraceElement;"), .isRef (.static "java/lang/Throwable" "SUPPRESSED_SENTINEL" "Ljava/util/List;")]
def ux_H (U : State) : Prop := ∀ w ∈ ux_W4, ∀ A : Array Value, w.before A U = true
theorem ux_lay_move {o n d : String} {A A' : Array Value} {s U : State} (hW : s.WarmedH U.vm) (hh : ∀ q, q < s.heap.size → U.heap[q]? = s.heap[q]?) (h : (Cond.laysStatic o n d).before A s = true) : (Cond.laysStatic o n d).before A' U = true := by
  have h1 : (Cond.laysStatic o n d).before A (s.setVm U.vm) = true := by
    have := Cond.value_setVm₂ (args := A) (o := none) hW.alike hW.alike (.laysStatic o n d) [] rfl
    unfold Cond.before Cond.holds at h ⊢
    rw [this]
    exact h
  unfold Cond.before Cond.holds at h1 ⊢
  simp only [Cond.value, beq_iff_eq] at h1 ⊢
  have e1 : (s.setVm U.vm).vm = U.vm := rfl
  have e2 : (s.setVm U.vm).fieldFound? o n d = U.fieldFound? o n d := rfl
  have e3 : (s.setVm U.vm).heap = s.heap := rfl
  rw [e1, e2, e3] at h1
  cases hc : U.vm.findClass o with
  | none => simp [hc] at h1
  | some c =>
    cases hf : U.fieldFound? o n d with
    | none => simp [hc, hf] at h1
    | some r =>
      obtain ⟨c', k, i, f⟩ := r
      simp only [hc, hf] at h1 ⊢
      cases hs : k.statics with
      | none => simp [hs] at h1
      | some a =>
        simp only [hs, Option.bind_some] at h1 ⊢
        cases ha : s.heap[a]? with
        | none => simp [ha] at h1
        | some cell =>
          have hlt : a < s.heap.size := (Array.getElem?_eq_some_iff.mp ha).1
          rw [hh a hlt]
          exact h1
theorem ux_ref_move {o n d : String} {A A' : Array Value} {s U : State} (hW : s.WarmedH U.vm) (hh : ∀ q, q < s.heap.size → U.heap[q]? = s.heap[q]?) (h : (Cond.isRef (.static o n d)).before A s = true) : (Cond.isRef (.static o n d)).before A' U = true := by
  have h1 : (Cond.isRef (.static o n d)).before A (s.setVm U.vm) = true := by
    have := Cond.value_setVm₂ (args := A) (o := none) hW.alike hW.alike (.isRef (.static o n d)) [] rfl
    unfold Cond.before Cond.holds at h ⊢
    rw [this]
    exact h
  unfold Cond.before Cond.holds at h1 ⊢
  simp only [Cond.value, Term.eval, beq_iff_eq] at h1 ⊢
  have e2 : (s.setVm U.vm).fieldNamed? o n d true = U.fieldNamed? o n d true := rfl
  have e3 : (s.setVm U.vm).heap = s.heap := rfl
  rw [e2, e3] at h1
  cases hf : U.fieldNamed? o n d true with
  | none => simp [hf] at h1
  | some r =>
    obtain ⟨c', k, i⟩ := r
    simp only [hf, Option.bind_eq_bind, Option.bind_some] at h1 ⊢
    cases hs : k.statics with
    | none => simp [hs] at h1
    | some a =>
      simp only [hs, Option.bind_some] at h1 ⊢
      cases ha : s.heap[a]? with
      | none => simp [ha] at h1
      | some cell =>
        have hlt : a < s.heap.size := (Array.getElem?_eq_some_iff.mp ha).1
        rw [hh a hlt]
        exact h1
theorem ux_H_move {s U : State} (hW : s.WarmedH U.vm) (hh : ∀ q, q < s.heap.size → U.heap[q]? = s.heap[q]?) (h : ux_H s) : ux_H U := by
  intro w hw A
  simp only [ux_W4, List.mem_cons, List.not_mem_nil, or_false] at hw
  rcases hw with rfl | rfl | rfl | rfl
  · exact ux_lay_move (A := #[]) hW hh (h _ (by simp [ux_W4]) _)
  · exact ux_lay_move (A := #[]) hW hh (h _ (by simp [ux_W4]) _)
  · exact ux_ref_move (A := #[]) hW hh (h _ (by simp [ux_W4]) _)
  · exact ux_ref_move (A := #[]) hW hh (h _ (by simp [ux_W4]) _)
theorem ux_off {l : Launch} {e : Env} (hf : l.flags = flags0) (ha : l.admits e) : e.platform.stackTraces = false := by
  obtain ⟨-, -, -, -, hp, -⟩ := ha
  rw [hp]
  show l.stackTraces = false
  unfold Launch.stackTraces
  rw [hf]
  decide
/-- a contract's start where something may be thrown -/
def ux_PcH (av : List Value) (D : va_G) (cl : List vw_C) (ws : va_W) (tys : List (ClassId × FieldType)) (sz : Nat) : Array Value → State → Prop := fun v U => ux_Pc av D cl ws tys sz v U ∧ ux_H U
/-- a contract's end by an E -/
def ux_X (E : String) (A : Nat → Prop) : Array Value → State → Outcome → State → Prop := fun _ st o t => (∃ (z : Addr) (cell : Cell), o = .threw z ∧ t.heap[z]? = some cell ∧ cell.vm.isStatics = false ∧ t.vm.findClass E = some cell.cls) ∧ va_F A st t
theorem ux_preH {s : State} {H : Heap} {D : va_G} {cl : List vw_C} {ws : va_W} {tys : List (ClassId × FieldType)} {A : Nat → Prop} (av : List Value) (hT : ux_T s) (hH : ux_H s) (hh : ∀ q, q < s.heap.size → H[q]? = s.heap[q]?) (hP : va_P D cl ws H) (hK : va_K D cl tys s) (hD : va_D A ws) : PreS s H (ux_PcH av D cl ws tys H.size) av :=
  ⟨fun a U g mk q => ⟨(ux_pre av hT hP hK hD).1 a U g mk q.1, ux_H_move (s := U) (U := U.calling g mk a) (State.WarmedH.refl U) (fun _ _ => rfl) q.2⟩,
   fun U hU hW => ⟨(ux_pre av hT hP hK hD).2 U hU hW, ux_H_move hW (fun q hq => by rw [hU]; exact hh q hq) hH⟩⟩
theorem ux_preHV {s : State} {H : Heap} {D : va_G} {cl : List vw_C} {ws : va_W} {tys : List (ClassId × FieldType)} {A : Nat → Prop} {r : vw_C} {b ci q0 : Nat} {fs : List Value} (As : List Value) (hT : ux_T s) (hH : ux_H s) (hh : ∀ q, q < s.heap.size → H[q]? = s.heap[q]?) (hP : va_P D cl ws H) (hK : va_K D cl tys s) (hD : va_D A ws) (hc : cl[ci]? = some r) (he : ws[q0]? = some (b, .inr (ci, fs))) : PreV s H r.1 b (ux_PcH (.ref b :: As) D cl ws tys H.size) As :=
  ⟨(ux_preH (.ref b :: As) hT hH hh hP hK hD).1, va_recv hK hP hc he, (ux_preH (.ref b :: As) hT hH hh hP hK hD).2⟩
/-- nothing of a world is a cell of statics -/
theorem ux_ns {D : va_G} {cl : List vw_C} {ws : va_W} {H : Heap} (hP : va_P D cl ws H) : ∀ (q : Nat) (cell : Cell), va_A ws H.size q → H[q]? = some cell → cell.vm.isStatics = false := by
  intro q cell hA hc
  rcases hA with ⟨k, e, he⟩ | h
  · have h1 := hP k _ he
    cases e with
    | inl x =>
      have h2 : H[q]? = some (vp_cell x.1 x.2) := h1
      rw [hc] at h2
      cases h2
      obtain ⟨c0, n, b⟩ := x
      rcases b with f | f | f | f | f <;> rfl
    | inr o =>
      obtain ⟨r, -, cell', h2, -, h3, -⟩ := h1
      have h2' : H[q]? = some cell' := h2
      rw [hc] at h2'
      cases h2'
      rw [h3]
      rfl
  · rw [Array.getElem?_eq_none (by exact h)] at hc
    cases hc
section UXT
variable {p : Program} {l : Launch} {e : Env} {R : Room} {s : State} {m : MethodId} {args : Array Value} {below : List Frame} {meth : Method} {c : Code} {H : Heap} {locs : List Loc} {cells slots : Nat} {Q : State → Prop}
theorem ux_throwX {cc : ByteArray} {own E : String} {names : List String} {ic iN mc ms : Nat} {pc : Nat} {ls : Array Slot} {A : Nat → Prop}
    (hexec : p.tables.exec = Jvm.exec) (htr : e.platform.stackTraces = false) (hb : c.code = cc) (hlk : meth.locks = false) (hnoH : c.exceptionTable.isEmpty = true) (hown : s.vm.findClass own = some m.cls) (hE : Bundle.fit E = true) (hnames : ∀ n ∈ names, Bundle.fit n = true)
    (hat : ∀ a ∈ Bundle.ownAtoms0 own ic E names, a.before args s = true) (hcl : (Cond.classLink own iN E).before args s = true) (hini : (Cond.initialized E).before args s = true) (hsize : ls.size = c.maxLocals)
    (d0 : decode cc pc = .ok (.new iN, 3)) (d3 : decode cc (pc + 3) = .ok (.dup, 1)) (d4 : decode cc (pc + 4) = .ok (.invokespecial ic, 3)) (d7 : decode cc (pc + 7) = .ok (.athrow, 1))
    (hmc : cells + 1 ≤ mc) (hms : slots + 6 ≤ ms) (hRc : cells + 1 ≤ R.cells) (hRs : slots + 6 ≤ R.slots) (hRf : names.length + 3 < R.frames) (hRl : 1 + (13 * (names.length + 1) + 41) ≤ R.locals)
    (hS : va_S A s.heap H locs) (hns : ∀ (q : Nat) (cell : Cell), A q → s.heap[q]? = some cell → cell.vm.isStatics = false) :
    W p l e R s m args below meth c H locs cells slots (ux_E below (ux_X E A) args s mc ms A) (F0 m pc ls []) := by
  intro T hT X
  subst hb
  obtain ⟨vm', cC, kC, h1, h2, h3, h4, X1, st1⟩ := X.newCold hexec hown hcl (n := 6) (hat (.instantiable E 6) (by simp [Bundle.ownAtoms0])) hini (g := F0 m pc ls []) rfl d0 hRc hRs
  have hs0 : s.heap.size ≤ T.heap.size := by rw [hT]; exact hS.1
  have hcellA : ((T.setVm vm').pushCell { cls := cC, slots := kC.instanceTypes.map defaultValue, vm := .none }).heap[T.heap.size]? = some (freshCell cC kC) := by
    have := State.heap_pushCell_size (T.setVm vm') ({ cls := cC, slots := kC.instanceTypes.map defaultValue, vm := .none } : Cell)
    exact this
  obtain ⟨U, hU, hrun, hend, hWU, hsame, ce, hce, hO⟩ := X1.ctorThrow0 hexec htr (ic := ic) hown hE hnames hat (fun x hx cell hc => hns x.base cell (hS.2.2 x hx) hc) h1 h2 hcellA hs0
    (g := F0 m (pc + 4) ls [.ref T.heap.size, .ref T.heap.size]) rfl hsize rfl rfl (rest := []) rfl d4 d7 (fun x hx => by
      have : c.exceptionTable.toList = [] := by simpa using hnoH
      rw [this] at hx; cases hx) hRf (by show 2 * 0 + (1 + 0) + _ ≤ _; omega) hlk
  have hkeep : ∀ q, q < s.heap.size → ¬ A q → U.heap[q]? = s.heap[q]? := by
    intro q hq hnA
    obtain ⟨c', g1, g2, g3, g4⟩ := hsame.2.2.2.2.2 q s.heap[q] (Array.getElem?_eq_getElem hq)
    have g1' : U.heap[q]? = some c' := g1
    rw [g1', Array.getElem?_eq_getElem hq]
    have hsl : c'.slots = (s.heap[q]).slots := Array.ext_getElem? fun i => g4 i (fun hh => hnA (hS.2.2 ⟨q, i⟩ hh))
    rw [g2, hsl]
  refine ⟨U, ?_, .threw T.heap.size, hrun, hend, ⟨⟨T.heap.size, ce, rfl, hce, by rw [hO.vm]; rfl, by rw [hWU.alike.findClass]; exact hO.cls⟩, (by have := hsame.2.1; exact this), hkeep⟩, locs, ⟨hWU, hsame.mono hmc hms⟩, hS.2.2⟩
  refine st1 _ ?_
  exact ux_dup X1 hexec d3 rfl _ hU
/-- a static call of a method with a table -/
theorem ux_runSW {y : MethodName} {bytes cc : ByteArray} {maxL nL mc ms n index : Nat} {ret : Option FieldType} {hh : List (Nat × Nat × Nat × Nat)} {rm : Room} {Pc : Array Value → State → Prop} {Qc : Array Value → State → Outcome → State → Prop} {free : Addr → Prop} {Ts : List Cond} {own : String} {As rest : List Value} {g : JFrame}
    (S : CallFix p m c cc nL s args Ts own) (hM : Met l y [Cond.codeWith y bytes maxL ret hh] rm Pc Qc mc ms free) (hTT : ux_T s) (h1 : Cond.codeWith y bytes maxL ret hh ∈ lw_tbl) (h2 : Cond.methodLink own index y ∈ lw_tbl) (h3 : Cond.initialized y.cls ∈ lw_tbl) (h4 : Cond.static y ∈ lw_tbl) (hrc : rm.cells = mc) (hrs : rm.slots = ms)
    (hd : y.cls ≠ "java/lang/invoke/MethodHandle" ∧ y.cls ≠ "java/lang/invoke/VarHandle" ∧ (parseMethodDescriptor y.desc).map (fun d => d.parameters.length) = some n) (hR : rm.frames + 1 ≤ R.frames ∧ 8 + (maxL + 11) + rm.locals ≤ R.locals) (hp : PreS s H Pc As)
    (hg : g.method = m) (hn : As.length = n) (hsize : g.locals.size = nL) (hstack : g.stack = As.reverse ++ rest) (hW : 2 * g.monitorRoom + (rest.map fun v => v.category).sum ≤ 8) (hdg : decode cc g.pc = .ok (.invokestatic index, 3)) (hf : cells + mc ≤ R.cells ∧ slots + ms ≤ R.slots) :
    va_Run p l e R s m args below meth c H locs cells slots mc ms g rest (Qc As.toArray) (free) := by
  have hcode : (Cond.codeWith y bytes maxL ret hh).before args s = true := ux_T_at hTT h1 rfl
  have hK : Back l R p e below s args y 3 8 (PreOf R mc ms Pc) (PostOf Qc mc ms free) := va_backW (hh := hh) (bytes := bytes) (maxL := maxL) (ret := ret) hM hp.1 hrc hrs hR.1 hR.2 (fun w hw a' U hW => by
    rw [List.mem_singleton] at hw
    subst hw
    exact ux_T_at (ux_T_warm hTT hW) h1 rfl) (List.mem_singleton.mpr rfl) (fun a' U hW => ux_T_at (ux_T_warm hTT hW) h3 rfl)
  obtain ⟨hx, hb, hml, ho, -⟩ := S
  intro T hT X
  obtain ⟨mk, methM, cM, hnamed, hmethM, -, -, -, -, -, -, hsigM⟩ := Cond.codeWith_spec hcode
  have hstatic : methM.isStatic = true := Cond.static_spec hnamed hmethM (ux_T_at hTT h4 rfl (A := args))
  obtain ⟨kP, hkP, -⟩ := className_of_methodNamed hnamed
  have hinitP : kP.init = .initialized := Cond.initialized_spec (findClass_of_methodNamed hnamed) hkP (ux_T_at hTT h3 rfl (A := args))
  have hlen : As.length = methM.sig.parameters.length := by
    have z := hd.2.2
    rw [hsigM] at z
    rw [hn]
    exact (Option.some.inj z).symm
  obtain ⟨vm₁, X₁, hstep₁⟩ := X.invokestatic hx ho (ux_T_at hTT h2 rfl) hnamed hmethM hstatic hkP hinitP ⟨hd.1, hd.2.1⟩ (g := g) hg (argsL := As) (rest := rest) hlen hstack (by rw [hb]; exact hdg)
  obtain ⟨v, B, X', hpost, hsteps⟩ := hK m meth c ⟨T.setVm vm₁, locs, cells, slots⟩ { g with stack := rest } (.invokestatic index) mk As.toArray X₁ hg (hsize.trans hml.symm) (by rw [hb]; exact hdg) hW (X₁.named hnamed) ⟨hf.1, hf.2, hp.2 (T.setVm vm₁) hT X₁.warmed⟩
  obtain ⟨U', l2, c2, s2⟩ := B
  obtain ⟨g', mk', t, L, e1, e2, hq, q1, hL, q2, q3⟩ := hpost
  dsimp only [Pt.U, Pt.locs, Pt.cells, Pt.slots] at X' e1 e2 q1 q2 q3 hsteps
  subst q1; subst q2; subst q3
  exact ⟨v, (T.setVm vm₁).calling g' mk' As.toArray, t, U', L, hT, X', hL, e1, e2, hq, fun target h => hstep₁ _ fun acts => by rw [doInvoke_state]; exact hsteps.trans h⟩
end UXT
