/-! Which words the rows behind use, by their places. -/
theorem tw_34 : (Jvm.Cond.classLink "UnikernelHttpLaw" (8 : Nat) "UnikernelHttp") ∈ lw_tbl := ux_in 34 ux_t1 rfl
theorem tw_35 : (Jvm.Cond.instantiable "UnikernelHttp" (14 : Nat)) ∈ lw_tbl := ux_in 35 ux_t1 rfl
theorem tw_36 : (Jvm.Cond.methodLink "UnikernelHttpLaw" (52 : Nat) ({ cls := "UnikernelHttp", name := "<init>", desc := "()V" } : Jvm.MethodName)) ∈ lw_tbl := ux_in 36 ux_t1 rfl
theorem tw_37 : (Jvm.Cond.instanceMethod ({ cls := "UnikernelHttp", name := "<init>", desc := "()V" } : Jvm.MethodName)) ∈ lw_tbl := ux_in 37 ux_t1 rfl
theorem tw_38 : (Jvm.Cond.code ({ cls := "UnikernelHttp", name := "<init>", desc := "()V" } : Jvm.MethodName) prog_1_method_1_code (1 : Nat) (Option.none : Option Jvm.ClassFile.FieldType)) ∈ lw_tbl := ux_in 38 ux_t1 rfl
theorem tw_1478 : (Jvm.Cond.classLink "UnikernelHttpLaw" (53 : Nat) "UnikernelHttpModel") ∈ lw_tbl := ux_in 38 ux_t7 rfl
theorem tw_1479 : (Jvm.Cond.instantiable "UnikernelHttpModel" (39 : Nat)) ∈ lw_tbl := ux_in 39 ux_t7 rfl
theorem tw_1480 : (Jvm.Cond.methodLink "UnikernelHttpLaw" (55 : Nat) ({ cls := "UnikernelHttpModel", name := "<init>", desc := "()V" } : Jvm.MethodName)) ∈ lw_tbl := ux_in 40 ux_t7 rfl
theorem tw_1481 : (Jvm.Cond.instanceMethod ({ cls := "UnikernelHttpModel", name := "<init>", desc := "()V" } : Jvm.MethodName)) ∈ lw_tbl := ux_in 41 ux_t7 rfl
theorem tw_1482 : (Jvm.Cond.code ({ cls := "UnikernelHttpModel", name := "<init>", desc := "()V" } : Jvm.MethodName) prog_14_method_1_code (2 : Nat) (Option.none : Option Jvm.ClassFile.FieldType)) ∈ lw_tbl := ux_in 42 ux_t7 rfl
abbrev b_La_law : ByteArray := code
abbrev y_La_law : MethodName := ⟨"UnikernelHttpLaw", "law", "([I)Z"⟩
theorem d_La_law_0 : decode b_La_law 0 = .ok (.new 8, 3) := by decide +kernel
theorem d_La_law_3 : decode b_La_law 3 = .ok (.dup, 1) := by decide +kernel
theorem d_La_law_4 : decode b_La_law 4 = .ok (.invokespecial 52, 3) := by decide +kernel
theorem d_La_law_7 : decode b_La_law 7 = .ok (.astore_n 1, 1) := by decide +kernel
theorem d_La_law_8 : decode b_La_law 8 = .ok (.new 53, 3) := by decide +kernel
theorem d_La_law_11 : decode b_La_law 11 = .ok (.dup, 1) := by decide +kernel
theorem d_La_law_12 : decode b_La_law 12 = .ok (.invokespecial 55, 3) := by decide +kernel
theorem d_La_law_15 : decode b_La_law 15 = .ok (.astore_n 2, 1) := by decide +kernel
theorem d_La_law_16 : decode b_La_law 16 = .ok (.iconst 1, 1) := by decide +kernel
theorem d_La_law_17 : decode b_La_law 17 = .ok (.newarray .long, 2) := by decide +kernel
theorem d_La_law_19 : decode b_La_law 19 = .ok (.astore_n 3, 1) := by decide +kernel
theorem d_La_law_20 : decode b_La_law 20 = .ok (.iconst 0, 1) := by decide +kernel
theorem d_La_law_21 : decode b_La_law 21 = .ok (.istore 4, 2) := by decide +kernel
theorem d_La_law_23 : decode b_La_law 23 = .ok (.iload 4, 2) := by decide +kernel
theorem d_La_law_25 : decode b_La_law 25 = .ok (.aload_n 0, 1) := by decide +kernel
theorem d_La_law_26 : decode b_La_law 26 = .ok (.arraylength, 1) := by decide +kernel
theorem d_La_law_27 : decode b_La_law 27 = .ok (.bipush 6, 2) := by decide +kernel
theorem d_La_law_29 : decode b_La_law 29 = .ok (.isub, 1) := by decide +kernel
theorem d_La_law_30 : decode b_La_law 30 = .ok (.if_icmp .gt 727, 3) := by decide +kernel
theorem d_La_law_751 : decode b_La_law 751 = .ok (.iinc 4 6, 3) := by decide +kernel
theorem d_La_law_754 : decode b_La_law 754 = .ok (.goto (-731), 3) := by decide +kernel
theorem d_La_law_757 : decode b_La_law 757 = .ok (.iconst 1, 1) := by decide +kernel
theorem d_La_law_758 : decode b_La_law 758 = .ok (.ireturn, 1) := by decide +kernel
/-! THE CLAIM OUT OF ONE WALK OF THE LAW'S BODY. Your part is whole_start (and what it stands on); all else here is the same for every law, but numbers. -/
def R_law : String := "UnikernelHttpLaw"
def lw_P (b : Addr) (xs : List Int32) (args : Array Value) (s : State) : Prop := args = #[.ref b] ∧ s.IntsAt b xs ∧ xs.length ≤ 6 ∧ (Jvm.Cond.and given_1 narrow_1).before args s = true
def lw_Q (_ : Array Value) (s : State) (o : Outcome) (t : State) : Prop := o = .returned (some (.int 1)) ∧ Framed s o t [] 600002 7302232
def lw_Z (below : List Frame) (a : Array Value) (s : State) : State → Prop := fun t => ∃ o, t.status = .running ∧ Ended t below o ∧ lw_Q a s o t
/-- the law's own end, with 1 on the stack, nothing written that was there before, its room as the claim has it -/
theorem lw_ret {p : Program} {l : Launch} {e : Env} {s : State} {m : MethodId} {below : List Frame} {meth : Method} {c : Code} {b : Nat} (hx : p.tables.exec = Jvm.exec) (hb : c.code = code) (hr : meth.sig.returnType = ret) (hlocks : meth.locks = false) {pc : Nat} {H : Heap} {ls : Array Slot} (hdg : decode code pc = .ok (.ireturn, 1)) : W p l e room_1 s m #[Value.ref b] below meth c H [] 600002 7302232 (lw_Z below #[Value.ref b] s) (F0 m pc ls [.int 1]) := by
  intro T hT X
  obtain ⟨fs, hret, hrun, hended, hW, hframe⟩ := X.leave (v := some (.int 1)) (hlocks := hlocks) (fun h => by rw [hr] at h; cases h)
  have hmeth' : T.vm.method? m = some meth := X.method'
  refine ⟨T.setFrames fs, ?_, .returned (some (.int 1)), hrun, hended, rfl, ⟨_, rfl⟩, hW, hframe⟩
  jvm_step X.here [X.here.top, hx, hb, hdg, hmeth', hr, ret, narrow_b1]
  (try refine ⟨rfl, ?_⟩); (try refine ⟨rfl, ?_⟩)
  first | (intro acts; rw [hret _ acts rfl rfl rfl]) | rw [hret _ _ rfl rfl rfl]
  exact Steps.refl _
/-- what holds at the law's entry: the machine, the code, the tables' words (any of lw_tbl by 'hts w (by decide +kernel)'), the script of L ints xs at the cell b, what the Statement gives of the start (any of its parts by flat_of_before) -/
def lw_At (p : Program) (s : State) (m : MethodId) (meth : Method) (c : Code) (b L : Nat) (xs : Nat → Int32) : Prop :=
  p.tables.exec = Jvm.exec ∧ c.code = code ∧ meth.sig.returnType = ret ∧ c.maxLocals = 8 ∧ s.vm.findClass R_law = some m.cls ∧ (∀ w ∈ lw_tbl, w.before #[Value.ref b] s = true) ∧ va_X b L xs s s.heap ∧ b < s.heap.size ∧ meth.locks = false ∧ (Jvm.Cond.and given_1 narrow_1).before #[Value.ref b] s = true
set_option maxHeartbeats 4000000 in
set_option maxRecDepth 100000 in
theorem law_end {p : Program} {e : Env} {s : State} {m : MethodId} {below : List Frame} {meth : Method} {c : Code} (l : Launch) {b : Nat} {xs : Nat → Int32} {A : Nat → Prop} (hA2 : ∀ q, A q → s.heap.size ≤ q) (C0 : lw_At p s m meth c b 6 xs) {H : Heap} {locs : List Loc} {ls : Array Slot} {cells slots : Nat} (hc : cells ≤ 600002) (hs : slots ≤ 7302232) (hS : va_S A s.heap H locs) (hl : lv_has ls 8 [(0, .ref b), (4, .int 0)]) : W p l e room_1 s m #[Value.ref b] below meth c H locs cells slots (lw_Z below #[Value.ref b] s) (F0 m 751 ls []) := by
  obtain ⟨hx, hb, hr, hml, hown, hts, hX, hbl, hlocks, hgv⟩ := C0
  have hown : s.vm.findClass "UnikernelHttpLaw" = some m.cls := hown
  have hbA : ¬ A b := fun h => absurd (hA2 b h) (by omega)
  have hfx : CallFix p m c b_La_law 8 s #[Value.ref b] [] "UnikernelHttpLaw" := ⟨hx, hb, hml, hown, fun _ h => by cases h⟩
  refine lv_iinc (v := 6) hx hb d_La_law_751 hl (k := 1) rfl (by decide) (by decide) rfl (fun ls hl => ?_)
  have hl : lv_has ls 8 [(4, .int 6), (0, .ref b)] := hl
  refine lv_goto hx hb d_La_law_754 (tgt := 23) (by decide) ?_
  refine lv_iload hx hb d_La_law_23 (lv_at hl 0 rfl) ?_
  refine lv_aload_n hx hb d_La_law_25 rfl (lv_at hl 1 rfl) ?_
  refine va_slen hx hb hX hbl hbA hS d_La_law_26 ?_
  refine lv_topi (fun x1 ex1 => ?_)
  obtain rfl : x1 = 6 := ex1.trans (by decide)
  refine lv_bipush (v := 6) hx hb d_La_law_27 (by decide) ?_
  refine lv_isub hx hb d_La_law_29 ?_
  refine lv_topi (fun x2 ex2 => ?_)
  obtain rfl : x2 = 0 := ex2.trans (by decide)
  refine lv_icmp_gt (tgt := 757) hx hb d_La_law_30 (by decide) (fun _ => ?_) (fun hc => absurd (by decide) hc)
  refine lv_iconst (v := 1) hx hb d_La_law_757 (by decide) ?_
  refine va_forget (fun q h => hA2 _ (hS.2.2 q h)) ?_
  refine W.widen (k := 600002) (n := 7302232) hc hs ?_
  exact lw_ret hx hb hr hlocks d_La_law_758
