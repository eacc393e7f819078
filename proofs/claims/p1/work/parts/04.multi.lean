/-! Own row: 'multianewarray' of two dimensions over bytes: what was there stays, the new cells lie behind it. -/
section UXM
variable {E : CtlPost} {e : Env} {d : Bool} {acts : List Action} {s : State}
theorem ux_wpNew {ca comp : ClassId} {k : Class} {ty : FieldType} {n : Nat} {v : Value} (hk : s.vm.classes[ca]? = some k) (hkind : k.kind = .array comp ty) (h1 : ¬ n > e.platform.arrayLengthLimit) (h2 : ¬ n * componentBytes ty > e.platform.maxHeapBytes)
    (hf : fits ty v = true) (hdv : v.isDefault = true) (hc : s.heap.size < e.platform.maxCells) (hs : s.slotsUsed + n ≤ e.platform.maxSlots) {Q : Addr → Pre} (hq : Q s.heap.size d acts (s.pushCell { cls := ca, slots := Array.replicate n v, vm := .none })) : wp (Jvm.newArray ca n v) Q E e d acts s := by
  have hfs : ∀ i w, (Array.replicate n v)[i]? = some w → s.fitsSlot ca .none i w = true := by
    intro i w hw
    rw [Array.getElem?_replicate] at hw
    split at hw
    · cases hw
      simp [State.fitsSlot, State.slotType?, hk, hkind, hf]
    · cases hw
  have hda : allocActs (Array.replicate n v) s.heap.size acts = acts := by
    unfold allocActs
    rw [if_pos]
    rw [Array.all_replicate]
    split <;> simp [hdv]
  simp only [Jvm.newArray, Jvm.arrayFits, wp_bind', W.ask, W.ite, h1, if_false, wp_pure', W.theClass, hk, hkind, h2, W.alloc, W.stop, Option.some.injEq, exists_eq_left', Array.size_replicate, hda]
  rw [if_neg (by omega)]
  exact ⟨hc, hs, hfs, hq⟩
end UXM
/-- the outer row when i of its places are filled; h: its address -/
def ux_oc (ca : ClassId) (N h : Nat) : Nat → Cell
  | 0 => { cls := ca, slots := Array.replicate N .null, vm := .none }
  | i + 1 => (ux_oc ca N h i).setSlot i (.ref (h + 1 + i))
def ux_ic (comp : ClassId) (M : Nat) : Cell := { cls := comp, slots := Array.replicate M (.int 0), vm := .none }
def ux_z (T : State) (ca comp : ClassId) (N M : Nat) : Nat → State
  | 0 => T.pushCell (ux_oc ca N T.heap.size 0)
  | i + 1 => ((ux_z T ca comp N M i).pushCell (ux_ic comp M)).setCell T.heap.size (ux_oc ca N T.heap.size (i + 1))
theorem ux_oc_facts (ca : ClassId) (N h : Nat) : ∀ i, (ux_oc ca N h i).cls = ca ∧ (ux_oc ca N h i).vm = .none ∧ (ux_oc ca N h i).slots.size = N
  | 0 => ⟨rfl, rfl, by simp [ux_oc]⟩
  | i + 1 => by
    obtain ⟨h1, h2, h3⟩ := ux_oc_facts ca N h i
    exact ⟨by simp [ux_oc, Cell.setSlot, h1], by simp [ux_oc, Cell.setSlot, h2], by simp [ux_oc, Cell.setSlot, h3]⟩
theorem ux_z_facts (T : State) (ca comp : ClassId) (N M : Nat) : ∀ i, (ux_z T ca comp N M i).heap.size = T.heap.size + 1 + i ∧ (ux_z T ca comp N M i).heap[T.heap.size]? = some (ux_oc ca N T.heap.size i) ∧ (ux_z T ca comp N M i).vm = T.vm ∧ (ux_z T ca comp N M i).slotsUsed = T.slotsUsed + N + i * M ∧ ∀ a, a < T.heap.size → (ux_z T ca comp N M i).heap[a]? = T.heap[a]?
  | 0 => ⟨by simp [ux_z], State.heap_pushCell_size _ _, rfl, by simp [ux_z, ux_oc], fun a ha => State.heap_pushCell_of_lt _ _ ha⟩
  | i + 1 => by
    obtain ⟨h1, h2, h3, h4, h5⟩ := ux_z_facts T ca comp N M i
    have hlt : T.heap.size < (ux_z T ca comp N M i).heap.size := by omega
    have h6 : ((ux_z T ca comp N M i).pushCell (ux_ic comp M)).heap[T.heap.size]? = some (ux_oc ca N T.heap.size i) := by rw [State.heap_pushCell_of_lt (h := hlt)]; exact h2
    refine ⟨?_, State.heap_setCell_self h6, by simp [ux_z, h3], ?_, fun a ha => ?_⟩
    · simp [ux_z, State.setCell, h1]; omega
    · simp [ux_z, h4, ux_ic, Nat.succ_mul]; omega
    · show (((ux_z T ca comp N M i).pushCell (ux_ic comp M)).setCell T.heap.size _).heap[a]? = _
      have ha2 : a < (ux_z T ca comp N M i).heap.size := by omega
      rw [State.heap_setCell_other (Nat.ne_of_gt ha), State.heap_pushCell_of_lt (h := ha2)]
      exact h5 a ha
theorem ux_z_top (T : State) (f : JFrame) (ca comp : ClassId) (N M : Nat) : ∀ i, ux_z (T.setTop f) ca comp N M i = (ux_z T ca comp N M i).setTop f
  | 0 => rfl
  | i + 1 => by simp only [ux_z, ux_z_top T f ca comp N M i, State.heap_setTop, State.pushCell_setTop, State.setCell_setTop]
theorem ux_refFits {t : FieldType} (h : t.isReference = true) (v : Value) (hv : v = .null ∨ ∃ a, v = .ref a) : fits t v = true := by
  rcases hv with rfl | ⟨a, rfl⟩ <;> cases t <;> simp [FieldType.isReference] at h <;> rfl
section UXL
variable {E : CtlPost} {e : Env} {d : Bool} {acts : List Action} {s : State}
theorem ux_wpInner {comp cc : ClassId} {k : Class} {n : Int32} (hk : s.vm.classes[comp]? = some k) (hkind : k.kind = .array cc .byte) (hn : ¬ n < 0) (h1 : ¬ n.toNatClampNeg > e.platform.arrayLengthLimit) (h2 : ¬ n.toNatClampNeg * componentBytes .byte > e.platform.maxHeapBytes)
    (hc : s.heap.size < e.platform.maxCells) (hs : s.slotsUsed + n.toNatClampNeg ≤ e.platform.maxSlots) {Q : Addr → Pre} (hq : Q s.heap.size d acts (s.pushCell (ux_ic comp n.toNatClampNeg))) : wp (multianewarray.make comp [n]) Q E e d acts s := by
  rw [multianewarray.make]
  simp only [wp_bind', W.ite, hn, if_false, wp_pure', W.theClass, hk, hkind, Option.some.injEq, exists_eq_left']
  exact ux_wpNew hk hkind h1 h2 rfl rfl hc hs hq
theorem ux_wpMake {ca comp cc : ClassId} {kA kC : Class} {n k : Int32} (hkA : s.vm.classes[ca]? = some kA) (hA : kA.kind = .array comp (.array .byte)) (hkC : s.vm.classes[comp]? = some kC) (hC : kC.kind = .array cc .byte) (hn : ¬ n < 0) (hk : ¬ k < 0)
    (h1 : ¬ n.toNatClampNeg > e.platform.arrayLengthLimit) (h2 : ¬ n.toNatClampNeg * componentBytes (.array .byte) > e.platform.maxHeapBytes) (h3 : ¬ k.toNatClampNeg > e.platform.arrayLengthLimit) (h4 : ¬ k.toNatClampNeg * componentBytes .byte > e.platform.maxHeapBytes)
    (hc : s.heap.size + 1 + n.toNatClampNeg ≤ e.platform.maxCells) (hs : s.slotsUsed + n.toNatClampNeg + n.toNatClampNeg * k.toNatClampNeg ≤ e.platform.maxSlots)
    {Q : Addr → Pre} (hq : ∀ d' acts', Q s.heap.size d' acts' (ux_z s ca comp n.toNatClampNeg k.toNatClampNeg n.toNatClampNeg)) : wp (multianewarray.make ca [n, k]) Q E e d acts s := by
  have hfind : ([k].find? (· < 0)) = none := by simp [hk]
  generalize hN : n.toNatClampNeg = N at h1 h2 hc hs hq
  rw [multianewarray.make]
  simp only [wp_bind', W.ite, hn, if_false, wp_pure', W.theClass, hkA, hA, Option.some.injEq, exists_eq_left', hN]
  refine ux_wpNew hkA hA h1 h2 rfl rfl (by omega) (by have := Nat.zero_le (N * k.toNatClampNeg); omega) ?_
  simp only [hfind]
  rw [ite_self, wp_bind', Std.Legacy.Range.forIn_eq_forIn_range']
  have hsz : ([:N] : Std.Legacy.Range).size = N := by simp [Std.Legacy.Range.size]
  rw [hsz]
  show wp (forIn (List.range' 0 N 1) PUnit.unit _) _ E e d acts _
  refine wp_forIn_inv (fun l u => ∃ i, i ≤ N ∧ l = List.range' i (N - i) ∧ u = ux_z s ca comp N k.toNatClampNeg i) _ _ ⟨0, Nat.zero_le _, rfl, rfl⟩ ?_ ?_
  · rintro x l u d' acts' Q' ⟨i, hi, hl, rfl⟩ hnext
    have hlt : i < N := by
      rcases Nat.lt_or_ge i N with h | h
      · exact h
      · rw [show N - i = 0 by omega] at hl; cases hl
    rw [show N - i = (N - (i + 1)) + 1 by omega, List.range'_succ] at hl
    obtain ⟨rfl, rfl⟩ := List.cons.inj hl
    obtain ⟨f1, f2, f3, f4, f5⟩ := ux_z_facts s ca comp N k.toNatClampNeg x
    obtain ⟨o1, o2, o3⟩ := ux_oc_facts ca N s.heap.size x
    have hmul : x * k.toNatClampNeg + k.toNatClampNeg ≤ N * k.toNatClampNeg := by
      have := Nat.mul_le_mul_right k.toNatClampNeg (show x + 1 ≤ N from hlt)
      rw [Nat.succ_mul] at this
      exact this
    simp only [wp_bind']
    refine ux_wpInner (by rw [f3]; exact hkC) hC hk h3 h4 (by rw [f1]; omega) (by rw [f4]; omega) ?_
    have hlt0 : s.heap.size < (ux_z s ca comp N k.toNatClampNeg x).heap.size := by rw [f1]; omega
    simp only [wp_bind', W.writeLoc, wp_pure']
    refine ⟨ux_oc ca N s.heap.size x, by rw [State.heap_pushCell_of_lt (h := hlt0)]; exact f2, by rw [o2]; simp, by rw [o3]; exact hlt, ?_, hnext _ _ _ ⟨x + 1, hlt, rfl, ?_⟩⟩
    · rw [o1, o2]
      simp [State.fitsSlot, State.slotType?, f3, hkA, hA]
      exact ux_refFits (t := .array .byte) rfl _ (Or.inr ⟨_, rfl⟩)
    · rw [f1]; rfl
  · rintro u d' acts' ⟨i, hi, hl, rfl⟩
    have hiN : i = N := by
      rcases Nat.lt_or_ge i N with h | h
      · rw [show N - i = (N - (i + 1)) + 1 by omega, List.range'_succ] at hl; cases hl
      · omega
    subst hiN
    simp only [wp_pure']
    exact hq _ _
end UXL
section UXN
variable {p : Program} {l : Launch} {e : Env} {R : Room} {s : State} {m : MethodId} {args : Array Value} {below : List Frame} {meth : Method} {c : Code} {H : Heap} {locs : List Loc} {cells slots : Nat} {Q : State → Prop}
theorem ux_z_stand {T : State} (X : Stand p l e R s m args below meth c T locs cells slots) (ca comp : ClassId) (N M : Nat) :
    ∀ i, Stand p l e R s m args below meth c (ux_z T ca comp N M i) (locs ++ (List.range i).map fun j => ⟨T.heap.size, j⟩) (cells + 1 + i) (slots + N + i * M)
  | 0 => by
    have h := X.pushed (ux_oc ca N T.heap.size 0)
    rw [(ux_oc_facts ca N T.heap.size 0).2.2] at h
    simpa [ux_z] using h
  | i + 1 => by
    have Xi := ux_z_stand X ca comp N M i
    obtain ⟨f1, f2, f3, f4, f5⟩ := ux_z_facts T ca comp N M i
    have hlt0 : T.heap.size < (ux_z T ca comp N M i).heap.size := by rw [f1]; omega
    have hcell : ((ux_z T ca comp N M i).pushCell (ux_ic comp M)).heap[T.heap.size]? = some (ux_oc ca N T.heap.size i) := by rw [State.heap_pushCell_of_lt (h := hlt0)]; exact f2
    have h := (Xi.pushed (ux_ic comp M)).stored hcell i (.ref (T.heap.size + 1 + i))
    have e1 : (ux_ic comp M).slots.size = M := by simp [ux_ic]
    rw [e1] at h
    have e2 : (locs ++ (List.range (i + 1)).map fun j => (⟨T.heap.size, j⟩ : Loc)) = (locs ++ (List.range i).map fun j => (⟨T.heap.size, j⟩ : Loc)) ++ [⟨T.heap.size, i⟩] := by simp [List.range_succ, List.append_assoc]
    have e3 : slots + N + (i + 1) * M = slots + N + i * M + M := by rw [Nat.succ_mul]; omega
    rw [e2, e3]
    exact h
theorem ux_multi {cc : ByteArray} {own : String} {index pc N M : Nat} {n k : Int32} {ls : Array Slot} {rest : List Value} {D : va_G} {cl : List vw_C} {ws : va_W} {A : Nat → Prop} {H0 : Heap}
    (hexec : p.tables.exec = Jvm.exec) (hb : c.code = cc) (hown : s.vm.findClass own = some m.cls) (hcl : (Cond.classLink own index "[[B").before args s = true) (hover : (Cond.arrayOver (.array .byte)).before args s = true) (harr : (Cond.arrayClass .byte).before args s = true)
    (hP : va_P D cl ws H) (hS : va_S A H0 H locs) (hA : ∀ q, H0.size ≤ q → A q)
    (hn : ¬ n < 0) (hk : ¬ k < 0) (hN : n.toNatClampNeg = N) (hM : k.toNatClampNeg = M) (hb1 : N ≤ 1000000) (hb2 : M ≤ 1000000) (hcells : cells + (1 + N) ≤ R.cells) (hslots : slots + (N + N * M) ≤ R.slots) (hdg : decode cc pc = .ok (.multianewarray index 2, 4))
    (kk : ∀ (q : Nat) (H1 : Heap) (locs1 : List Loc), va_P D cl ws H1 → va_S A H0 H1 locs1 → W p l e R s m args below meth c H1 locs1 (cells + 1 + N) (slots + N + N * M) Q (F0 m (pc + 4) ls (.ref q :: rest))) :
    W p l e R s m args below meth c H locs cells slots Q (F0 m pc ls (.int k :: .int n :: rest)) := by
  intro T hT X
  subst hb
  subst hN
  subst hM
  have hpl : e.platform.magicAccessors = ({} : Platform).magicAccessors := by rw [X.admits.platform]
  obtain ⟨comp, ca, kA, hcomp, -, hkA, hkindA, hnameA⟩ := ux_over_spec hover
  obtain ⟨comp', kC, cc', hcomp', hkC, hkindC⟩ := Cond.arrayClass_spec harr
  have ec : comp' = comp := Option.some.inj (hcomp'.symm.trans hcomp)
  subst ec
  obtain ⟨c0, hfc0, hcl0⟩ := Cond.classLink_spec hown hcl e.platform hpl
  have e0 : c0 = ca := Option.some.inj (hfc0.symm.trans hnameA)
  subst e0
  obtain ⟨hg1, hwarm, -⟩ := State.classEntry (e := e) X.warmed hcl0
  generalize T.vm.noted m.cls index (.cls c0) = vm1 at hg1 hwarm
  obtain ⟨kA1, hkA1, heA⟩ := hwarm.alike.2.2 _ _ hkA
  obtain ⟨kC1, hkC1, heC⟩ := hwarm.alike.2.2 _ _ hkC
  have hkA2 : kA1.kind = .array comp' (.array .byte) := by rw [heA]; exact hkindA
  have hkC2 : kC1.kind = .array cc' .byte := by rw [heC]; exact hkindC
  have X1 := X.noted hwarm
  have XF := ux_z_stand X1 c0 comp' n.toNatClampNeg k.toNatClampNeg n.toNatClampNeg
  obtain ⟨f1, f2, f3, f4, f5⟩ := ux_z_facts (T.setVm vm1) c0 comp' n.toNatClampNeg k.toNatClampNeg n.toNatClampNeg
  have hTh : (T.setVm vm1).heap = H := hT
  rw [hTh] at f1 f5
  have hPz : va_P D cl ws (ux_z (T.setVm vm1) c0 comp' n.toNatClampNeg k.toNatClampNeg n.toNatClampNeg).heap := hP.kept (fun i q hq => f5 q.1 ((hP i q hq).lt))
  have hSz : va_S A H0 (ux_z (T.setVm vm1) c0 comp' n.toNatClampNeg k.toNatClampNeg n.toNatClampNeg).heap (locs ++ (List.range n.toNatClampNeg).map fun j => ⟨(T.setVm vm1).heap.size, j⟩) := by
    refine ⟨Nat.le_trans hS.1 (by rw [f1]; omega), fun q h1 h2 => by rw [f5 q (Nat.lt_of_lt_of_le h1 hS.1)]; exact hS.2.1 q h1 h2, fun q hq => ?_⟩
    rcases List.mem_append.mp hq with h | h
    · exact hS.2.2 q h
    · obtain ⟨j, -, rfl⟩ := List.mem_map.mp h
      exact hA _ (by show H0.size ≤ (T.setVm vm1).heap.size; rw [hTh]; exact hS.1)
  obtain ⟨t, a1, b1⟩ := kk T.heap.size _ _ hPz hSz _ rfl XF
  refine ⟨t, ?_, b1⟩
  obtain ⟨hr1, hr2⟩ := X.roomAbove hcells hslots
  have hl1 : ¬ n.toNatClampNeg > e.platform.arrayLengthLimit := by rw [Launch.admits_arrayLengthLimit X.admits]; omega
  have hh1 : ¬ n.toNatClampNeg * componentBytes (.array .byte) > e.platform.maxHeapBytes := by
    rw [Launch.admits_maxHeapBytes X.admits]; show ¬ n.toNatClampNeg * 4 > 536870912; omega
  have hl2 : ¬ k.toNatClampNeg > e.platform.arrayLengthLimit := by rw [Launch.admits_arrayLengthLimit X.admits]; omega
  have hh2 : ¬ k.toNatClampNeg * componentBytes .byte > e.platform.maxHeapBytes := by
    rw [Launch.admits_maxHeapBytes X.admits]; show ¬ k.toNatClampNeg * 1 > 536870912; omega
  jvm_step X.here [hexec, hdg]
  simp only [multianewarray.sem, wp_bind', W.resolveClassAt_links (State.method?_setTop (F0 m pc ls (.int k :: .int n :: rest)) X.here.top) hg1]
  rw [W.popN, if_neg (by decide)]
  refine ⟨F0 m pc ls (.int k :: .int n :: rest), State.topJava?_setTop' (s := T.setVm vm1) _ X.here.top, [.int n, .int k], rest, rfl, rfl, ?_⟩
  simp only [List.mapM_cons, List.mapM_nil, wp_bind', wp_pure']
  refine ux_wpMake (kA := kA1) (kC := kC1) (comp := comp') (cc := cc') hkA1 hkA2 hkC1 hkC2 hn hk hl1 hh1 hl2 hh2 (by show T.heap.size + 1 + _ ≤ _; omega) (by show T.slotsUsed + _ + _ ≤ _; omega) (fun d' acts' => ?_)
  have eS : ((T.setTop (F0 m pc ls (.int k :: .int n :: rest))).setVm vm1).setTop { (F0 m pc ls (.int k :: .int n :: rest)) with stack := rest } = (T.setVm vm1).setTop { (F0 m pc ls (.int k :: .int n :: rest)) with stack := rest } := by
    show ((T.setVm vm1).setTop _).setTop _ = _
    rw [State.setTop_setTop]
  rw [eS, ux_z_top]
  simp only [wp_bind', W.mark, W.pushRef, State.topJava?_setTop' _ XF.here.top, Option.some.injEq, exists_eq_left', State.setTop_setTop, State.heap_setTop]
  intro acts
  simp [jvm, XF.here.top]
  exact a1
end UXN
