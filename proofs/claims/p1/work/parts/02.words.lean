/-! Own rows: the words of the tables that stay as they are while the tables grow warmer; a contract may take them all as given at its start (ux_T). -/
def ux_ex : Cond → Bool
  | .arrayOver (.object _) => true
  | .arrayOver (.array _) => true
  | .fieldLinkNest _ _ _ _ _ _ => true
  | .methodLinkNest _ _ _ _ => true
  | _ => false
def ux_gw (w : Cond) : Bool := goodWord w || ((w.onTables && w.faceAtom) || ux_ex w)
theorem ux_over_spec {args : Array Value} {s : State} {t : FieldType} (h : (Cond.arrayOver (.array t)).before args s = true) :
    ∃ comp c k, s.vm.findClass (FieldType.array t).toString = some comp ∧ (s.vm.classes.findIdx? fun (x : Class) => match x.kind with | .array component _ => component == comp | _ => false) = some c ∧ s.vm.classes[c]? = some k ∧ k.kind = .array comp (.array t) ∧ s.vm.findClass ("[" ++ (FieldType.array t).toString) = some c := by
  simp only [Cond.before, Cond.holds, Cond.value, beq_iff_eq] at h
  cases hc : s.vm.findClass (FieldType.array t).toString with
  | none => simp [hc] at h
  | some comp =>
    simp only [hc, Option.bind_some, Option.bind_eq_some_iff, Option.map_eq_some_iff] at h
    obtain ⟨c, hi, k, hk, hb⟩ := h
    obtain ⟨hlt, hp, -⟩ := Array.findIdx?_eq_some_iff_getElem.mp hi
    have hkk : s.vm.classes[c] = k := (Array.getElem?_eq_some_iff.mp hk).2
    rw [hkk] at hp
    cases hkind : k.kind with
    | array component ty =>
      rw [hkind] at hb hp
      simp at hb hp
      exact ⟨comp, c, k, rfl, hi, hk, by rw [hkind, hp, hb.1], hb.2⟩
    | _ => rw [hkind] at hb; simp at hb
theorem ux_over_moved {A A' : Array Value} {u U : State} {t : FieldType} (hvm : u.vm.Alike U.vm) (h : (Cond.arrayOver (.array t)).before A u = true) : (Cond.arrayOver (.array t)).before A' U = true := by
  obtain ⟨comp, c, k, h1, h2, h3, h4, h5⟩ := ux_over_spec h
  obtain ⟨k', hk', he⟩ := hvm.2.2 _ _ h3
  have e1 := va_idx_bare U.vm comp
  have e2 := va_idx_bare u.vm comp
  have e3 : U.vm.bare = u.vm.bare := by first | exact hvm.bare_eq | exact hvm.bare_eq.symm
  rw [e3] at e1
  have hi := (e1.symm.trans e2).trans h2
  have hkind : k'.kind = .array comp (.array t) := by rw [he]; exact h4
  have f1 : U.vm.findClass (FieldType.array t).toString = some comp := by rw [hvm.findClass]; exact h1
  have f2 : U.vm.findClass ("[" ++ (FieldType.array t).toString) = some c := by rw [hvm.findClass]; exact h5
  unfold Cond.before Cond.holds
  simp only [Cond.value]
  rw [f1, Option.bind_some]
  refine (congrArg (fun o : Option Nat => (o.bind (fun c => (U.vm.classes[c]?).map fun (k : Class) => match k.kind with | .array _ ty => decide (ty = FieldType.array t) && decide (U.vm.findClass ("[" ++ (FieldType.array t).toString) = some c) | _ => false) == some true)) hi).trans ?_
  simp [hk', hkind, f2]
theorem ux_warm {A A' : Array Value} {s U : State} (hW : s.WarmedH U.vm) : ∀ {w : Cond}, ux_gw w = true → w.before A s = true → w.before A' U = true := by
  intro w hg h
  rcases (Bool.or_eq_true _ _).mp hg with hq | hg
  · exact word_at hW (good_of_word hq) h
  rcases (Bool.or_eq_true _ _).mp hg with hf | hg
  · have hf := (Bool.and_eq_true _ _).mp hf
    exact va_tabs hf.1 (rfl : (s.setVm U.vm).vm = U.vm) (Cond.faceAtom_setVm (args := A) hW.alike _ hf.2 h)
  · cases w with
    | arrayOver t =>
      cases t with
      | object C => exact va_AO.use (va_AO.moved hW.alike (va_AO.of h))
      | array t => exact ux_over_moved hW.alike h
      | _ => cases hg
    | fieldLinkNest a b c d e f => exact va_Nw.use rfl (va_Nw.warmF hW (va_Nw.of rfl h))
    | methodLinkNest a b c d => exact va_Nw.use rfl (va_Nw.warmM hW (va_Nw.of rfl h))
    | _ => cases hg
/-- all such words of the law's tables hold here -/
def ux_T (U : State) : Prop := ∀ w ∈ lw_tbl, ux_gw w = true → w.before #[] U = true
theorem ux_T_warm {s U : State} (h : ux_T s) (hW : s.WarmedH U.vm) : ux_T U := fun w hw hg => ux_warm hW hg (h w hw hg)
theorem ux_T_call {U : State} (h : ux_T U) (g : JFrame) (mk : MethodId) (a : Array Value) : ux_T (U.calling g mk a) := ux_T_warm h (State.WarmedH.refl U)
theorem ux_T_at {U : State} (h : ux_T U) {w : Cond} (hw : w ∈ lw_tbl) (hg : ux_gw w = true) {A : Array Value} : w.before A U = true := ux_warm (State.WarmedH.refl U) hg (h w hw hg)
theorem ux_in (k : Nat) {w : Cond} {l : List Cond} (hl : ∀ w ∈ l, w ∈ lw_tbl) (h : l[k]? = some w) : w ∈ lw_tbl := hl _ (List.mem_of_getElem? h)
theorem ux_t1 : ∀ w ∈ tables_1_1, w ∈ lw_tbl := fun w h => by unfold lw_tbl tables_1; simp only [List.mem_append]; exact Or.inr (Or.inl h)
theorem ux_t2 : ∀ w ∈ tables_1_2, w ∈ lw_tbl := fun w h => by unfold lw_tbl tables_1; simp only [List.mem_append]; exact Or.inr (Or.inr (Or.inl h))
theorem ux_t3 : ∀ w ∈ tables_1_3, w ∈ lw_tbl := fun w h => by unfold lw_tbl tables_1; simp only [List.mem_append]; exact Or.inr (Or.inr (Or.inr (Or.inl h)))
theorem ux_t4 : ∀ w ∈ tables_1_4, w ∈ lw_tbl := fun w h => by unfold lw_tbl tables_1; simp only [List.mem_append]; exact Or.inr (Or.inr (Or.inr (Or.inr (Or.inl h))))
theorem ux_t5 : ∀ w ∈ tables_1_5, w ∈ lw_tbl := fun w h => by unfold lw_tbl tables_1; simp only [List.mem_append]; exact Or.inr (Or.inr (Or.inr (Or.inr (Or.inr (Or.inl h)))))
theorem ux_t6 : ∀ w ∈ tables_1_6, w ∈ lw_tbl := fun w h => by unfold lw_tbl tables_1; simp only [List.mem_append]; exact Or.inr (Or.inr (Or.inr (Or.inr (Or.inr (Or.inr (Or.inl h))))))
theorem ux_t7 : ∀ w ∈ tables_1_7, w ∈ lw_tbl := fun w h => by unfold lw_tbl tables_1; simp only [List.mem_append]; exact Or.inr (Or.inr (Or.inr (Or.inr (Or.inr (Or.inr (Or.inr (Or.inl h)))))))
theorem ux_t8 : ∀ w ∈ tables_1_8, w ∈ lw_tbl := fun w h => by unfold lw_tbl tables_1; simp only [List.mem_append]; exact Or.inr (Or.inr (Or.inr (Or.inr (Or.inr (Or.inr (Or.inr (Or.inr (Or.inl h))))))))
theorem ux_t9 : ∀ w ∈ tables_1_9, w ∈ lw_tbl := fun w h => by unfold lw_tbl tables_1; simp only [List.mem_append]; exact Or.inr (Or.inr (Or.inr (Or.inr (Or.inr (Or.inr (Or.inr (Or.inr (Or.inr h))))))))
theorem ux_tp {q : MethodName × Nat} (h : q ∈ lw_privs) : Cond.selects q.1.cls q.1 q.1 ∈ lw_tbl := by
  unfold lw_tbl
  exact List.mem_append_left _ (List.mem_map.mpr ⟨q, h, rfl⟩)
/-- a contract's start: its world, its array classes, the tables' words -/
def ux_Pc (av : List Value) (D : va_G) (cl : List vw_C) (ws : va_W) (tys : List (ClassId × FieldType)) (sz : Nat) : Array Value → State → Prop :=
  va_Pc av (fun U => U.heap.size = sz ∧ va_P D cl ws U.heap ∧ va_K D cl tys U ∧ va_D (fun _ => True) ws ∧ ux_T U)
def ux_B (D : va_G) (cl : List vw_C) (A : Nat → Prop) (ws : va_W) (tys : List (ClassId × FieldType)) (t : State) : Prop := va_P D cl ws t.heap ∧ va_K D cl tys t ∧ va_D A ws
theorem ux_pre {s : State} {H : Heap} {D : va_G} {cl : List vw_C} {ws : va_W} {tys : List (ClassId × FieldType)} {A : Nat → Prop} (av : List Value) (hT : ux_T s) (hP : va_P D cl ws H) (hK : va_K D cl tys s) (hD : va_D A ws) : PreS s H (ux_Pc av D cl ws tys H.size) av :=
  ⟨fun a U g mk q => by
    obtain ⟨q0, q1, qP, qK, qD, qT⟩ := q
    exact ⟨q0, q1, qP, va_K.moved (u := U) (U := U.calling g mk a) (Vm.Alike.refl U.vm) qK, qD, ux_T_call qT g mk a⟩,
   fun U hU hW => ⟨rfl, by rw [hU], by rw [hU]; exact hP, va_K.moved hW.alike hK, hD.weaken (fun _ _ _ _ => trivial), ux_T_warm hT hW⟩⟩
theorem ux_preV {s : State} {H : Heap} {D : va_G} {cl : List vw_C} {ws : va_W} {tys : List (ClassId × FieldType)} {A : Nat → Prop} {r : vw_C} {b ci q0 : Nat} {fs : List Value} (As : List Value) (hT : ux_T s) (hP : va_P D cl ws H) (hK : va_K D cl tys s) (hD : va_D A ws) (hc : cl[ci]? = some r) (he : ws[q0]? = some (b, .inr (ci, fs))) : PreV s H r.1 b (ux_Pc (.ref b :: As) D cl ws tys H.size) As :=
  ⟨(ux_pre (.ref b :: As) hT hP hK hD).1, va_recv hK hP hc he, (ux_pre (.ref b :: As) hT hP hK hD).2⟩
/-- the words of a call, by the tables -/
theorem ux_cb {R : Room} {s : State} {args : Array Value} {own : String} {index maxL mc ms : Nat} {y : MethodName} {bytes : ByteArray} {ret : Option FieldType} {rm : Room} (n : Nat) (hT : ux_T s) (h1 : Cond.code y bytes maxL ret ∈ lw_tbl) (h2 : Cond.methodLink own index y ∈ lw_tbl) (h3 : Cond.initialized y.cls ∈ lw_tbl) (hrc : rm.cells = mc) (hrs : rm.slots = ms)
    (hd : y.cls ≠ "java/lang/invoke/MethodHandle" ∧ y.cls ≠ "java/lang/invoke/VarHandle" ∧ (parseMethodDescriptor y.desc).map (fun d => d.parameters.length) = some n) (hR : rm.frames + 1 ≤ R.frames ∧ 8 + (maxL + 11) + rm.locals ≤ R.locals) : CallB R s args own index y bytes maxL ret [Cond.code y bytes maxL ret] rm mc ms n := by
  refine ⟨hrc, hrs, hR.1, hR.2, fun w hw a' U hW => ?_, List.mem_singleton.mpr rfl, ux_T_at hT h1 rfl, ux_T_at hT h3 rfl, ⟨hd.1, hd.2.1⟩, fun sig h => ?_, ux_T_at hT h2 rfl⟩
  · rw [List.mem_singleton] at hw
    subst hw
    exact ux_T_at (ux_T_warm hT hW) h1 rfl
  · have h2 := hd.2.2
    rw [h] at h2
    exact (Option.some.inj h2).symm
theorem ux_cn {R : Room} {s : State} {args : Array Value} {own host : String} {index maxL mc ms : Nat} {y : MethodName} {bytes : ByteArray} {ret : Option FieldType} {rm : Room} (n : Nat) (hT : ux_T s) (h1 : Cond.code y bytes maxL ret ∈ lw_tbl) (h2 : Cond.methodLinkNest own index y host ∈ lw_tbl) (h3 : Cond.initialized y.cls ∈ lw_tbl) (hrc : rm.cells = mc) (hrs : rm.slots = ms)
    (hd : y.cls ≠ "java/lang/invoke/MethodHandle" ∧ y.cls ≠ "java/lang/invoke/VarHandle" ∧ (parseMethodDescriptor y.desc).map (fun d => d.parameters.length) = some n) (hR : rm.frames + 1 ≤ R.frames ∧ 8 + (maxL + 11) + rm.locals ≤ R.locals) : va_CN R s args own index y host bytes maxL ret [Cond.code y bytes maxL ret] rm mc ms n := by
  refine ⟨⟨hrc, hrs, hR.1, hR.2, fun w hw a' U hW => ?_, List.mem_singleton.mpr rfl⟩, ux_T_at hT h1 rfl, ux_T_at hT h3 rfl, ⟨hd.1, hd.2.1⟩, fun sig h => ?_, ux_T_at hT h2 rfl⟩
  · rw [List.mem_singleton] at hw
    subst hw
    exact ux_T_at (ux_T_warm hT hW) h1 rfl
  · have h2 := hd.2.2
    rw [h] at h2
    exact (Option.some.inj h2).symm
