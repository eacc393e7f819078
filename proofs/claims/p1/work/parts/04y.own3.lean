/-! Own rows: the table of a method; the ends of a contract that throws; what the law knows at its start. -/
theorem ux_tab {p : Program} {l : Launch} {y : MethodName} {S : Spec} {code : ByteArray} {maxL : Nat} {ret : Option FieldType} {e : Env} {s : State} {m : MethodId} {args : Array Value} {below : List Frame} {meth : Method} {c : Code} {s₁ : State} (B : BodyLoose p l y S code maxL ret e s m args below meth c s₁)
    {a b h t : Nat} {hh : List (Nat × Nat × Nat × Nat)} (hw : (Cond.codeWith y code maxL ret ((a, b, h, t) :: hh)).before args s = true) : ∃ more, c.exceptionTable.toList = ⟨a, b, h, t⟩ :: more := by
  obtain ⟨m', meth', c', hn', hm', hc', -, -, ht, -⟩ := Cond.codeWith_spec hw
  cases B.named.symm.trans hn'
  cases B.method.symm.trans hm'
  cases (Stand.of_body B).code.symm.trans hc'
  cases hl : c.exceptionTable.toList with
  | nil => rw [hl] at ht; cases ht
  | cons x more =>
    rw [hl, List.map_cons] at ht
    obtain ⟨h1, -⟩ := List.cons.inj ht
    obtain ⟨x1, x2, x3, x4⟩ := x
    simp only [Prod.mk.injEq] at h1
    obtain ⟨rfl, rfl, rfl, rfl⟩ := h1
    exact ⟨more, rfl⟩
theorem ux_XQ {E : String} {A1 A0 : Nat → Prop} {a : Array Value} (hA : ∀ q, A1 q → A0 q) : ∀ (st : State) (o : Outcome) (t : State), ux_X E A1 a st o t → va_F A0 st t ∧ ∀ z, o = .threw z → ∃ cell : Cell, t.heap[z]? = some cell ∧ cell.vm.isStatics = false ∧ t.vm.findClass E = some cell.cls := by
  intro st o t h
  refine ⟨⟨h.2.1, fun q h1 h2 => h.2.2 q h1 (fun z => h2 (hA q z))⟩, fun z hz => ?_⟩
  obtain ⟨⟨z', cell, e1, e2, e3, e4⟩, -⟩ := h
  subst hz
  cases e1
  exact ⟨cell, e2, e3, e4⟩
theorem ux_Xno {E : String} {A : Nat → Prop} {a : Array Value} {st t : State} {v : Option Value} (h : ux_X E A a st (.returned v) t) : False := by
  obtain ⟨⟨z, cell, e1, -⟩, -⟩ := h
  cases e1
theorem ux_P0 {D : va_G} {cl : List vw_C} {H : Heap} : va_P D cl [] H := fun k q h => by simp at h
theorem ux_D0 {A : Nat → Prop} : va_D A [] := ⟨fun i j p q h => by simp at h, fun k q h => by simp at h⟩
theorem ux_s0 (x : Int32) : x = 0 ∨ x.toInt ≠ 0 := by
  by_cases h : x = 0
  · exact Or.inl h
  · exact Or.inr fun q => h (Int32.toInt_inj.mp (q.trans (by decide)))
theorem ux_s7 (x : Int32) : x = 0 ∨ x = 1 ∨ x = 2 ∨ x = 3 ∨ x = 4 ∨ x = 5 ∨ x = 6 ∨ x = 7 ∨ (x.toInt < 0 ∨ 7 < x.toInt) := by
  have e : ∀ (k : Int32) (n : Int), k.toInt = n → x.toInt = n → x = k := fun k n h1 h2 => Int32.toInt_inj.mp (h2.trans h1.symm)
  by_cases h : x.toInt < 0 ∨ 7 < x.toInt
  · simp [h]
  · rcases (show x.toInt = 0 ∨ x.toInt = 1 ∨ x.toInt = 2 ∨ x.toInt = 3 ∨ x.toInt = 4 ∨ x.toInt = 5 ∨ x.toInt = 6 ∨ x.toInt = 7 by omega) with q | q | q | q | q | q | q | q
    · exact Or.inl (e 0 0 (by decide) q)
    · exact Or.inr (Or.inl (e 1 1 (by decide) q))
    · exact Or.inr (Or.inr (Or.inl (e 2 2 (by decide) q)))
    · exact Or.inr (Or.inr (Or.inr (Or.inl (e 3 3 (by decide) q))))
    · exact Or.inr (Or.inr (Or.inr (Or.inr (Or.inl (e 4 4 (by decide) q)))))
    · exact Or.inr (Or.inr (Or.inr (Or.inr (Or.inr (Or.inl (e 5 5 (by decide) q))))))
    · exact Or.inr (Or.inr (Or.inr (Or.inr (Or.inr (Or.inr (Or.inl (e 6 6 (by decide) q)))))))
    · exact Or.inr (Or.inr (Or.inr (Or.inr (Or.inr (Or.inr (Or.inr (Or.inl (e 7 7 (by decide) q))))))))
