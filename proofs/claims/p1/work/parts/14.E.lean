/-! Which words the rows behind use, by their places. -/
theorem tw_80 : (Jvm.Cond.fieldLink "UnikernelHttp$Wire" (24 : Nat) "UnikernelHttp$Wire" "sent" "I") ∈ lw_tbl := ux_in 80 ux_t1 rfl
theorem tw_143 : (Jvm.Cond.fieldLink "UnikernelHttp$Gatherings" (18 : Nat) "UnikernelHttp$Gatherings" "held" "I") ∈ lw_tbl := ux_in 143 ux_t1 rfl
theorem tw_373 : (Jvm.Cond.fieldLink "UnikernelHttp$Tcp" (26 : Nat) "UnikernelHttp$Tcp" "held" "I") ∈ lw_tbl := ux_in 133 ux_t2 rfl
theorem tw_1392 : (Jvm.Cond.constant "UnikernelHttp$Gatherings" (25 : Nat) (2147483647 : Int32)) ∈ lw_tbl := ux_in 192 ux_t6 rfl
abbrev b_U_putFour : ByteArray := prog_1_method_23_code
abbrev y_U_putFour : MethodName := ⟨"UnikernelHttp", "putFour", "([BII)V"⟩
theorem d_U_putFour_0 : decode b_U_putFour 0 = .ok (.iload_n 1, 1) := by decide +kernel
theorem d_U_putFour_1 : decode b_U_putFour 1 = .ok (.ifCond .lt 46, 3) := by decide +kernel
theorem d_U_putFour_4 : decode b_U_putFour 4 = .ok (.iload_n 1, 1) := by decide +kernel
theorem d_U_putFour_5 : decode b_U_putFour 5 = .ok (.aload_n 0, 1) := by decide +kernel
theorem d_U_putFour_6 : decode b_U_putFour 6 = .ok (.arraylength, 1) := by decide +kernel
theorem d_U_putFour_7 : decode b_U_putFour 7 = .ok (.iconst 3, 1) := by decide +kernel
theorem d_U_putFour_8 : decode b_U_putFour 8 = .ok (.isub, 1) := by decide +kernel
theorem d_U_putFour_9 : decode b_U_putFour 9 = .ok (.if_icmp .ge 38, 3) := by decide +kernel
theorem d_U_putFour_12 : decode b_U_putFour 12 = .ok (.aload_n 0, 1) := by decide +kernel
theorem d_U_putFour_13 : decode b_U_putFour 13 = .ok (.iload_n 1, 1) := by decide +kernel
theorem d_U_putFour_14 : decode b_U_putFour 14 = .ok (.iload_n 2, 1) := by decide +kernel
theorem d_U_putFour_15 : decode b_U_putFour 15 = .ok (.bipush 24, 2) := by decide +kernel
theorem d_U_putFour_17 : decode b_U_putFour 17 = .ok (.ishr, 1) := by decide +kernel
theorem d_U_putFour_18 : decode b_U_putFour 18 = .ok (.i2b, 1) := by decide +kernel
theorem d_U_putFour_19 : decode b_U_putFour 19 = .ok (.bastore, 1) := by decide +kernel
theorem d_U_putFour_20 : decode b_U_putFour 20 = .ok (.aload_n 0, 1) := by decide +kernel
theorem d_U_putFour_21 : decode b_U_putFour 21 = .ok (.iload_n 1, 1) := by decide +kernel
theorem d_U_putFour_22 : decode b_U_putFour 22 = .ok (.iconst 1, 1) := by decide +kernel
theorem d_U_putFour_23 : decode b_U_putFour 23 = .ok (.iadd, 1) := by decide +kernel
theorem d_U_putFour_24 : decode b_U_putFour 24 = .ok (.iload_n 2, 1) := by decide +kernel
theorem d_U_putFour_25 : decode b_U_putFour 25 = .ok (.bipush 16, 2) := by decide +kernel
theorem d_U_putFour_27 : decode b_U_putFour 27 = .ok (.ishr, 1) := by decide +kernel
theorem d_U_putFour_28 : decode b_U_putFour 28 = .ok (.i2b, 1) := by decide +kernel
theorem d_U_putFour_29 : decode b_U_putFour 29 = .ok (.bastore, 1) := by decide +kernel
theorem d_U_putFour_30 : decode b_U_putFour 30 = .ok (.aload_n 0, 1) := by decide +kernel
theorem d_U_putFour_31 : decode b_U_putFour 31 = .ok (.iload_n 1, 1) := by decide +kernel
theorem d_U_putFour_32 : decode b_U_putFour 32 = .ok (.iconst 2, 1) := by decide +kernel
theorem d_U_putFour_33 : decode b_U_putFour 33 = .ok (.iadd, 1) := by decide +kernel
theorem d_U_putFour_34 : decode b_U_putFour 34 = .ok (.iload_n 2, 1) := by decide +kernel
theorem d_U_putFour_35 : decode b_U_putFour 35 = .ok (.bipush 8, 2) := by decide +kernel
theorem d_U_putFour_37 : decode b_U_putFour 37 = .ok (.ishr, 1) := by decide +kernel
theorem d_U_putFour_38 : decode b_U_putFour 38 = .ok (.i2b, 1) := by decide +kernel
theorem d_U_putFour_39 : decode b_U_putFour 39 = .ok (.bastore, 1) := by decide +kernel
theorem d_U_putFour_40 : decode b_U_putFour 40 = .ok (.aload_n 0, 1) := by decide +kernel
theorem d_U_putFour_41 : decode b_U_putFour 41 = .ok (.iload_n 1, 1) := by decide +kernel
theorem d_U_putFour_42 : decode b_U_putFour 42 = .ok (.iconst 3, 1) := by decide +kernel
theorem d_U_putFour_43 : decode b_U_putFour 43 = .ok (.iadd, 1) := by decide +kernel
theorem d_U_putFour_44 : decode b_U_putFour 44 = .ok (.iload_n 2, 1) := by decide +kernel
theorem d_U_putFour_45 : decode b_U_putFour 45 = .ok (.i2b, 1) := by decide +kernel
theorem d_U_putFour_46 : decode b_U_putFour 46 = .ok (.bastore, 1) := by decide +kernel
theorem d_U_putFour_47 : decode b_U_putFour 47 = .ok (.return_, 1) := by decide +kernel
abbrev b_U_isForMe : ByteArray := prog_1_method_12_code
abbrev y_U_isForMe : MethodName := ⟨"UnikernelHttp", "isForMe", "(I)Z"⟩
theorem d_U_isForMe_0 : decode b_U_isForMe 0 = .ok (.iload_n 1, 1) := by decide +kernel
theorem d_U_isForMe_1 : decode b_U_isForMe 1 = .ok (.bipush 14, 2) := by decide +kernel
theorem d_U_isForMe_3 : decode b_U_isForMe 3 = .ok (.if_icmp .ge 5, 3) := by decide +kernel
theorem d_U_isForMe_6 : decode b_U_isForMe 6 = .ok (.iconst 0, 1) := by decide +kernel
theorem d_U_isForMe_7 : decode b_U_isForMe 7 = .ok (.ireturn, 1) := by decide +kernel
abbrev b_Gs_due : ByteArray := prog_4_method_2_code
abbrev y_Gs_due : MethodName := ⟨"UnikernelHttp$Gatherings", "due", "()I"⟩
theorem d_Gs_due_0 : decode b_Gs_due 0 = .ok (.aload_n 0, 1) := by decide +kernel
theorem d_Gs_due_1 : decode b_Gs_due 1 = .ok (.getfield 18, 3) := by decide +kernel
theorem d_Gs_due_4 : decode b_Gs_due 4 = .ok (.ifCond .le 19, 3) := by decide +kernel
theorem d_Gs_due_23 : decode b_Gs_due 23 = .ok (.ldc 25, 2) := by decide +kernel
theorem d_Gs_due_25 : decode b_Gs_due 25 = .ok (.ireturn, 1) := by decide +kernel
abbrev b_Tc_firstDue : ByteArray := prog_11_method_3_code
abbrev y_Tc_firstDue : MethodName := ⟨"UnikernelHttp$Tcp", "firstDue", "()LUnikernelHttp$Connection;"⟩
theorem d_Tc_firstDue_0 : decode b_Tc_firstDue 0 = .ok (.aconst_null, 1) := by decide +kernel
theorem d_Tc_firstDue_1 : decode b_Tc_firstDue 1 = .ok (.astore_n 1, 1) := by decide +kernel
theorem d_Tc_firstDue_2 : decode b_Tc_firstDue 2 = .ok (.iconst 0, 1) := by decide +kernel
theorem d_Tc_firstDue_3 : decode b_Tc_firstDue 3 = .ok (.istore_n 2, 1) := by decide +kernel
theorem d_Tc_firstDue_4 : decode b_Tc_firstDue 4 = .ok (.iload_n 2, 1) := by decide +kernel
theorem d_Tc_firstDue_5 : decode b_Tc_firstDue 5 = .ok (.aload_n 0, 1) := by decide +kernel
theorem d_Tc_firstDue_6 : decode b_Tc_firstDue 6 = .ok (.getfield 26, 3) := by decide +kernel
theorem d_Tc_firstDue_9 : decode b_Tc_firstDue 9 = .ok (.if_icmp .ge 36, 3) := by decide +kernel
theorem d_Tc_firstDue_45 : decode b_Tc_firstDue 45 = .ok (.aload_n 1, 1) := by decide +kernel
theorem d_Tc_firstDue_46 : decode b_Tc_firstDue 46 = .ok (.areturn, 1) := by decide +kernel
abbrev b_Tc_find : ByteArray := prog_11_method_2_code
abbrev y_Tc_find : MethodName := ⟨"UnikernelHttp$Tcp", "find", "(II)LUnikernelHttp$Connection;"⟩
theorem d_Tc_find_0 : decode b_Tc_find 0 = .ok (.iconst 0, 1) := by decide +kernel
theorem d_Tc_find_1 : decode b_Tc_find 1 = .ok (.istore_n 3, 1) := by decide +kernel
theorem d_Tc_find_2 : decode b_Tc_find 2 = .ok (.iload_n 3, 1) := by decide +kernel
theorem d_Tc_find_3 : decode b_Tc_find 3 = .ok (.aload_n 0, 1) := by decide +kernel
theorem d_Tc_find_4 : decode b_Tc_find 4 = .ok (.getfield 26, 3) := by decide +kernel
theorem d_Tc_find_7 : decode b_Tc_find 7 = .ok (.if_icmp .ge 42, 3) := by decide +kernel
theorem d_Tc_find_49 : decode b_Tc_find 49 = .ok (.aconst_null, 1) := by decide +kernel
theorem d_Tc_find_50 : decode b_Tc_find 50 = .ok (.areturn, 1) := by decide +kernel
abbrev b_Wi_keeps : ByteArray := prog_12_method_3_code
abbrev y_Wi_keeps : MethodName := ⟨"UnikernelHttp$Wire", "keeps", "(I)Z"⟩
theorem d_Wi_keeps_0 : decode b_Wi_keeps 0 = .ok (.iload_n 1, 1) := by decide +kernel
theorem d_Wi_keeps_1 : decode b_Wi_keeps 1 = .ok (.ifCond .lt 26, 3) := by decide +kernel
theorem d_Wi_keeps_4 : decode b_Wi_keeps 4 = .ok (.iload_n 1, 1) := by decide +kernel
theorem d_Wi_keeps_5 : decode b_Wi_keeps 5 = .ok (.aload_n 0, 1) := by decide +kernel
theorem d_Wi_keeps_6 : decode b_Wi_keeps 6 = .ok (.getfield 24, 3) := by decide +kernel
theorem d_Wi_keeps_9 : decode b_Wi_keeps 9 = .ok (.if_icmp .ge 18, 3) := by decide +kernel
theorem d_Wi_keeps_27 : decode b_Wi_keeps 27 = .ok (.iconst 0, 1) := by decide +kernel
theorem d_Wi_keeps_28 : decode b_Wi_keeps 28 = .ok (.ireturn, 1) := by decide +kernel
theorem ux_l0 : (0 : Int32).toInt = 0 := by decide
set_option maxHeartbeats 4000000 in
set_option maxRecDepth 100000 in
theorem c_U_putFour_0 (l : Launch) (dC : Nat → ClassId) (dI : Nat → Nat → Nat) (row : Nat) (cB : ClassId) (v : Int32) (f : Nat → Int32) (sz : Nat) : Met l y_U_putFour [Cond.code y_U_putFour b_U_putFour 3 (none)] ({ frames := 20, cells := 0, slots := 0, locals := 300 }) (ux_Pc [.ref row, .int 0, .int v] (dC, dI) cls [(row, .inl (cB, 2000, .inl f))] [(cB, .byte)] sz) (va_Qv (fun _ : Unit => True) (fun (_ : Unit) (t : State) => ∃ (f2 : Nat → Int32), ux_B (dC, dI) cls (va_A [(row, .inl (cB, 2000, .inl f))] sz) [(row, .inl (cB, 2000, .inl f2))] [(cB, .byte)] t) (va_A [(row, .inl (cB, 2000, .inl f))] sz)) 0 0 (va_A [(row, .inl (cB, 2000, .inl f))] sz) := by
  refine Met.ofW (cc := b_U_putFour) (maxL := 3) (ret := none) (by decide) rfl ?_
  intro p e s m args below meth c s₁ B hml hv
  obtain ⟨rfl, hsz, hP, hK, hD0, hT⟩ := hv
  have hx := B.exec
  have hb := B.bytes
  have hr := B.returns
  have hown : s.vm.findClass "UnikernelHttp" = some m.cls := findClass_of_methodNamed B.named
  have hlocks := B.notSynchronized
  subst hsz
  have hD := hD0.self (sz := s.heap.size)
  have hns := ux_ns hP
  generalize hAe : va_A [(row, .inl (cB, 2000, .inl f))] s.heap.size = A at hD hns ⊢
  have hA : ∀ q : Nat, s.heap.size ≤ q → A q := fun q h => by rw [← hAe]; exact Or.inr h
  have hS : va_S A s.heap s.heap [] := va_S.rf
  have hl := lv_entry ([.ref row, .int 0, .int v]) (n := 3) (Nat.le_of_ble_eq_true rfl)
  rw [lg_entry_eq]
  generalize (lg_sl ([.ref row, .int 0, .int v]) ++ List.replicate (3 - (lg_sl ([.ref row, .int 0, .int v])).length) Slot.unset).toArray = ls at hl ⊢
  have hl : lv_has ls 3 [(0, .ref row), (1, .int 0), (2, .int v)] := hl
  have hfx : CallFix p m c b_U_putFour 3 s ([.ref row, .int 0, .int v] : List Value).toArray [] "UnikernelHttp" := ⟨hx, hb, hml, hown, fun _ h => by cases h⟩
  refine lv_iload_n hx hb d_U_putFour_0 rfl (lv_at hl 1 rfl) ?_
  refine lv_if_lt (tgt := 47) hx hb d_U_putFour_1 (by decide) (fun hc => absurd hc (by decide)) (fun _ => ?_)
  refine lv_iload_n hx hb d_U_putFour_4 rfl (lv_at hl 1 rfl) ?_
  refine lv_aload_n hx hb d_U_putFour_5 rfl (lv_at hl 0 rfl) ?_
  refine va_alen (v := 2000) hx hb hK hP 0 0 rfl rfl (show Int32.ofNat 2000 = 2000 by decide) d_U_putFour_6 ?_
  refine lv_iconst (v := 3) hx hb d_U_putFour_7 (by decide) ?_
  refine lv_isub hx hb d_U_putFour_8 ?_
  refine lv_topi (fun x1 ex1 => ?_)
  obtain rfl : x1 = 1997 := ex1.trans (by decide)
  refine lv_icmp_ge (tgt := 47) hx hb d_U_putFour_9 (by decide) (fun hc => absurd hc (by decide)) (fun _ => ?_)
  refine lv_aload_n hx hb d_U_putFour_12 rfl (lv_at hl 0 rfl) ?_
  refine lv_iload_n hx hb d_U_putFour_13 rfl (lv_at hl 1 rfl) ?_
  refine lv_iload_n hx hb d_U_putFour_14 rfl (lv_at hl 2 rfl) ?_
  refine lv_bipush (v := 24) hx hb d_U_putFour_15 (by decide) ?_
  refine lv_ishr hx hb d_U_putFour_17 ?_
  refine lv_topi (fun x2 ex2 => ?_)
  refine lv_i2b hx hb d_U_putFour_18 rfl ?_
  refine lv_topi (fun x3 ex3 => ?_)
  refine va_bast hx hb hK hP hD hS 0 0 rfl rfl (i := 0) (show ¬ ((0 : Int32) < 0 ∨ 2000 ≤ (0 : Int32).toNatClampNeg) by decide) d_U_putFour_19 (fun H locs hP hD hS => ?_)
  have hP : va_P (dC, dI) cls [(row, .inl (cB, 2000, .inl (upd f (0 : Int32).toNatClampNeg (vp_nar .byte x3))))] H := hP
  have hD : va_D A [(row, .inl (cB, 2000, .inl (upd f (0 : Int32).toNatClampNeg (vp_nar .byte x3))))] := hD
  generalize upd f (0 : Int32).toNatClampNeg (vp_nar .byte x3) = f4 at hP hD
  refine lv_aload_n hx hb d_U_putFour_20 rfl (lv_at hl 0 rfl) ?_
  refine lv_iload_n hx hb d_U_putFour_21 rfl (lv_at hl 1 rfl) ?_
  refine lv_iconst (v := 1) hx hb d_U_putFour_22 (by decide) ?_
  refine lv_iadd hx hb d_U_putFour_23 ?_
  refine lv_topi (fun x5 ex5 => ?_)
  obtain rfl : x5 = 1 := ex5.trans (by decide)
  refine lv_iload_n hx hb d_U_putFour_24 rfl (lv_at hl 2 rfl) ?_
  refine lv_bipush (v := 16) hx hb d_U_putFour_25 (by decide) ?_
  refine lv_ishr hx hb d_U_putFour_27 ?_
  refine lv_topi (fun x6 ex6 => ?_)
  refine lv_i2b hx hb d_U_putFour_28 rfl ?_
  refine lv_topi (fun x7 ex7 => ?_)
  refine va_bast hx hb hK hP hD hS 0 0 rfl rfl (i := 1) (show ¬ ((1 : Int32) < 0 ∨ 2000 ≤ (1 : Int32).toNatClampNeg) by decide) d_U_putFour_29 (fun H locs hP hD hS => ?_)
  have hP : va_P (dC, dI) cls [(row, .inl (cB, 2000, .inl (upd f4 (1 : Int32).toNatClampNeg (vp_nar .byte x7))))] H := hP
  have hD : va_D A [(row, .inl (cB, 2000, .inl (upd f4 (1 : Int32).toNatClampNeg (vp_nar .byte x7))))] := hD
  generalize upd f4 (1 : Int32).toNatClampNeg (vp_nar .byte x7) = f8 at hP hD
  refine lv_aload_n hx hb d_U_putFour_30 rfl (lv_at hl 0 rfl) ?_
  refine lv_iload_n hx hb d_U_putFour_31 rfl (lv_at hl 1 rfl) ?_
  refine lv_iconst (v := 2) hx hb d_U_putFour_32 (by decide) ?_
  refine lv_iadd hx hb d_U_putFour_33 ?_
  refine lv_topi (fun x9 ex9 => ?_)
  obtain rfl : x9 = 2 := ex9.trans (by decide)
  refine lv_iload_n hx hb d_U_putFour_34 rfl (lv_at hl 2 rfl) ?_
  refine lv_bipush (v := 8) hx hb d_U_putFour_35 (by decide) ?_
  refine lv_ishr hx hb d_U_putFour_37 ?_
  refine lv_topi (fun x10 ex10 => ?_)
  refine lv_i2b hx hb d_U_putFour_38 rfl ?_
  refine lv_topi (fun x11 ex11 => ?_)
  refine va_bast hx hb hK hP hD hS 0 0 rfl rfl (i := 2) (show ¬ ((2 : Int32) < 0 ∨ 2000 ≤ (2 : Int32).toNatClampNeg) by decide) d_U_putFour_39 (fun H locs hP hD hS => ?_)
  have hP : va_P (dC, dI) cls [(row, .inl (cB, 2000, .inl (upd f8 (2 : Int32).toNatClampNeg (vp_nar .byte x11))))] H := hP
  have hD : va_D A [(row, .inl (cB, 2000, .inl (upd f8 (2 : Int32).toNatClampNeg (vp_nar .byte x11))))] := hD
  generalize upd f8 (2 : Int32).toNatClampNeg (vp_nar .byte x11) = f12 at hP hD
  refine lv_aload_n hx hb d_U_putFour_40 rfl (lv_at hl 0 rfl) ?_
  refine lv_iload_n hx hb d_U_putFour_41 rfl (lv_at hl 1 rfl) ?_
  refine lv_iconst (v := 3) hx hb d_U_putFour_42 (by decide) ?_
  refine lv_iadd hx hb d_U_putFour_43 ?_
  refine lv_topi (fun x13 ex13 => ?_)
  obtain rfl : x13 = 3 := ex13.trans (by decide)
  refine lv_iload_n hx hb d_U_putFour_44 rfl (lv_at hl 2 rfl) ?_
  refine lv_i2b hx hb d_U_putFour_45 rfl ?_
  refine lv_topi (fun x14 ex14 => ?_)
  refine va_bast hx hb hK hP hD hS 0 0 rfl rfl (i := 3) (show ¬ ((3 : Int32) < 0 ∨ 2000 ≤ (3 : Int32).toNatClampNeg) by decide) d_U_putFour_46 (fun H locs hP hD hS => ?_)
  have hP : va_P (dC, dI) cls [(row, .inl (cB, 2000, .inl (upd f12 (3 : Int32).toNatClampNeg (vp_nar .byte x14))))] H := hP
  have hD : va_D A [(row, .inl (cB, 2000, .inl (upd f12 (3 : Int32).toNatClampNeg (vp_nar .byte x14))))] := hD
  generalize upd f12 (3 : Int32).toNatClampNeg (vp_nar .byte x14) = f15 at hP hD
  have hP9 := hP.sub (ws' := [(row, .inl (cB, 2000, .inl f15))]) [0] rfl
  have hD9 := hD.sub (ws' := [(row, .inl (cB, 2000, .inl f15))]) [0] (by decide) rfl
  have hK9 := hK.sub (tys' := [(cB, .byte)]) [0] rfl
  refine W.widen (k := 0) (n := 0) (Nat.le_of_ble_eq_true rfl) (Nat.le_of_ble_eq_true rfl) ?_
  exact W.vret hx hb hr (fun t ht hW => ⟨⟨(), rfl, trivial, f15, by rw [ht]; exact hP9, va_K.moved hW.alike hK9, hD9⟩, hS.F ht⟩) hS.2.2 d_U_putFour_47
set_option maxHeartbeats 4000000 in
set_option maxRecDepth 100000 in
theorem c_U_putFour_4 (l : Launch) (dC : Nat → ClassId) (dI : Nat → Nat → Nat) (row : Nat) (cB : ClassId) (v : Int32) (f : Nat → Int32) (sz : Nat) : Met l y_U_putFour [Cond.code y_U_putFour b_U_putFour 3 (none)] ({ frames := 20, cells := 0, slots := 0, locals := 300 }) (ux_Pc [.ref row, .int 4, .int v] (dC, dI) cls [(row, .inl (cB, 2000, .inl f))] [(cB, .byte)] sz) (va_Qv (fun _ : Unit => True) (fun (_ : Unit) (t : State) => ∃ (f2 : Nat → Int32), ux_B (dC, dI) cls (va_A [(row, .inl (cB, 2000, .inl f))] sz) [(row, .inl (cB, 2000, .inl f2))] [(cB, .byte)] t) (va_A [(row, .inl (cB, 2000, .inl f))] sz)) 0 0 (va_A [(row, .inl (cB, 2000, .inl f))] sz) := by
  refine Met.ofW (cc := b_U_putFour) (maxL := 3) (ret := none) (by decide) rfl ?_
  intro p e s m args below meth c s₁ B hml hv
  obtain ⟨rfl, hsz, hP, hK, hD0, hT⟩ := hv
  have hx := B.exec
  have hb := B.bytes
  have hr := B.returns
  have hown : s.vm.findClass "UnikernelHttp" = some m.cls := findClass_of_methodNamed B.named
  have hlocks := B.notSynchronized
  subst hsz
  have hD := hD0.self (sz := s.heap.size)
  have hns := ux_ns hP
  generalize hAe : va_A [(row, .inl (cB, 2000, .inl f))] s.heap.size = A at hD hns ⊢
  have hA : ∀ q : Nat, s.heap.size ≤ q → A q := fun q h => by rw [← hAe]; exact Or.inr h
  have hS : va_S A s.heap s.heap [] := va_S.rf
  have hl := lv_entry ([.ref row, .int 4, .int v]) (n := 3) (Nat.le_of_ble_eq_true rfl)
  rw [lg_entry_eq]
  generalize (lg_sl ([.ref row, .int 4, .int v]) ++ List.replicate (3 - (lg_sl ([.ref row, .int 4, .int v])).length) Slot.unset).toArray = ls at hl ⊢
  have hl : lv_has ls 3 [(0, .ref row), (1, .int 4), (2, .int v)] := hl
  have hfx : CallFix p m c b_U_putFour 3 s ([.ref row, .int 4, .int v] : List Value).toArray [] "UnikernelHttp" := ⟨hx, hb, hml, hown, fun _ h => by cases h⟩
  refine lv_iload_n hx hb d_U_putFour_0 rfl (lv_at hl 1 rfl) ?_
  refine lv_if_lt (tgt := 47) hx hb d_U_putFour_1 (by decide) (fun hc => absurd hc (by decide)) (fun _ => ?_)
  refine lv_iload_n hx hb d_U_putFour_4 rfl (lv_at hl 1 rfl) ?_
  refine lv_aload_n hx hb d_U_putFour_5 rfl (lv_at hl 0 rfl) ?_
  refine va_alen (v := 2000) hx hb hK hP 0 0 rfl rfl (show Int32.ofNat 2000 = 2000 by decide) d_U_putFour_6 ?_
  refine lv_iconst (v := 3) hx hb d_U_putFour_7 (by decide) ?_
  refine lv_isub hx hb d_U_putFour_8 ?_
  refine lv_topi (fun x1 ex1 => ?_)
  obtain rfl : x1 = 1997 := ex1.trans (by decide)
  refine lv_icmp_ge (tgt := 47) hx hb d_U_putFour_9 (by decide) (fun hc => absurd hc (by decide)) (fun _ => ?_)
  refine lv_aload_n hx hb d_U_putFour_12 rfl (lv_at hl 0 rfl) ?_
  refine lv_iload_n hx hb d_U_putFour_13 rfl (lv_at hl 1 rfl) ?_
  refine lv_iload_n hx hb d_U_putFour_14 rfl (lv_at hl 2 rfl) ?_
  refine lv_bipush (v := 24) hx hb d_U_putFour_15 (by decide) ?_
  refine lv_ishr hx hb d_U_putFour_17 ?_
  refine lv_topi (fun x2 ex2 => ?_)
  refine lv_i2b hx hb d_U_putFour_18 rfl ?_
  refine lv_topi (fun x3 ex3 => ?_)
  refine va_bast hx hb hK hP hD hS 0 0 rfl rfl (i := 4) (show ¬ ((4 : Int32) < 0 ∨ 2000 ≤ (4 : Int32).toNatClampNeg) by decide) d_U_putFour_19 (fun H locs hP hD hS => ?_)
  have hP : va_P (dC, dI) cls [(row, .inl (cB, 2000, .inl (upd f (4 : Int32).toNatClampNeg (vp_nar .byte x3))))] H := hP
  have hD : va_D A [(row, .inl (cB, 2000, .inl (upd f (4 : Int32).toNatClampNeg (vp_nar .byte x3))))] := hD
  generalize upd f (4 : Int32).toNatClampNeg (vp_nar .byte x3) = f4 at hP hD
  refine lv_aload_n hx hb d_U_putFour_20 rfl (lv_at hl 0 rfl) ?_
  refine lv_iload_n hx hb d_U_putFour_21 rfl (lv_at hl 1 rfl) ?_
  refine lv_iconst (v := 1) hx hb d_U_putFour_22 (by decide) ?_
  refine lv_iadd hx hb d_U_putFour_23 ?_
  refine lv_topi (fun x5 ex5 => ?_)
  obtain rfl : x5 = 5 := ex5.trans (by decide)
  refine lv_iload_n hx hb d_U_putFour_24 rfl (lv_at hl 2 rfl) ?_
  refine lv_bipush (v := 16) hx hb d_U_putFour_25 (by decide) ?_
  refine lv_ishr hx hb d_U_putFour_27 ?_
  refine lv_topi (fun x6 ex6 => ?_)
  refine lv_i2b hx hb d_U_putFour_28 rfl ?_
  refine lv_topi (fun x7 ex7 => ?_)
  refine va_bast hx hb hK hP hD hS 0 0 rfl rfl (i := 5) (show ¬ ((5 : Int32) < 0 ∨ 2000 ≤ (5 : Int32).toNatClampNeg) by decide) d_U_putFour_29 (fun H locs hP hD hS => ?_)
  have hP : va_P (dC, dI) cls [(row, .inl (cB, 2000, .inl (upd f4 (5 : Int32).toNatClampNeg (vp_nar .byte x7))))] H := hP
  have hD : va_D A [(row, .inl (cB, 2000, .inl (upd f4 (5 : Int32).toNatClampNeg (vp_nar .byte x7))))] := hD
  generalize upd f4 (5 : Int32).toNatClampNeg (vp_nar .byte x7) = f8 at hP hD
  refine lv_aload_n hx hb d_U_putFour_30 rfl (lv_at hl 0 rfl) ?_
  refine lv_iload_n hx hb d_U_putFour_31 rfl (lv_at hl 1 rfl) ?_
  refine lv_iconst (v := 2) hx hb d_U_putFour_32 (by decide) ?_
  refine lv_iadd hx hb d_U_putFour_33 ?_
  refine lv_topi (fun x9 ex9 => ?_)
  obtain rfl : x9 = 6 := ex9.trans (by decide)
  refine lv_iload_n hx hb d_U_putFour_34 rfl (lv_at hl 2 rfl) ?_
  refine lv_bipush (v := 8) hx hb d_U_putFour_35 (by decide) ?_
  refine lv_ishr hx hb d_U_putFour_37 ?_
  refine lv_topi (fun x10 ex10 => ?_)
  refine lv_i2b hx hb d_U_putFour_38 rfl ?_
  refine lv_topi (fun x11 ex11 => ?_)
  refine va_bast hx hb hK hP hD hS 0 0 rfl rfl (i := 6) (show ¬ ((6 : Int32) < 0 ∨ 2000 ≤ (6 : Int32).toNatClampNeg) by decide) d_U_putFour_39 (fun H locs hP hD hS => ?_)
  have hP : va_P (dC, dI) cls [(row, .inl (cB, 2000, .inl (upd f8 (6 : Int32).toNatClampNeg (vp_nar .byte x11))))] H := hP
  have hD : va_D A [(row, .inl (cB, 2000, .inl (upd f8 (6 : Int32).toNatClampNeg (vp_nar .byte x11))))] := hD
  generalize upd f8 (6 : Int32).toNatClampNeg (vp_nar .byte x11) = f12 at hP hD
  refine lv_aload_n hx hb d_U_putFour_40 rfl (lv_at hl 0 rfl) ?_
  refine lv_iload_n hx hb d_U_putFour_41 rfl (lv_at hl 1 rfl) ?_
  refine lv_iconst (v := 3) hx hb d_U_putFour_42 (by decide) ?_
  refine lv_iadd hx hb d_U_putFour_43 ?_
  refine lv_topi (fun x13 ex13 => ?_)
  obtain rfl : x13 = 7 := ex13.trans (by decide)
  refine lv_iload_n hx hb d_U_putFour_44 rfl (lv_at hl 2 rfl) ?_
  refine lv_i2b hx hb d_U_putFour_45 rfl ?_
  refine lv_topi (fun x14 ex14 => ?_)
  refine va_bast hx hb hK hP hD hS 0 0 rfl rfl (i := 7) (show ¬ ((7 : Int32) < 0 ∨ 2000 ≤ (7 : Int32).toNatClampNeg) by decide) d_U_putFour_46 (fun H locs hP hD hS => ?_)
  have hP : va_P (dC, dI) cls [(row, .inl (cB, 2000, .inl (upd f12 (7 : Int32).toNatClampNeg (vp_nar .byte x14))))] H := hP
  have hD : va_D A [(row, .inl (cB, 2000, .inl (upd f12 (7 : Int32).toNatClampNeg (vp_nar .byte x14))))] := hD
  generalize upd f12 (7 : Int32).toNatClampNeg (vp_nar .byte x14) = f15 at hP hD
  have hP9 := hP.sub (ws' := [(row, .inl (cB, 2000, .inl f15))]) [0] rfl
  have hD9 := hD.sub (ws' := [(row, .inl (cB, 2000, .inl f15))]) [0] (by decide) rfl
  have hK9 := hK.sub (tys' := [(cB, .byte)]) [0] rfl
  refine W.widen (k := 0) (n := 0) (Nat.le_of_ble_eq_true rfl) (Nat.le_of_ble_eq_true rfl) ?_
  exact W.vret hx hb hr (fun t ht hW => ⟨⟨(), rfl, trivial, f15, by rw [ht]; exact hP9, va_K.moved hW.alike hK9, hD9⟩, hS.F ht⟩) hS.2.2 d_U_putFour_47
set_option maxHeartbeats 4000000 in
set_option maxRecDepth 100000 in
theorem c_U_putFour_8 (l : Launch) (dC : Nat → ClassId) (dI : Nat → Nat → Nat) (row : Nat) (cB : ClassId) (v : Int32) (f : Nat → Int32) (sz : Nat) : Met l y_U_putFour [Cond.code y_U_putFour b_U_putFour 3 (none)] ({ frames := 20, cells := 0, slots := 0, locals := 300 }) (ux_Pc [.ref row, .int 8, .int v] (dC, dI) cls [(row, .inl (cB, 2000, .inl f))] [(cB, .byte)] sz) (va_Qv (fun _ : Unit => True) (fun (_ : Unit) (t : State) => ∃ (f2 : Nat → Int32), ux_B (dC, dI) cls (va_A [(row, .inl (cB, 2000, .inl f))] sz) [(row, .inl (cB, 2000, .inl f2))] [(cB, .byte)] t) (va_A [(row, .inl (cB, 2000, .inl f))] sz)) 0 0 (va_A [(row, .inl (cB, 2000, .inl f))] sz) := by
  refine Met.ofW (cc := b_U_putFour) (maxL := 3) (ret := none) (by decide) rfl ?_
  intro p e s m args below meth c s₁ B hml hv
  obtain ⟨rfl, hsz, hP, hK, hD0, hT⟩ := hv
  have hx := B.exec
  have hb := B.bytes
  have hr := B.returns
  have hown : s.vm.findClass "UnikernelHttp" = some m.cls := findClass_of_methodNamed B.named
  have hlocks := B.notSynchronized
  subst hsz
  have hD := hD0.self (sz := s.heap.size)
  have hns := ux_ns hP
  generalize hAe : va_A [(row, .inl (cB, 2000, .inl f))] s.heap.size = A at hD hns ⊢
  have hA : ∀ q : Nat, s.heap.size ≤ q → A q := fun q h => by rw [← hAe]; exact Or.inr h
  have hS : va_S A s.heap s.heap [] := va_S.rf
  have hl := lv_entry ([.ref row, .int 8, .int v]) (n := 3) (Nat.le_of_ble_eq_true rfl)
  rw [lg_entry_eq]
  generalize (lg_sl ([.ref row, .int 8, .int v]) ++ List.replicate (3 - (lg_sl ([.ref row, .int 8, .int v])).length) Slot.unset).toArray = ls at hl ⊢
  have hl : lv_has ls 3 [(0, .ref row), (1, .int 8), (2, .int v)] := hl
  have hfx : CallFix p m c b_U_putFour 3 s ([.ref row, .int 8, .int v] : List Value).toArray [] "UnikernelHttp" := ⟨hx, hb, hml, hown, fun _ h => by cases h⟩
  refine lv_iload_n hx hb d_U_putFour_0 rfl (lv_at hl 1 rfl) ?_
  refine lv_if_lt (tgt := 47) hx hb d_U_putFour_1 (by decide) (fun hc => absurd hc (by decide)) (fun _ => ?_)
  refine lv_iload_n hx hb d_U_putFour_4 rfl (lv_at hl 1 rfl) ?_
  refine lv_aload_n hx hb d_U_putFour_5 rfl (lv_at hl 0 rfl) ?_
  refine va_alen (v := 2000) hx hb hK hP 0 0 rfl rfl (show Int32.ofNat 2000 = 2000 by decide) d_U_putFour_6 ?_
  refine lv_iconst (v := 3) hx hb d_U_putFour_7 (by decide) ?_
  refine lv_isub hx hb d_U_putFour_8 ?_
  refine lv_topi (fun x1 ex1 => ?_)
  obtain rfl : x1 = 1997 := ex1.trans (by decide)
  refine lv_icmp_ge (tgt := 47) hx hb d_U_putFour_9 (by decide) (fun hc => absurd hc (by decide)) (fun _ => ?_)
  refine lv_aload_n hx hb d_U_putFour_12 rfl (lv_at hl 0 rfl) ?_
  refine lv_iload_n hx hb d_U_putFour_13 rfl (lv_at hl 1 rfl) ?_
  refine lv_iload_n hx hb d_U_putFour_14 rfl (lv_at hl 2 rfl) ?_
  refine lv_bipush (v := 24) hx hb d_U_putFour_15 (by decide) ?_
  refine lv_ishr hx hb d_U_putFour_17 ?_
  refine lv_topi (fun x2 ex2 => ?_)
  refine lv_i2b hx hb d_U_putFour_18 rfl ?_
  refine lv_topi (fun x3 ex3 => ?_)
  refine va_bast hx hb hK hP hD hS 0 0 rfl rfl (i := 8) (show ¬ ((8 : Int32) < 0 ∨ 2000 ≤ (8 : Int32).toNatClampNeg) by decide) d_U_putFour_19 (fun H locs hP hD hS => ?_)
  have hP : va_P (dC, dI) cls [(row, .inl (cB, 2000, .inl (upd f (8 : Int32).toNatClampNeg (vp_nar .byte x3))))] H := hP
  have hD : va_D A [(row, .inl (cB, 2000, .inl (upd f (8 : Int32).toNatClampNeg (vp_nar .byte x3))))] := hD
  generalize upd f (8 : Int32).toNatClampNeg (vp_nar .byte x3) = f4 at hP hD
  refine lv_aload_n hx hb d_U_putFour_20 rfl (lv_at hl 0 rfl) ?_
  refine lv_iload_n hx hb d_U_putFour_21 rfl (lv_at hl 1 rfl) ?_
  refine lv_iconst (v := 1) hx hb d_U_putFour_22 (by decide) ?_
  refine lv_iadd hx hb d_U_putFour_23 ?_
  refine lv_topi (fun x5 ex5 => ?_)
  obtain rfl : x5 = 9 := ex5.trans (by decide)
  refine lv_iload_n hx hb d_U_putFour_24 rfl (lv_at hl 2 rfl) ?_
  refine lv_bipush (v := 16) hx hb d_U_putFour_25 (by decide) ?_
  refine lv_ishr hx hb d_U_putFour_27 ?_
  refine lv_topi (fun x6 ex6 => ?_)
  refine lv_i2b hx hb d_U_putFour_28 rfl ?_
  refine lv_topi (fun x7 ex7 => ?_)
  refine va_bast hx hb hK hP hD hS 0 0 rfl rfl (i := 9) (show ¬ ((9 : Int32) < 0 ∨ 2000 ≤ (9 : Int32).toNatClampNeg) by decide) d_U_putFour_29 (fun H locs hP hD hS => ?_)
  have hP : va_P (dC, dI) cls [(row, .inl (cB, 2000, .inl (upd f4 (9 : Int32).toNatClampNeg (vp_nar .byte x7))))] H := hP
  have hD : va_D A [(row, .inl (cB, 2000, .inl (upd f4 (9 : Int32).toNatClampNeg (vp_nar .byte x7))))] := hD
  generalize upd f4 (9 : Int32).toNatClampNeg (vp_nar .byte x7) = f8 at hP hD
  refine lv_aload_n hx hb d_U_putFour_30 rfl (lv_at hl 0 rfl) ?_
  refine lv_iload_n hx hb d_U_putFour_31 rfl (lv_at hl 1 rfl) ?_
  refine lv_iconst (v := 2) hx hb d_U_putFour_32 (by decide) ?_
  refine lv_iadd hx hb d_U_putFour_33 ?_
  refine lv_topi (fun x9 ex9 => ?_)
  obtain rfl : x9 = 10 := ex9.trans (by decide)
  refine lv_iload_n hx hb d_U_putFour_34 rfl (lv_at hl 2 rfl) ?_
  refine lv_bipush (v := 8) hx hb d_U_putFour_35 (by decide) ?_
  refine lv_ishr hx hb d_U_putFour_37 ?_
  refine lv_topi (fun x10 ex10 => ?_)
  refine lv_i2b hx hb d_U_putFour_38 rfl ?_
  refine lv_topi (fun x11 ex11 => ?_)
  refine va_bast hx hb hK hP hD hS 0 0 rfl rfl (i := 10) (show ¬ ((10 : Int32) < 0 ∨ 2000 ≤ (10 : Int32).toNatClampNeg) by decide) d_U_putFour_39 (fun H locs hP hD hS => ?_)
  have hP : va_P (dC, dI) cls [(row, .inl (cB, 2000, .inl (upd f8 (10 : Int32).toNatClampNeg (vp_nar .byte x11))))] H := hP
  have hD : va_D A [(row, .inl (cB, 2000, .inl (upd f8 (10 : Int32).toNatClampNeg (vp_nar .byte x11))))] := hD
  generalize upd f8 (10 : Int32).toNatClampNeg (vp_nar .byte x11) = f12 at hP hD
  refine lv_aload_n hx hb d_U_putFour_40 rfl (lv_at hl 0 rfl) ?_
  refine lv_iload_n hx hb d_U_putFour_41 rfl (lv_at hl 1 rfl) ?_
  refine lv_iconst (v := 3) hx hb d_U_putFour_42 (by decide) ?_
  refine lv_iadd hx hb d_U_putFour_43 ?_
  refine lv_topi (fun x13 ex13 => ?_)
  obtain rfl : x13 = 11 := ex13.trans (by decide)
  refine lv_iload_n hx hb d_U_putFour_44 rfl (lv_at hl 2 rfl) ?_
  refine lv_i2b hx hb d_U_putFour_45 rfl ?_
  refine lv_topi (fun x14 ex14 => ?_)
  refine va_bast hx hb hK hP hD hS 0 0 rfl rfl (i := 11) (show ¬ ((11 : Int32) < 0 ∨ 2000 ≤ (11 : Int32).toNatClampNeg) by decide) d_U_putFour_46 (fun H locs hP hD hS => ?_)
  have hP : va_P (dC, dI) cls [(row, .inl (cB, 2000, .inl (upd f12 (11 : Int32).toNatClampNeg (vp_nar .byte x14))))] H := hP
  have hD : va_D A [(row, .inl (cB, 2000, .inl (upd f12 (11 : Int32).toNatClampNeg (vp_nar .byte x14))))] := hD
  generalize upd f12 (11 : Int32).toNatClampNeg (vp_nar .byte x14) = f15 at hP hD
  have hP9 := hP.sub (ws' := [(row, .inl (cB, 2000, .inl f15))]) [0] rfl
  have hD9 := hD.sub (ws' := [(row, .inl (cB, 2000, .inl f15))]) [0] (by decide) rfl
  have hK9 := hK.sub (tys' := [(cB, .byte)]) [0] rfl
  refine W.widen (k := 0) (n := 0) (Nat.le_of_ble_eq_true rfl) (Nat.le_of_ble_eq_true rfl) ?_
  exact W.vret hx hb hr (fun t ht hW => ⟨⟨(), rfl, trivial, f15, by rw [ht]; exact hP9, va_K.moved hW.alike hK9, hD9⟩, hS.F ht⟩) hS.2.2 d_U_putFour_47
set_option maxHeartbeats 4000000 in
set_option maxRecDepth 100000 in
theorem c_U_putFour_12 (l : Launch) (dC : Nat → ClassId) (dI : Nat → Nat → Nat) (row : Nat) (cB : ClassId) (v : Int32) (f : Nat → Int32) (sz : Nat) : Met l y_U_putFour [Cond.code y_U_putFour b_U_putFour 3 (none)] ({ frames := 20, cells := 0, slots := 0, locals := 300 }) (ux_Pc [.ref row, .int 12, .int v] (dC, dI) cls [(row, .inl (cB, 2000, .inl f))] [(cB, .byte)] sz) (va_Qv (fun _ : Unit => True) (fun (_ : Unit) (t : State) => ∃ (f2 : Nat → Int32), ux_B (dC, dI) cls (va_A [(row, .inl (cB, 2000, .inl f))] sz) [(row, .inl (cB, 2000, .inl f2))] [(cB, .byte)] t) (va_A [(row, .inl (cB, 2000, .inl f))] sz)) 0 0 (va_A [(row, .inl (cB, 2000, .inl f))] sz) := by
  refine Met.ofW (cc := b_U_putFour) (maxL := 3) (ret := none) (by decide) rfl ?_
  intro p e s m args below meth c s₁ B hml hv
  obtain ⟨rfl, hsz, hP, hK, hD0, hT⟩ := hv
  have hx := B.exec
  have hb := B.bytes
  have hr := B.returns
  have hown : s.vm.findClass "UnikernelHttp" = some m.cls := findClass_of_methodNamed B.named
  have hlocks := B.notSynchronized
  subst hsz
  have hD := hD0.self (sz := s.heap.size)
  have hns := ux_ns hP
  generalize hAe : va_A [(row, .inl (cB, 2000, .inl f))] s.heap.size = A at hD hns ⊢
  have hA : ∀ q : Nat, s.heap.size ≤ q → A q := fun q h => by rw [← hAe]; exact Or.inr h
  have hS : va_S A s.heap s.heap [] := va_S.rf
  have hl := lv_entry ([.ref row, .int 12, .int v]) (n := 3) (Nat.le_of_ble_eq_true rfl)
  rw [lg_entry_eq]
  generalize (lg_sl ([.ref row, .int 12, .int v]) ++ List.replicate (3 - (lg_sl ([.ref row, .int 12, .int v])).length) Slot.unset).toArray = ls at hl ⊢
  have hl : lv_has ls 3 [(0, .ref row), (1, .int 12), (2, .int v)] := hl
  have hfx : CallFix p m c b_U_putFour 3 s ([.ref row, .int 12, .int v] : List Value).toArray [] "UnikernelHttp" := ⟨hx, hb, hml, hown, fun _ h => by cases h⟩
  refine lv_iload_n hx hb d_U_putFour_0 rfl (lv_at hl 1 rfl) ?_
  refine lv_if_lt (tgt := 47) hx hb d_U_putFour_1 (by decide) (fun hc => absurd hc (by decide)) (fun _ => ?_)
  refine lv_iload_n hx hb d_U_putFour_4 rfl (lv_at hl 1 rfl) ?_
  refine lv_aload_n hx hb d_U_putFour_5 rfl (lv_at hl 0 rfl) ?_
  refine va_alen (v := 2000) hx hb hK hP 0 0 rfl rfl (show Int32.ofNat 2000 = 2000 by decide) d_U_putFour_6 ?_
  refine lv_iconst (v := 3) hx hb d_U_putFour_7 (by decide) ?_
  refine lv_isub hx hb d_U_putFour_8 ?_
  refine lv_topi (fun x1 ex1 => ?_)
  obtain rfl : x1 = 1997 := ex1.trans (by decide)
  refine lv_icmp_ge (tgt := 47) hx hb d_U_putFour_9 (by decide) (fun hc => absurd hc (by decide)) (fun _ => ?_)
  refine lv_aload_n hx hb d_U_putFour_12 rfl (lv_at hl 0 rfl) ?_
  refine lv_iload_n hx hb d_U_putFour_13 rfl (lv_at hl 1 rfl) ?_
  refine lv_iload_n hx hb d_U_putFour_14 rfl (lv_at hl 2 rfl) ?_
  refine lv_bipush (v := 24) hx hb d_U_putFour_15 (by decide) ?_
  refine lv_ishr hx hb d_U_putFour_17 ?_
  refine lv_topi (fun x2 ex2 => ?_)
  refine lv_i2b hx hb d_U_putFour_18 rfl ?_
  refine lv_topi (fun x3 ex3 => ?_)
  refine va_bast hx hb hK hP hD hS 0 0 rfl rfl (i := 12) (show ¬ ((12 : Int32) < 0 ∨ 2000 ≤ (12 : Int32).toNatClampNeg) by decide) d_U_putFour_19 (fun H locs hP hD hS => ?_)
  have hP : va_P (dC, dI) cls [(row, .inl (cB, 2000, .inl (upd f (12 : Int32).toNatClampNeg (vp_nar .byte x3))))] H := hP
  have hD : va_D A [(row, .inl (cB, 2000, .inl (upd f (12 : Int32).toNatClampNeg (vp_nar .byte x3))))] := hD
  generalize upd f (12 : Int32).toNatClampNeg (vp_nar .byte x3) = f4 at hP hD
  refine lv_aload_n hx hb d_U_putFour_20 rfl (lv_at hl 0 rfl) ?_
  refine lv_iload_n hx hb d_U_putFour_21 rfl (lv_at hl 1 rfl) ?_
  refine lv_iconst (v := 1) hx hb d_U_putFour_22 (by decide) ?_
  refine lv_iadd hx hb d_U_putFour_23 ?_
  refine lv_topi (fun x5 ex5 => ?_)
  obtain rfl : x5 = 13 := ex5.trans (by decide)
  refine lv_iload_n hx hb d_U_putFour_24 rfl (lv_at hl 2 rfl) ?_
  refine lv_bipush (v := 16) hx hb d_U_putFour_25 (by decide) ?_
  refine lv_ishr hx hb d_U_putFour_27 ?_
  refine lv_topi (fun x6 ex6 => ?_)
  refine lv_i2b hx hb d_U_putFour_28 rfl ?_
  refine lv_topi (fun x7 ex7 => ?_)
  refine va_bast hx hb hK hP hD hS 0 0 rfl rfl (i := 13) (show ¬ ((13 : Int32) < 0 ∨ 2000 ≤ (13 : Int32).toNatClampNeg) by decide) d_U_putFour_29 (fun H locs hP hD hS => ?_)
  have hP : va_P (dC, dI) cls [(row, .inl (cB, 2000, .inl (upd f4 (13 : Int32).toNatClampNeg (vp_nar .byte x7))))] H := hP
  have hD : va_D A [(row, .inl (cB, 2000, .inl (upd f4 (13 : Int32).toNatClampNeg (vp_nar .byte x7))))] := hD
  generalize upd f4 (13 : Int32).toNatClampNeg (vp_nar .byte x7) = f8 at hP hD
  refine lv_aload_n hx hb d_U_putFour_30 rfl (lv_at hl 0 rfl) ?_
  refine lv_iload_n hx hb d_U_putFour_31 rfl (lv_at hl 1 rfl) ?_
  refine lv_iconst (v := 2) hx hb d_U_putFour_32 (by decide) ?_
  refine lv_iadd hx hb d_U_putFour_33 ?_
  refine lv_topi (fun x9 ex9 => ?_)
  obtain rfl : x9 = 14 := ex9.trans (by decide)
  refine lv_iload_n hx hb d_U_putFour_34 rfl (lv_at hl 2 rfl) ?_
  refine lv_bipush (v := 8) hx hb d_U_putFour_35 (by decide) ?_
  refine lv_ishr hx hb d_U_putFour_37 ?_
  refine lv_topi (fun x10 ex10 => ?_)
  refine lv_i2b hx hb d_U_putFour_38 rfl ?_
  refine lv_topi (fun x11 ex11 => ?_)
  refine va_bast hx hb hK hP hD hS 0 0 rfl rfl (i := 14) (show ¬ ((14 : Int32) < 0 ∨ 2000 ≤ (14 : Int32).toNatClampNeg) by decide) d_U_putFour_39 (fun H locs hP hD hS => ?_)
  have hP : va_P (dC, dI) cls [(row, .inl (cB, 2000, .inl (upd f8 (14 : Int32).toNatClampNeg (vp_nar .byte x11))))] H := hP
  have hD : va_D A [(row, .inl (cB, 2000, .inl (upd f8 (14 : Int32).toNatClampNeg (vp_nar .byte x11))))] := hD
  generalize upd f8 (14 : Int32).toNatClampNeg (vp_nar .byte x11) = f12 at hP hD
  refine lv_aload_n hx hb d_U_putFour_40 rfl (lv_at hl 0 rfl) ?_
  refine lv_iload_n hx hb d_U_putFour_41 rfl (lv_at hl 1 rfl) ?_
  refine lv_iconst (v := 3) hx hb d_U_putFour_42 (by decide) ?_
  refine lv_iadd hx hb d_U_putFour_43 ?_
  refine lv_topi (fun x13 ex13 => ?_)
  obtain rfl : x13 = 15 := ex13.trans (by decide)
  refine lv_iload_n hx hb d_U_putFour_44 rfl (lv_at hl 2 rfl) ?_
  refine lv_i2b hx hb d_U_putFour_45 rfl ?_
  refine lv_topi (fun x14 ex14 => ?_)
  refine va_bast hx hb hK hP hD hS 0 0 rfl rfl (i := 15) (show ¬ ((15 : Int32) < 0 ∨ 2000 ≤ (15 : Int32).toNatClampNeg) by decide) d_U_putFour_46 (fun H locs hP hD hS => ?_)
  have hP : va_P (dC, dI) cls [(row, .inl (cB, 2000, .inl (upd f12 (15 : Int32).toNatClampNeg (vp_nar .byte x14))))] H := hP
  have hD : va_D A [(row, .inl (cB, 2000, .inl (upd f12 (15 : Int32).toNatClampNeg (vp_nar .byte x14))))] := hD
  generalize upd f12 (15 : Int32).toNatClampNeg (vp_nar .byte x14) = f15 at hP hD
  have hP9 := hP.sub (ws' := [(row, .inl (cB, 2000, .inl f15))]) [0] rfl
  have hD9 := hD.sub (ws' := [(row, .inl (cB, 2000, .inl f15))]) [0] (by decide) rfl
  have hK9 := hK.sub (tys' := [(cB, .byte)]) [0] rfl
  refine W.widen (k := 0) (n := 0) (Nat.le_of_ble_eq_true rfl) (Nat.le_of_ble_eq_true rfl) ?_
  exact W.vret hx hb hr (fun t ht hW => ⟨⟨(), rfl, trivial, f15, by rw [ht]; exact hP9, va_K.moved hW.alike hK9, hD9⟩, hS.F ht⟩) hS.2.2 d_U_putFour_47
set_option maxHeartbeats 4000000 in
set_option maxRecDepth 100000 in
theorem c_U_putFour_16 (l : Launch) (dC : Nat → ClassId) (dI : Nat → Nat → Nat) (row : Nat) (cB : ClassId) (v : Int32) (f : Nat → Int32) (sz : Nat) : Met l y_U_putFour [Cond.code y_U_putFour b_U_putFour 3 (none)] ({ frames := 20, cells := 0, slots := 0, locals := 300 }) (ux_Pc [.ref row, .int 16, .int v] (dC, dI) cls [(row, .inl (cB, 2000, .inl f))] [(cB, .byte)] sz) (va_Qv (fun _ : Unit => True) (fun (_ : Unit) (t : State) => ∃ (f2 : Nat → Int32), ux_B (dC, dI) cls (va_A [(row, .inl (cB, 2000, .inl f))] sz) [(row, .inl (cB, 2000, .inl f2))] [(cB, .byte)] t) (va_A [(row, .inl (cB, 2000, .inl f))] sz)) 0 0 (va_A [(row, .inl (cB, 2000, .inl f))] sz) := by
  refine Met.ofW (cc := b_U_putFour) (maxL := 3) (ret := none) (by decide) rfl ?_
  intro p e s m args below meth c s₁ B hml hv
  obtain ⟨rfl, hsz, hP, hK, hD0, hT⟩ := hv
  have hx := B.exec
  have hb := B.bytes
  have hr := B.returns
  have hown : s.vm.findClass "UnikernelHttp" = some m.cls := findClass_of_methodNamed B.named
  have hlocks := B.notSynchronized
  subst hsz
  have hD := hD0.self (sz := s.heap.size)
  have hns := ux_ns hP
  generalize hAe : va_A [(row, .inl (cB, 2000, .inl f))] s.heap.size = A at hD hns ⊢
  have hA : ∀ q : Nat, s.heap.size ≤ q → A q := fun q h => by rw [← hAe]; exact Or.inr h
  have hS : va_S A s.heap s.heap [] := va_S.rf
  have hl := lv_entry ([.ref row, .int 16, .int v]) (n := 3) (Nat.le_of_ble_eq_true rfl)
  rw [lg_entry_eq]
  generalize (lg_sl ([.ref row, .int 16, .int v]) ++ List.replicate (3 - (lg_sl ([.ref row, .int 16, .int v])).length) Slot.unset).toArray = ls at hl ⊢
  have hl : lv_has ls 3 [(0, .ref row), (1, .int 16), (2, .int v)] := hl
  have hfx : CallFix p m c b_U_putFour 3 s ([.ref row, .int 16, .int v] : List Value).toArray [] "UnikernelHttp" := ⟨hx, hb, hml, hown, fun _ h => by cases h⟩
  refine lv_iload_n hx hb d_U_putFour_0 rfl (lv_at hl 1 rfl) ?_
  refine lv_if_lt (tgt := 47) hx hb d_U_putFour_1 (by decide) (fun hc => absurd hc (by decide)) (fun _ => ?_)
  refine lv_iload_n hx hb d_U_putFour_4 rfl (lv_at hl 1 rfl) ?_
  refine lv_aload_n hx hb d_U_putFour_5 rfl (lv_at hl 0 rfl) ?_
  refine va_alen (v := 2000) hx hb hK hP 0 0 rfl rfl (show Int32.ofNat 2000 = 2000 by decide) d_U_putFour_6 ?_
  refine lv_iconst (v := 3) hx hb d_U_putFour_7 (by decide) ?_
  refine lv_isub hx hb d_U_putFour_8 ?_
  refine lv_topi (fun x1 ex1 => ?_)
  obtain rfl : x1 = 1997 := ex1.trans (by decide)
  refine lv_icmp_ge (tgt := 47) hx hb d_U_putFour_9 (by decide) (fun hc => absurd hc (by decide)) (fun _ => ?_)
  refine lv_aload_n hx hb d_U_putFour_12 rfl (lv_at hl 0 rfl) ?_
  refine lv_iload_n hx hb d_U_putFour_13 rfl (lv_at hl 1 rfl) ?_
  refine lv_iload_n hx hb d_U_putFour_14 rfl (lv_at hl 2 rfl) ?_
  refine lv_bipush (v := 24) hx hb d_U_putFour_15 (by decide) ?_
  refine lv_ishr hx hb d_U_putFour_17 ?_
  refine lv_topi (fun x2 ex2 => ?_)
  refine lv_i2b hx hb d_U_putFour_18 rfl ?_
  refine lv_topi (fun x3 ex3 => ?_)
  refine va_bast hx hb hK hP hD hS 0 0 rfl rfl (i := 16) (show ¬ ((16 : Int32) < 0 ∨ 2000 ≤ (16 : Int32).toNatClampNeg) by decide) d_U_putFour_19 (fun H locs hP hD hS => ?_)
  have hP : va_P (dC, dI) cls [(row, .inl (cB, 2000, .inl (upd f (16 : Int32).toNatClampNeg (vp_nar .byte x3))))] H := hP
  have hD : va_D A [(row, .inl (cB, 2000, .inl (upd f (16 : Int32).toNatClampNeg (vp_nar .byte x3))))] := hD
  generalize upd f (16 : Int32).toNatClampNeg (vp_nar .byte x3) = f4 at hP hD
  refine lv_aload_n hx hb d_U_putFour_20 rfl (lv_at hl 0 rfl) ?_
  refine lv_iload_n hx hb d_U_putFour_21 rfl (lv_at hl 1 rfl) ?_
  refine lv_iconst (v := 1) hx hb d_U_putFour_22 (by decide) ?_
  refine lv_iadd hx hb d_U_putFour_23 ?_
  refine lv_topi (fun x5 ex5 => ?_)
  obtain rfl : x5 = 17 := ex5.trans (by decide)
  refine lv_iload_n hx hb d_U_putFour_24 rfl (lv_at hl 2 rfl) ?_
  refine lv_bipush (v := 16) hx hb d_U_putFour_25 (by decide) ?_
  refine lv_ishr hx hb d_U_putFour_27 ?_
  refine lv_topi (fun x6 ex6 => ?_)
  refine lv_i2b hx hb d_U_putFour_28 rfl ?_
  refine lv_topi (fun x7 ex7 => ?_)
  refine va_bast hx hb hK hP hD hS 0 0 rfl rfl (i := 17) (show ¬ ((17 : Int32) < 0 ∨ 2000 ≤ (17 : Int32).toNatClampNeg) by decide) d_U_putFour_29 (fun H locs hP hD hS => ?_)
  have hP : va_P (dC, dI) cls [(row, .inl (cB, 2000, .inl (upd f4 (17 : Int32).toNatClampNeg (vp_nar .byte x7))))] H := hP
  have hD : va_D A [(row, .inl (cB, 2000, .inl (upd f4 (17 : Int32).toNatClampNeg (vp_nar .byte x7))))] := hD
  generalize upd f4 (17 : Int32).toNatClampNeg (vp_nar .byte x7) = f8 at hP hD
  refine lv_aload_n hx hb d_U_putFour_30 rfl (lv_at hl 0 rfl) ?_
  refine lv_iload_n hx hb d_U_putFour_31 rfl (lv_at hl 1 rfl) ?_
  refine lv_iconst (v := 2) hx hb d_U_putFour_32 (by decide) ?_
  refine lv_iadd hx hb d_U_putFour_33 ?_
  refine lv_topi (fun x9 ex9 => ?_)
  obtain rfl : x9 = 18 := ex9.trans (by decide)
  refine lv_iload_n hx hb d_U_putFour_34 rfl (lv_at hl 2 rfl) ?_
  refine lv_bipush (v := 8) hx hb d_U_putFour_35 (by decide) ?_
  refine lv_ishr hx hb d_U_putFour_37 ?_
  refine lv_topi (fun x10 ex10 => ?_)
  refine lv_i2b hx hb d_U_putFour_38 rfl ?_
  refine lv_topi (fun x11 ex11 => ?_)
  refine va_bast hx hb hK hP hD hS 0 0 rfl rfl (i := 18) (show ¬ ((18 : Int32) < 0 ∨ 2000 ≤ (18 : Int32).toNatClampNeg) by decide) d_U_putFour_39 (fun H locs hP hD hS => ?_)
  have hP : va_P (dC, dI) cls [(row, .inl (cB, 2000, .inl (upd f8 (18 : Int32).toNatClampNeg (vp_nar .byte x11))))] H := hP
  have hD : va_D A [(row, .inl (cB, 2000, .inl (upd f8 (18 : Int32).toNatClampNeg (vp_nar .byte x11))))] := hD
  generalize upd f8 (18 : Int32).toNatClampNeg (vp_nar .byte x11) = f12 at hP hD
  refine lv_aload_n hx hb d_U_putFour_40 rfl (lv_at hl 0 rfl) ?_
  refine lv_iload_n hx hb d_U_putFour_41 rfl (lv_at hl 1 rfl) ?_
  refine lv_iconst (v := 3) hx hb d_U_putFour_42 (by decide) ?_
  refine lv_iadd hx hb d_U_putFour_43 ?_
  refine lv_topi (fun x13 ex13 => ?_)
  obtain rfl : x13 = 19 := ex13.trans (by decide)
  refine lv_iload_n hx hb d_U_putFour_44 rfl (lv_at hl 2 rfl) ?_
  refine lv_i2b hx hb d_U_putFour_45 rfl ?_
  refine lv_topi (fun x14 ex14 => ?_)
  refine va_bast hx hb hK hP hD hS 0 0 rfl rfl (i := 19) (show ¬ ((19 : Int32) < 0 ∨ 2000 ≤ (19 : Int32).toNatClampNeg) by decide) d_U_putFour_46 (fun H locs hP hD hS => ?_)
  have hP : va_P (dC, dI) cls [(row, .inl (cB, 2000, .inl (upd f12 (19 : Int32).toNatClampNeg (vp_nar .byte x14))))] H := hP
  have hD : va_D A [(row, .inl (cB, 2000, .inl (upd f12 (19 : Int32).toNatClampNeg (vp_nar .byte x14))))] := hD
  generalize upd f12 (19 : Int32).toNatClampNeg (vp_nar .byte x14) = f15 at hP hD
  have hP9 := hP.sub (ws' := [(row, .inl (cB, 2000, .inl f15))]) [0] rfl
  have hD9 := hD.sub (ws' := [(row, .inl (cB, 2000, .inl f15))]) [0] (by decide) rfl
  have hK9 := hK.sub (tys' := [(cB, .byte)]) [0] rfl
  refine W.widen (k := 0) (n := 0) (Nat.le_of_ble_eq_true rfl) (Nat.le_of_ble_eq_true rfl) ?_
  exact W.vret hx hb hr (fun t ht hW => ⟨⟨(), rfl, trivial, f15, by rw [ht]; exact hP9, va_K.moved hW.alike hK9, hD9⟩, hS.F ht⟩) hS.2.2 d_U_putFour_47
set_option maxHeartbeats 4000000 in
set_option maxRecDepth 100000 in
theorem c_U_isForMe (l : Launch) (dC : Nat → ClassId) (dI : Nat → Nat → Nat) (h0 : Nat) (row : Nat) (nb : Nat) (wi : Nat) (ga : Nat) (sg : Nat) (tc : Nat) (st : Nat) (hp : Nat) (ec : Nat) (sz : Nat) : Met l y_U_isForMe [Cond.code y_U_isForMe b_U_isForMe 4 (some .boolean)] ({ frames := 20, cells := 0, slots := 0, locals := 300 }) (ux_Pc [.ref h0, .int 0] (dC, dI) cls [(h0, .inr (0, [.ref row, .int 0, .int 0, .ref nb, .ref wi, .ref ga, .ref sg, .ref tc, .ref st, .ref hp, .ref ec, .ref row, .int 0, .int 0]))] [] sz) (va_Qi (fun (r : Int32) (_ : Unit) => r = 0) (fun (_ : Unit) (t : State) => ux_B (dC, dI) cls (va_A [(h0, .inr (0, [.ref row, .int 0, .int 0, .ref nb, .ref wi, .ref ga, .ref sg, .ref tc, .ref st, .ref hp, .ref ec, .ref row, .int 0, .int 0]))] sz) [(h0, .inr (0, [.ref row, .int 0, .int 0, .ref nb, .ref wi, .ref ga, .ref sg, .ref tc, .ref st, .ref hp, .ref ec, .ref row, .int 0, .int 0]))] [] t) (va_A [(h0, .inr (0, [.ref row, .int 0, .int 0, .ref nb, .ref wi, .ref ga, .ref sg, .ref tc, .ref st, .ref hp, .ref ec, .ref row, .int 0, .int 0]))] sz)) 0 0 (va_A [(h0, .inr (0, [.ref row, .int 0, .int 0, .ref nb, .ref wi, .ref ga, .ref sg, .ref tc, .ref st, .ref hp, .ref ec, .ref row, .int 0, .int 0]))] sz) := by
  refine Met.ofW (cc := b_U_isForMe) (maxL := 4) (ret := some .boolean) (by decide) rfl ?_
  intro p e s m args below meth c s₁ B hml hv
  obtain ⟨rfl, hsz, hP, hK, hD0, hT⟩ := hv
  have hx := B.exec
  have hb := B.bytes
  have hr := B.returns
  have hown : s.vm.findClass "UnikernelHttp" = some m.cls := findClass_of_methodNamed B.named
  have hlocks := B.notSynchronized
  subst hsz
  have hD := hD0.self (sz := s.heap.size)
  have hns := ux_ns hP
  generalize hAe : va_A [(h0, .inr (0, [.ref row, .int 0, .int 0, .ref nb, .ref wi, .ref ga, .ref sg, .ref tc, .ref st, .ref hp, .ref ec, .ref row, .int 0, .int 0]))] s.heap.size = A at hD hns ⊢
  have hA : ∀ q : Nat, s.heap.size ≤ q → A q := fun q h => by rw [← hAe]; exact Or.inr h
  have hS : va_S A s.heap s.heap [] := va_S.rf
  have hl := lv_entry ([.ref h0, .int 0]) (n := 4) (Nat.le_of_ble_eq_true rfl)
  rw [lg_entry_eq]
  generalize (lg_sl ([.ref h0, .int 0]) ++ List.replicate (4 - (lg_sl ([.ref h0, .int 0])).length) Slot.unset).toArray = ls at hl ⊢
  have hl : lv_has ls 4 [(0, .ref h0), (1, .int 0)] := hl
  have hfx : CallFix p m c b_U_isForMe 4 s ([.ref h0, .int 0] : List Value).toArray [] "UnikernelHttp" := ⟨hx, hb, hml, hown, fun _ h => by cases h⟩
  refine lv_iload_n hx hb d_U_isForMe_0 rfl (lv_at hl 1 rfl) ?_
  refine lv_bipush (v := 14) hx hb d_U_isForMe_1 (by decide) ?_
  refine lv_icmp_ge (tgt := 8) hx hb d_U_isForMe_3 (by decide) (fun hc => absurd hc (by decide)) (fun _ => ?_)
  refine lv_iconst (v := 0) hx hb d_U_isForMe_6 (by decide) ?_
  have hP9 := hP.sub (ws' := [(h0, .inr (0, [.ref row, .int 0, .int 0, .ref nb, .ref wi, .ref ga, .ref sg, .ref tc, .ref st, .ref hp, .ref ec, .ref row, .int 0, .int 0]))]) [0] rfl
  have hD9 := hD.sub (ws' := [(h0, .inr (0, [.ref row, .int 0, .int 0, .ref nb, .ref wi, .ref ga, .ref sg, .ref tc, .ref st, .ref hp, .ref ec, .ref row, .int 0, .int 0]))]) [0] (by decide) rfl
  have hK9 := hK.sub (tys' := []) [] rfl
  refine W.widen (k := 0) (n := 0) (Nat.le_of_ble_eq_true rfl) (Nat.le_of_ble_eq_true rfl) ?_
  exact W.zret (v := 0) hx hb hr (by decide) (fun t ht hW => ⟨⟨_, (), rfl, rfl, by rw [ht]; exact hP9, va_K.moved hW.alike hK9, hD9⟩, hS.F ht⟩) hS.2.2 d_U_isForMe_7
set_option maxHeartbeats 4000000 in
set_option maxRecDepth 100000 in
theorem c_Gs_due (l : Launch) (dC : Nat → ClassId) (dI : Nat → Nat → Nat) (ga : Nat) (g1 : Nat) (sz : Nat) : Met l y_Gs_due [Cond.code y_Gs_due b_Gs_due 1 (some .int)] ({ frames := 20, cells := 0, slots := 0, locals := 300 }) (ux_Pc [.ref ga] (dC, dI) cls [(ga, .inr (3, [.ref g1, .int 0]))] [] sz) (va_Qi (fun (r : Int32) (_ : Unit) => r = 2147483647) (fun (_ : Unit) (t : State) => ux_B (dC, dI) cls (va_A [(ga, .inr (3, [.ref g1, .int 0]))] sz) [(ga, .inr (3, [.ref g1, .int 0]))] [] t) (va_A [(ga, .inr (3, [.ref g1, .int 0]))] sz)) 0 0 (va_A [(ga, .inr (3, [.ref g1, .int 0]))] sz) := by
  refine Met.ofW (cc := b_Gs_due) (maxL := 1) (ret := some .int) (by decide) rfl ?_
  intro p e s m args below meth c s₁ B hml hv
  obtain ⟨rfl, hsz, hP, hK, hD0, hT⟩ := hv
  have hx := B.exec
  have hb := B.bytes
  have hr := B.returns
  have hown : s.vm.findClass "UnikernelHttp$Gatherings" = some m.cls := findClass_of_methodNamed B.named
  have hlocks := B.notSynchronized
  subst hsz
  have hD := hD0.self (sz := s.heap.size)
  have hns := ux_ns hP
  generalize hAe : va_A [(ga, .inr (3, [.ref g1, .int 0]))] s.heap.size = A at hD hns ⊢
  have hA : ∀ q : Nat, s.heap.size ≤ q → A q := fun q h => by rw [← hAe]; exact Or.inr h
  have hS : va_S A s.heap s.heap [] := va_S.rf
  have hl := lv_entry ([.ref ga]) (n := 1) (Nat.le_of_ble_eq_true rfl)
  rw [lg_entry_eq]
  generalize (lg_sl ([.ref ga]) ++ List.replicate (1 - (lg_sl ([.ref ga])).length) Slot.unset).toArray = ls at hl ⊢
  have hl : lv_has ls 1 [(0, .ref ga)] := hl
  have hfx : CallFix p m c b_Gs_due 1 s ([.ref ga] : List Value).toArray [] "UnikernelHttp$Gatherings" := ⟨hx, hb, hml, hown, fun _ h => by cases h⟩
  refine lv_aload_n hx hb d_Gs_due_0 rfl (lv_at hl 0 rfl) ?_
  refine va_get (D := (dC, dI)) (ci := 3) (v := .int 0) (C := R_Gs) (T := F_Gs) (N := 2) hx hb (u_Gs hT) (fun _ h => h) hown hK hP 0 rfl rfl 1 (by decide) (ux_T_at hT tw_143 rfl) (fun _ h9 => h9) rfl d_Gs_due_1 ?_
  refine lv_if_le (tgt := 23) hx hb d_Gs_due_4 (by decide) (fun _ => ?_) (fun hc => absurd (by decide) hc)
  refine lv_ldc (own := "UnikernelHttp$Gatherings") (v := 2147483647) hx hb hown (ux_T_at hT tw_1392 rfl) d_Gs_due_23 ?_
  have hP9 := hP.sub (ws' := [(ga, .inr (3, [.ref g1, .int 0]))]) [0] rfl
  have hD9 := hD.sub (ws' := [(ga, .inr (3, [.ref g1, .int 0]))]) [0] (by decide) rfl
  have hK9 := hK.sub (tys' := []) [] rfl
  refine W.widen (k := 0) (n := 0) (Nat.le_of_ble_eq_true rfl) (Nat.le_of_ble_eq_true rfl) ?_
  exact W.iret (v := 2147483647) hx hb hr (fun t ht hW => ⟨⟨_, (), rfl, rfl, by rw [ht]; exact hP9, va_K.moved hW.alike hK9, hD9⟩, hS.F ht⟩) hS.2.2 d_Gs_due_25
set_option maxHeartbeats 4000000 in
set_option maxRecDepth 100000 in
theorem c_Tc_firstDue (l : Launch) (dC : Nat → ClassId) (dI : Nat → Nat → Nat) (tc : Nat) (t1 : Nat) (t2 : Nat) (wi : Nat) (sz : Nat) : Met l y_Tc_firstDue [Cond.code y_Tc_firstDue b_Tc_firstDue 3 (some (.object "UnikernelHttp$Connection"))] ({ frames := 20, cells := 0, slots := 0, locals := 300 }) (ux_Pc [.ref tc] (dC, dI) cls [(tc, .inr (6, [.ref t1, .ref t2, .ref wi, .int 0, .int 0]))] [] sz) (va_Qq (fun (r : Option Nat) (_ : Unit) => r = none) (fun (_ : Unit) (t : State) => ux_B (dC, dI) cls (va_A [(tc, .inr (6, [.ref t1, .ref t2, .ref wi, .int 0, .int 0]))] sz) [(tc, .inr (6, [.ref t1, .ref t2, .ref wi, .int 0, .int 0]))] [] t) (va_A [(tc, .inr (6, [.ref t1, .ref t2, .ref wi, .int 0, .int 0]))] sz)) 0 0 (va_A [(tc, .inr (6, [.ref t1, .ref t2, .ref wi, .int 0, .int 0]))] sz) := by
  refine Met.ofW (cc := b_Tc_firstDue) (maxL := 3) (ret := some (.object "UnikernelHttp$Connection")) (by decide) rfl ?_
  intro p e s m args below meth c s₁ B hml hv
  obtain ⟨rfl, hsz, hP, hK, hD0, hT⟩ := hv
  have hx := B.exec
  have hb := B.bytes
  have hr := B.returns
  have hown : s.vm.findClass "UnikernelHttp$Tcp" = some m.cls := findClass_of_methodNamed B.named
  have hlocks := B.notSynchronized
  subst hsz
  have hD := hD0.self (sz := s.heap.size)
  have hns := ux_ns hP
  generalize hAe : va_A [(tc, .inr (6, [.ref t1, .ref t2, .ref wi, .int 0, .int 0]))] s.heap.size = A at hD hns ⊢
  have hA : ∀ q : Nat, s.heap.size ≤ q → A q := fun q h => by rw [← hAe]; exact Or.inr h
  have hS : va_S A s.heap s.heap [] := va_S.rf
  have hl := lv_entry ([.ref tc]) (n := 3) (Nat.le_of_ble_eq_true rfl)
  rw [lg_entry_eq]
  generalize (lg_sl ([.ref tc]) ++ List.replicate (3 - (lg_sl ([.ref tc])).length) Slot.unset).toArray = ls at hl ⊢
  have hl : lv_has ls 3 [(0, .ref tc)] := hl
  have hfx : CallFix p m c b_Tc_firstDue 3 s ([.ref tc] : List Value).toArray [] "UnikernelHttp$Tcp" := ⟨hx, hb, hml, hown, fun _ h => by cases h⟩
  refine lv_null hx hb d_Tc_firstDue_0 ?_
  refine lv_astore_nN hx hb d_Tc_firstDue_1 rfl hl (by decide) rfl (fun ls hl => ?_)
  have hl : lv_has ls 3 [(1, .null), (0, .ref tc)] := hl
  refine lv_iconst (v := 0) hx hb d_Tc_firstDue_2 (by decide) ?_
  refine lv_istore_n hx hb d_Tc_firstDue_3 rfl hl (by decide) rfl (fun ls hl => ?_)
  have hl : lv_has ls 3 [(2, .int 0), (1, .null), (0, .ref tc)] := hl
  refine lv_iload_n hx hb d_Tc_firstDue_4 rfl (lv_at hl 0 rfl) ?_
  refine lv_aload_n hx hb d_Tc_firstDue_5 rfl (lv_at hl 2 rfl) ?_
  refine va_get (D := (dC, dI)) (ci := 6) (v := .int 0) (C := R_Tc) (T := F_Tc) (N := 5) hx hb (u_Tc hT) (fun _ h => h) hown hK hP 0 rfl rfl 3 (by decide) (ux_T_at hT tw_373 rfl) (fun _ h9 => h9) rfl d_Tc_firstDue_6 ?_
  refine lv_icmp_ge (tgt := 45) hx hb d_Tc_firstDue_9 (by decide) (fun _ => ?_) (fun hc => absurd (by decide) hc)
  refine lv_aload_nN hx hb d_Tc_firstDue_45 rfl (lv_at hl 1 rfl) ?_
  have hP9 := hP.sub (ws' := [(tc, .inr (6, [.ref t1, .ref t2, .ref wi, .int 0, .int 0]))]) [0] rfl
  have hD9 := hD.sub (ws' := [(tc, .inr (6, [.ref t1, .ref t2, .ref wi, .int 0, .int 0]))]) [0] (by decide) rfl
  have hK9 := hK.sub (tys' := []) [] rfl
  refine W.widen (k := 0) (n := 0) (Nat.le_of_ble_eq_true rfl) (Nat.le_of_ble_eq_true rfl) ?_
  exact W.aret hx hb hr (by first | exact Or.inl ⟨_, rfl⟩ | exact Or.inr ⟨_, rfl⟩) (Or.inl rfl) (fun t ht hW => ⟨⟨none, (), rfl, rfl, by rw [ht]; exact hP9, va_K.moved hW.alike hK9, hD9⟩, hS.F ht⟩) hS.2.2 d_Tc_firstDue_46
set_option maxHeartbeats 4000000 in
set_option maxRecDepth 100000 in
theorem c_Tc_find (l : Launch) (dC : Nat → ClassId) (dI : Nat → Nat → Nat) (tc : Nat) (t1 : Nat) (t2 : Nat) (wi : Nat) (a : Int32) (b : Int32) (sz : Nat) : Met l y_Tc_find [Cond.code y_Tc_find b_Tc_find 4 (some (.object "UnikernelHttp$Connection"))] ({ frames := 20, cells := 0, slots := 0, locals := 300 }) (ux_Pc [.ref tc, .int a, .int b] (dC, dI) cls [(tc, .inr (6, [.ref t1, .ref t2, .ref wi, .int 0, .int 0]))] [] sz) (va_Qq (fun (r : Option Nat) (_ : Unit) => r = none) (fun (_ : Unit) (t : State) => ux_B (dC, dI) cls (va_A [(tc, .inr (6, [.ref t1, .ref t2, .ref wi, .int 0, .int 0]))] sz) [(tc, .inr (6, [.ref t1, .ref t2, .ref wi, .int 0, .int 0]))] [] t) (va_A [(tc, .inr (6, [.ref t1, .ref t2, .ref wi, .int 0, .int 0]))] sz)) 0 0 (va_A [(tc, .inr (6, [.ref t1, .ref t2, .ref wi, .int 0, .int 0]))] sz) := by
  refine Met.ofW (cc := b_Tc_find) (maxL := 4) (ret := some (.object "UnikernelHttp$Connection")) (by decide) rfl ?_
  intro p e s m args below meth c s₁ B hml hv
  obtain ⟨rfl, hsz, hP, hK, hD0, hT⟩ := hv
  have hx := B.exec
  have hb := B.bytes
  have hr := B.returns
  have hown : s.vm.findClass "UnikernelHttp$Tcp" = some m.cls := findClass_of_methodNamed B.named
  have hlocks := B.notSynchronized
  subst hsz
  have hD := hD0.self (sz := s.heap.size)
  have hns := ux_ns hP
  generalize hAe : va_A [(tc, .inr (6, [.ref t1, .ref t2, .ref wi, .int 0, .int 0]))] s.heap.size = A at hD hns ⊢
  have hA : ∀ q : Nat, s.heap.size ≤ q → A q := fun q h => by rw [← hAe]; exact Or.inr h
  have hS : va_S A s.heap s.heap [] := va_S.rf
  have hl := lv_entry ([.ref tc, .int a, .int b]) (n := 4) (Nat.le_of_ble_eq_true rfl)
  rw [lg_entry_eq]
  generalize (lg_sl ([.ref tc, .int a, .int b]) ++ List.replicate (4 - (lg_sl ([.ref tc, .int a, .int b])).length) Slot.unset).toArray = ls at hl ⊢
  have hl : lv_has ls 4 [(0, .ref tc), (1, .int a), (2, .int b)] := hl
  have hfx : CallFix p m c b_Tc_find 4 s ([.ref tc, .int a, .int b] : List Value).toArray [] "UnikernelHttp$Tcp" := ⟨hx, hb, hml, hown, fun _ h => by cases h⟩
  refine lv_iconst (v := 0) hx hb d_Tc_find_0 (by decide) ?_
  refine lv_istore_n hx hb d_Tc_find_1 rfl hl (by decide) rfl (fun ls hl => ?_)
  have hl : lv_has ls 4 [(3, .int 0), (0, .ref tc), (1, .int a), (2, .int b)] := hl
  refine lv_iload_n hx hb d_Tc_find_2 rfl (lv_at hl 0 rfl) ?_
  refine lv_aload_n hx hb d_Tc_find_3 rfl (lv_at hl 1 rfl) ?_
  refine va_get (D := (dC, dI)) (ci := 6) (v := .int 0) (C := R_Tc) (T := F_Tc) (N := 5) hx hb (u_Tc hT) (fun _ h => h) hown hK hP 0 rfl rfl 3 (by decide) (ux_T_at hT tw_373 rfl) (fun _ h9 => h9) rfl d_Tc_find_4 ?_
  refine lv_icmp_ge (tgt := 49) hx hb d_Tc_find_7 (by decide) (fun _ => ?_) (fun hc => absurd (by decide) hc)
  refine lv_null hx hb d_Tc_find_49 ?_
  have hP9 := hP.sub (ws' := [(tc, .inr (6, [.ref t1, .ref t2, .ref wi, .int 0, .int 0]))]) [0] rfl
  have hD9 := hD.sub (ws' := [(tc, .inr (6, [.ref t1, .ref t2, .ref wi, .int 0, .int 0]))]) [0] (by decide) rfl
  have hK9 := hK.sub (tys' := []) [] rfl
  refine W.widen (k := 0) (n := 0) (Nat.le_of_ble_eq_true rfl) (Nat.le_of_ble_eq_true rfl) ?_
  exact W.aret hx hb hr (by first | exact Or.inl ⟨_, rfl⟩ | exact Or.inr ⟨_, rfl⟩) (Or.inl rfl) (fun t ht hW => ⟨⟨none, (), rfl, rfl, by rw [ht]; exact hP9, va_K.moved hW.alike hK9, hD9⟩, hS.F ht⟩) hS.2.2 d_Tc_find_50
set_option maxHeartbeats 4000000 in
set_option maxRecDepth 100000 in
theorem c_Wi_keeps (l : Launch) (dC : Nat → ClassId) (dI : Nat → Nat → Nat) (wi : Nat) (nb : Nat) (w1 : Nat) (w2 : Nat) (k : Int32) (sz : Nat) : Met l y_Wi_keeps [Cond.code y_Wi_keeps b_Wi_keeps 2 (some .boolean)] ({ frames := 20, cells := 0, slots := 0, locals := 300 }) (ux_Pc [.ref wi, .int k] (dC, dI) cls [(wi, .inr (2, [.ref nb, .ref w1, .ref w2, .int 0, .int 0]))] [] sz) (va_Qi (fun (r : Int32) (_ : Unit) => r = 0) (fun (_ : Unit) (t : State) => ux_B (dC, dI) cls (va_A [(wi, .inr (2, [.ref nb, .ref w1, .ref w2, .int 0, .int 0]))] sz) [(wi, .inr (2, [.ref nb, .ref w1, .ref w2, .int 0, .int 0]))] [] t) (va_A [(wi, .inr (2, [.ref nb, .ref w1, .ref w2, .int 0, .int 0]))] sz)) 0 0 (va_A [(wi, .inr (2, [.ref nb, .ref w1, .ref w2, .int 0, .int 0]))] sz) := by
  refine Met.ofW (cc := b_Wi_keeps) (maxL := 2) (ret := some .boolean) (by decide) rfl ?_
  intro p e s m args below meth c s₁ B hml hv
  obtain ⟨rfl, hsz, hP, hK, hD0, hT⟩ := hv
  have hx := B.exec
  have hb := B.bytes
  have hr := B.returns
  have hown : s.vm.findClass "UnikernelHttp$Wire" = some m.cls := findClass_of_methodNamed B.named
  have hlocks := B.notSynchronized
  subst hsz
  have hD := hD0.self (sz := s.heap.size)
  have hns := ux_ns hP
  generalize hAe : va_A [(wi, .inr (2, [.ref nb, .ref w1, .ref w2, .int 0, .int 0]))] s.heap.size = A at hD hns ⊢
  have hA : ∀ q : Nat, s.heap.size ≤ q → A q := fun q h => by rw [← hAe]; exact Or.inr h
  have hS : va_S A s.heap s.heap [] := va_S.rf
  have hl := lv_entry ([.ref wi, .int k]) (n := 2) (Nat.le_of_ble_eq_true rfl)
  rw [lg_entry_eq]
  generalize (lg_sl ([.ref wi, .int k]) ++ List.replicate (2 - (lg_sl ([.ref wi, .int k])).length) Slot.unset).toArray = ls at hl ⊢
  have hl : lv_has ls 2 [(0, .ref wi), (1, .int k)] := hl
  have hfx : CallFix p m c b_Wi_keeps 2 s ([.ref wi, .int k] : List Value).toArray [] "UnikernelHttp$Wire" := ⟨hx, hb, hml, hown, fun _ h => by cases h⟩
  refine lv_iload_n hx hb d_Wi_keeps_0 rfl (lv_at hl 1 rfl) ?_
  refine lv_if_lt (tgt := 27) hx hb d_Wi_keeps_1 (by decide) (fun hc1 => ?_) (fun hc1 => ?_)
  · refine lv_iconst (v := 0) hx hb d_Wi_keeps_27 (by decide) ?_
    have hP9 := hP.sub (ws' := [(wi, .inr (2, [.ref nb, .ref w1, .ref w2, .int 0, .int 0]))]) [0] rfl
    have hD9 := hD.sub (ws' := [(wi, .inr (2, [.ref nb, .ref w1, .ref w2, .int 0, .int 0]))]) [0] (by decide) rfl
    have hK9 := hK.sub (tys' := []) [] rfl
    refine W.widen (k := 0) (n := 0) (Nat.le_of_ble_eq_true rfl) (Nat.le_of_ble_eq_true rfl) ?_
    exact W.zret (v := 0) hx hb hr (by decide) (fun t ht hW => ⟨⟨_, (), rfl, rfl, by rw [ht]; exact hP9, va_K.moved hW.alike hK9, hD9⟩, hS.F ht⟩) hS.2.2 d_Wi_keeps_28
  · refine lv_iload_n hx hb d_Wi_keeps_4 rfl (lv_at hl 1 rfl) ?_
    refine lv_aload_n hx hb d_Wi_keeps_5 rfl (lv_at hl 0 rfl) ?_
    refine va_get (D := (dC, dI)) (ci := 2) (v := .int 0) (C := R_Wi) (T := F_Wi) (N := 5) hx hb (u_Wi hT) (fun _ h => h) hown hK hP 0 rfl rfl 3 (by decide) (ux_T_at hT tw_80 rfl) (fun _ h9 => h9) rfl d_Wi_keeps_6 ?_
    refine lv_icmp_ge (tgt := 27) hx hb d_Wi_keeps_9 (by decide) (fun _ => ?_) (fun hc2 => by exfalso; simp only [Int32.lt_iff_toInt_lt, Int32.le_iff_toInt_le, ← Int32.toInt_inj, ux_l0] at hc2 hc1; omega)
    refine lv_iconst (v := 0) hx hb d_Wi_keeps_27 (by decide) ?_
    have hP9 := hP.sub (ws' := [(wi, .inr (2, [.ref nb, .ref w1, .ref w2, .int 0, .int 0]))]) [0] rfl
    have hD9 := hD.sub (ws' := [(wi, .inr (2, [.ref nb, .ref w1, .ref w2, .int 0, .int 0]))]) [0] (by decide) rfl
    have hK9 := hK.sub (tys' := []) [] rfl
    refine W.widen (k := 0) (n := 0) (Nat.le_of_ble_eq_true rfl) (Nat.le_of_ble_eq_true rfl) ?_
    exact W.zret (v := 0) hx hb hr (by decide) (fun t ht hW => ⟨⟨_, (), rfl, rfl, by rw [ht]; exact hP9, va_K.moved hW.alike hK9, hD9⟩, hS.F ht⟩) hS.2.2 d_Wi_keeps_28
