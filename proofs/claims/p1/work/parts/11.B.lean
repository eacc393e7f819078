/-! Which words the rows behind use, by their places. -/
theorem tw_8 : (Jvm.Cond.initialized "UnikernelHttp$Connection") ∈ lw_tbl := ux_in 8 ux_t1 rfl
theorem tw_219 : (Jvm.Cond.methodLink "UnikernelHttp$Tcp" (3 : Nat) ({ cls := "java/lang/Object", name := "<init>", desc := "()V" } : Jvm.MethodName)) ∈ lw_tbl := ux_in 219 ux_t1 rfl
theorem tw_220 : (Jvm.Cond.classLink "UnikernelHttp$Tcp" (9 : Nat) "UnikernelHttp$Connection") ∈ lw_tbl := ux_in 220 ux_t1 rfl
theorem tw_221 : (Jvm.Cond.arrayOver (Jvm.ClassFile.FieldType.object "UnikernelHttp$Connection")) ∈ lw_tbl := ux_in 221 ux_t1 rfl
theorem tw_222 : (Jvm.Cond.instantiable "UnikernelHttp$Connection" (17 : Nat)) ∈ lw_tbl := ux_in 222 ux_t1 rfl
theorem tw_223 : (Jvm.Cond.methodLinkNest "UnikernelHttp$Tcp" (25 : Nat) ({ cls := "UnikernelHttp$Connection", name := "<init>", desc := "()V" } : Jvm.MethodName) "UnikernelHttp") ∈ lw_tbl := ux_in 223 ux_t1 rfl
theorem tw_224 : (Jvm.Cond.instanceMethod ({ cls := "UnikernelHttp$Connection", name := "<init>", desc := "()V" } : Jvm.MethodName)) ∈ lw_tbl := ux_in 224 ux_t1 rfl
theorem tw_225 : (Jvm.Cond.code ({ cls := "UnikernelHttp$Connection", name := "<init>", desc := "()V" } : Jvm.MethodName) prog_2_method_1_code (1 : Nat) (Option.none : Option Jvm.ClassFile.FieldType)) ∈ lw_tbl := ux_in 225 ux_t1 rfl
theorem tw_370 : (Jvm.Cond.fieldLink "UnikernelHttp$Tcp" (11 : Nat) "UnikernelHttp$Tcp" "list" "[LUnikernelHttp$Connection;") ∈ lw_tbl := ux_in 130 ux_t2 rfl
theorem tw_371 : (Jvm.Cond.fieldLink "UnikernelHttp$Tcp" (17 : Nat) "UnikernelHttp$Tcp" "body" "[B") ∈ lw_tbl := ux_in 131 ux_t2 rfl
theorem tw_372 : (Jvm.Cond.fieldLink "UnikernelHttp$Tcp" (21 : Nat) "UnikernelHttp$Tcp" "wire" "LUnikernelHttp$Wire;") ∈ lw_tbl := ux_in 132 ux_t2 rfl
theorem tw_393 : (Jvm.Cond.methodLink "UnikernelHttp$Store" (3 : Nat) ({ cls := "java/lang/Object", name := "<init>", desc := "()V" } : Jvm.MethodName)) ∈ lw_tbl := ux_in 153 ux_t2 rfl
theorem tw_394 : (Jvm.Cond.classLink "UnikernelHttp$Store" (9 : Nat) "[[B") ∈ lw_tbl := ux_in 154 ux_t2 rfl
theorem tw_395 : (Jvm.Cond.arrayOver (Jvm.ClassFile.FieldType.array Jvm.ClassFile.FieldType.byte)) ∈ lw_tbl := ux_in 155 ux_t2 rfl
theorem tw_396 : (Jvm.Cond.fieldLink "UnikernelHttp$Store" (11 : Nat) "UnikernelHttp$Store" "targets" "[[B") ∈ lw_tbl := ux_in 156 ux_t2 rfl
theorem tw_397 : (Jvm.Cond.fieldLink "UnikernelHttp$Store" (16 : Nat) "UnikernelHttp$Store" "targetLengths" "[I") ∈ lw_tbl := ux_in 157 ux_t2 rfl
theorem tw_398 : (Jvm.Cond.fieldLink "UnikernelHttp$Store" (20 : Nat) "UnikernelHttp$Store" "contents" "[[B") ∈ lw_tbl := ux_in 158 ux_t2 rfl
theorem tw_401 : (Jvm.Cond.fieldLink "UnikernelHttp$Store" (23 : Nat) "UnikernelHttp$Store" "lengths" "[I") ∈ lw_tbl := ux_in 161 ux_t2 rfl
theorem tw_404 : (Jvm.Cond.fieldLink "UnikernelHttp$Store" (26 : Nat) "UnikernelHttp$Store" "sums" "[I") ∈ lw_tbl := ux_in 164 ux_t2 rfl
theorem tw_426 : (Jvm.Cond.methodLink "UnikernelHttp$Http" (3 : Nat) ({ cls := "java/lang/Object", name := "<init>", desc := "()V" } : Jvm.MethodName)) ∈ lw_tbl := ux_in 186 ux_t2 rfl
theorem tw_427 : (Jvm.Cond.fieldLink "UnikernelHttp$Http" (15 : Nat) "UnikernelHttp$Http" "store" "LUnikernelHttp$Store;") ∈ lw_tbl := ux_in 187 ux_t2 rfl
theorem tw_428 : (Jvm.Cond.fieldLink "UnikernelHttp$Http" (9 : Nat) "UnikernelHttp$Http" "answer" "[B") ∈ lw_tbl := ux_in 188 ux_t2 rfl
abbrev b_Tc_init : ByteArray := prog_11_method_1_code
abbrev y_Tc_init : MethodName := ⟨"UnikernelHttp$Tcp", "<init>", "(LUnikernelHttp$Wire;)V"⟩
theorem d_Tc_init_0 : decode b_Tc_init 0 = .ok (.aload_n 0, 1) := by decide +kernel
theorem d_Tc_init_1 : decode b_Tc_init 1 = .ok (.invokespecial 3, 3) := by decide +kernel
theorem d_Tc_init_4 : decode b_Tc_init 4 = .ok (.aload_n 0, 1) := by decide +kernel
theorem d_Tc_init_5 : decode b_Tc_init 5 = .ok (.bipush 8, 2) := by decide +kernel
theorem d_Tc_init_7 : decode b_Tc_init 7 = .ok (.anewarray 9, 3) := by decide +kernel
theorem d_Tc_init_10 : decode b_Tc_init 10 = .ok (.putfield 11, 3) := by decide +kernel
theorem d_Tc_init_13 : decode b_Tc_init 13 = .ok (.aload_n 0, 1) := by decide +kernel
theorem d_Tc_init_14 : decode b_Tc_init 14 = .ok (.sipush 560, 3) := by decide +kernel
theorem d_Tc_init_17 : decode b_Tc_init 17 = .ok (.newarray .byte, 2) := by decide +kernel
theorem d_Tc_init_19 : decode b_Tc_init 19 = .ok (.putfield 17, 3) := by decide +kernel
theorem d_Tc_init_22 : decode b_Tc_init 22 = .ok (.aload_n 0, 1) := by decide +kernel
theorem d_Tc_init_23 : decode b_Tc_init 23 = .ok (.aload_n 1, 1) := by decide +kernel
theorem d_Tc_init_24 : decode b_Tc_init 24 = .ok (.putfield 21, 3) := by decide +kernel
theorem d_Tc_init_27 : decode b_Tc_init 27 = .ok (.iconst 0, 1) := by decide +kernel
theorem d_Tc_init_28 : decode b_Tc_init 28 = .ok (.istore_n 2, 1) := by decide +kernel
theorem d_Tc_init_29 : decode b_Tc_init 29 = .ok (.iload_n 2, 1) := by decide +kernel
theorem d_Tc_init_30 : decode b_Tc_init 30 = .ok (.bipush 8, 2) := by decide +kernel
theorem d_Tc_init_32 : decode b_Tc_init 32 = .ok (.if_icmp .ge 22, 3) := by decide +kernel
theorem d_Tc_init_35 : decode b_Tc_init 35 = .ok (.aload_n 0, 1) := by decide +kernel
theorem d_Tc_init_36 : decode b_Tc_init 36 = .ok (.getfield 11, 3) := by decide +kernel
theorem d_Tc_init_39 : decode b_Tc_init 39 = .ok (.iload_n 2, 1) := by decide +kernel
theorem d_Tc_init_40 : decode b_Tc_init 40 = .ok (.new 9, 3) := by decide +kernel
theorem d_Tc_init_43 : decode b_Tc_init 43 = .ok (.dup, 1) := by decide +kernel
theorem d_Tc_init_44 : decode b_Tc_init 44 = .ok (.invokespecial 25, 3) := by decide +kernel
theorem d_Tc_init_47 : decode b_Tc_init 47 = .ok (.aastore, 1) := by decide +kernel
theorem d_Tc_init_48 : decode b_Tc_init 48 = .ok (.iinc 2 1, 3) := by decide +kernel
theorem d_Tc_init_51 : decode b_Tc_init 51 = .ok (.goto (-22), 3) := by decide +kernel
theorem d_Tc_init_54 : decode b_Tc_init 54 = .ok (.return_, 1) := by decide +kernel
abbrev b_So_init : ByteArray := prog_10_method_1_code
abbrev y_So_init : MethodName := ⟨"UnikernelHttp$Store", "<init>", "()V"⟩
theorem d_So_init_0 : decode b_So_init 0 = .ok (.aload_n 0, 1) := by decide +kernel
theorem d_So_init_1 : decode b_So_init 1 = .ok (.invokespecial 3, 3) := by decide +kernel
theorem d_So_init_4 : decode b_So_init 4 = .ok (.aload_n 0, 1) := by decide +kernel
theorem d_So_init_5 : decode b_So_init 5 = .ok (.bipush 32, 2) := by decide +kernel
theorem d_So_init_7 : decode b_So_init 7 = .ok (.bipush 64, 2) := by decide +kernel
theorem d_So_init_9 : decode b_So_init 9 = .ok (.multianewarray 9 2, 4) := by decide +kernel
theorem d_So_init_13 : decode b_So_init 13 = .ok (.putfield 11, 3) := by decide +kernel
theorem d_So_init_16 : decode b_So_init 16 = .ok (.aload_n 0, 1) := by decide +kernel
theorem d_So_init_17 : decode b_So_init 17 = .ok (.bipush 32, 2) := by decide +kernel
theorem d_So_init_19 : decode b_So_init 19 = .ok (.newarray .int, 2) := by decide +kernel
theorem d_So_init_21 : decode b_So_init 21 = .ok (.putfield 16, 3) := by decide +kernel
theorem d_So_init_24 : decode b_So_init 24 = .ok (.aload_n 0, 1) := by decide +kernel
theorem d_So_init_25 : decode b_So_init 25 = .ok (.bipush 32, 2) := by decide +kernel
theorem d_So_init_27 : decode b_So_init 27 = .ok (.sipush 1500, 3) := by decide +kernel
theorem d_So_init_30 : decode b_So_init 30 = .ok (.multianewarray 9 2, 4) := by decide +kernel
theorem d_So_init_34 : decode b_So_init 34 = .ok (.putfield 20, 3) := by decide +kernel
theorem d_So_init_37 : decode b_So_init 37 = .ok (.aload_n 0, 1) := by decide +kernel
theorem d_So_init_38 : decode b_So_init 38 = .ok (.bipush 32, 2) := by decide +kernel
theorem d_So_init_40 : decode b_So_init 40 = .ok (.newarray .int, 2) := by decide +kernel
theorem d_So_init_42 : decode b_So_init 42 = .ok (.putfield 23, 3) := by decide +kernel
theorem d_So_init_45 : decode b_So_init 45 = .ok (.aload_n 0, 1) := by decide +kernel
theorem d_So_init_46 : decode b_So_init 46 = .ok (.bipush 32, 2) := by decide +kernel
theorem d_So_init_48 : decode b_So_init 48 = .ok (.newarray .int, 2) := by decide +kernel
theorem d_So_init_50 : decode b_So_init 50 = .ok (.putfield 26, 3) := by decide +kernel
theorem d_So_init_53 : decode b_So_init 53 = .ok (.return_, 1) := by decide +kernel
abbrev b_Ht_init : ByteArray := prog_5_method_1_code
abbrev y_Ht_init : MethodName := ⟨"UnikernelHttp$Http", "<init>", "(LUnikernelHttp$Store;)V"⟩
theorem d_Ht_init_0 : decode b_Ht_init 0 = .ok (.aload_n 0, 1) := by decide +kernel
theorem d_Ht_init_1 : decode b_Ht_init 1 = .ok (.invokespecial 3, 3) := by decide +kernel
theorem d_Ht_init_4 : decode b_Ht_init 4 = .ok (.aload_n 0, 1) := by decide +kernel
theorem d_Ht_init_5 : decode b_Ht_init 5 = .ok (.sipush 1700, 3) := by decide +kernel
theorem d_Ht_init_8 : decode b_Ht_init 8 = .ok (.newarray .byte, 2) := by decide +kernel
theorem d_Ht_init_10 : decode b_Ht_init 10 = .ok (.putfield 9, 3) := by decide +kernel
theorem d_Ht_init_13 : decode b_Ht_init 13 = .ok (.aload_n 0, 1) := by decide +kernel
theorem d_Ht_init_14 : decode b_Ht_init 14 = .ok (.aload_n 1, 1) := by decide +kernel
theorem d_Ht_init_15 : decode b_Ht_init 15 = .ok (.putfield 15, 3) := by decide +kernel
theorem d_Ht_init_18 : decode b_Ht_init 18 = .ok (.return_, 1) := by decide +kernel
set_option maxHeartbeats 4000000 in
set_option maxRecDepth 100000 in
theorem c_Tc_init (l : Launch) (dC : Nat → ClassId) (dI : Nat → Nat → Nat) (h0 : Nat) (wi : Nat) (sz : Nat) : Met l y_Tc_init [Cond.code y_Tc_init b_Tc_init 3 (none)] ({ frames := 60, cells := 50, slots := 66336, locals := 900 }) (ux_Pc [.ref h0, .ref wi] (dC, dI) cls [(h0, .inr (6, [.null, .null, .null, .int 0, .int 0]))] [] sz) (va_Qv (fun _ : Unit => True) (fun (_ : Unit) (t : State) => ∃ (q1 : Nat), ∃ (q2 : Nat), ux_B (dC, dI) cls (va_A [(h0, .inr (6, [.null, .null, .null, .int 0, .int 0]))] sz) [(h0, .inr (6, [.ref q1, .ref q2, .ref wi, .int 0, .int 0]))] [] t) (va_A [(h0, .inr (6, [.null, .null, .null, .int 0, .int 0]))] sz)) 50 66336 (va_A [(h0, .inr (6, [.null, .null, .null, .int 0, .int 0]))] sz) := by
  refine Met.ofW (cc := b_Tc_init) (maxL := 3) (ret := none) (by decide) rfl ?_
  intro p e s m args below meth c s₁ B hml hv
  obtain ⟨rfl, hsz, hP, hK, hD0, hT⟩ := hv
  have hx := B.exec
  have hb := B.bytes
  have hr := B.returns
  have hown : s.vm.findClass "UnikernelHttp$Tcp" = some m.cls := findClass_of_methodNamed B.named
  have hlocks := B.notSynchronized
  have hin : meth.name = "<init>" := (name_of_methodNamed B.named B.method).1
  subst hsz
  have hD := hD0.self (sz := s.heap.size)
  have hns := ux_ns hP
  generalize hAe : va_A [(h0, .inr (6, [.null, .null, .null, .int 0, .int 0]))] s.heap.size = A at hD hns ⊢
  have hA : ∀ q : Nat, s.heap.size ≤ q → A q := fun q h => by rw [← hAe]; exact Or.inr h
  have hS : va_S A s.heap s.heap [] := va_S.rf
  have hl := lv_entry ([.ref h0, .ref wi]) (n := 3) (Nat.le_of_ble_eq_true rfl)
  rw [lg_entry_eq]
  generalize (lg_sl ([.ref h0, .ref wi]) ++ List.replicate (3 - (lg_sl ([.ref h0, .ref wi])).length) Slot.unset).toArray = ls at hl ⊢
  have hl : lv_has ls 3 [(0, .ref h0), (1, .ref wi)] := hl
  have hfx : CallFix p m c b_Tc_init 3 s ([.ref h0, .ref wi] : List Value).toArray [] "UnikernelHttp$Tcp" := ⟨hx, hb, hml, hown, fun _ h => by cases h⟩
  refine lv_aload_n hx hb d_Tc_init_0 rfl (lv_at hl 0 rfl) ?_
  refine W.objInit hx hb hown (ux_T_at hT tw_219 rfl) (ux_T_at hT tw_40 rfl) (ux_T_at hT tw_41 rfl) rfl (by rw [hml]; exact hl.1) rfl d_Tc_init_1 (Nat.le_of_ble_eq_true rfl) (Nat.le_of_ble_eq_true rfl) ?_
  refine W.eq (g2 := F0 m 4 ls []) rfl ?_
  refine lv_aload_n hx hb d_Tc_init_4 rfl (lv_at hl 0 rfl) ?_
  refine lv_bipush (v := 8) hx hb d_Tc_init_5 (by decide) ?_
  refine va_newq (own := "UnikernelHttp$Tcp") (C := "UnikernelHttp$Connection") (N' := 8) hx hb hown (ux_T_at hT tw_220 rfl) (va_AO.of (ux_T_at hT tw_221 rfl (A := #[]))) hK hP hD hS hA (by decide) (by decide) (by decide) (Nat.le_of_ble_eq_true rfl) (Nat.le_of_ble_eq_true rfl) d_Tc_init_7 (fun q1 cA2 H hK hP hD hS => ?_)
  have hP : va_P (dC, dI) cls [(h0, .inr (6, [.null, .null, .null, .int 0, .int 0])), (q1, .inl (cA2, 8, .inr (.inr (.inr (.inr (fun _ => none))))))] H := hP
  have hD : va_D A [(h0, .inr (6, [.null, .null, .null, .int 0, .int 0])), (q1, .inl (cA2, 8, .inr (.inr (.inr (.inr (fun _ => none))))))] := hD
  have hK : va_K (dC, dI) cls [(cA2, .object "UnikernelHttp$Connection")] s := hK
  refine va_putF (D := (dC, dI)) (ci := 6) (v := .ref q1) (ty := .array (.object "UnikernelHttp$Connection")) (C := R_Tc) (T := F_Tc) (N := 5) hx hb (u_Tc hT) (fun _ h => h) t_Tc k_Tc n_Tc hown hK hP hD hS 0 rfl rfl 0 (by decide) (ux_T_at hT tw_370 rfl) (fun _ h9 => h9) rfl hin rfl (by decide +kernel) rfl rfl (Nat.le_of_ble_eq_true rfl) d_Tc_init_10 (fun H locs hP hD hS => ?_)
  have hP : va_P (dC, dI) cls [(h0, .inr (6, [.ref q1, .null, .null, .int 0, .int 0])), (q1, .inl (cA2, 8, .inr (.inr (.inr (.inr (fun _ => none))))))] H := hP
  have hD : va_D A [(h0, .inr (6, [.ref q1, .null, .null, .int 0, .int 0])), (q1, .inl (cA2, 8, .inr (.inr (.inr (.inr (fun _ => none))))))] := hD
  refine lv_aload_n hx hb d_Tc_init_13 rfl (lv_at hl 0 rfl) ?_
  refine lv_sipush (v := 560) hx hb d_Tc_init_14 (by decide) ?_
  refine va_newa (atype := .byte) (ty := .byte) (N' := 560) (a0 := (560, .inl (fun _ => 0))) hx hb (ux_T_at hT tw_66 rfl) rfl hK hP hD hS hA (fun _ => rfl) (by decide) (by decide +kernel) (by decide +kernel) (Nat.le_of_ble_eq_true rfl) (Nat.le_of_ble_eq_true rfl) d_Tc_init_17 (fun q3 cA4 H hK hP hD hS => ?_)
  have hP : va_P (dC, dI) cls [(h0, .inr (6, [.ref q1, .null, .null, .int 0, .int 0])), (q1, .inl (cA2, 8, .inr (.inr (.inr (.inr (fun _ => none)))))), (q3, .inl (cA4, 560, .inl (fun _ => 0)))] H := hP
  have hD : va_D A [(h0, .inr (6, [.ref q1, .null, .null, .int 0, .int 0])), (q1, .inl (cA2, 8, .inr (.inr (.inr (.inr (fun _ => none)))))), (q3, .inl (cA4, 560, .inl (fun _ => 0)))] := hD
  have hK : va_K (dC, dI) cls [(cA2, .object "UnikernelHttp$Connection"), (cA4, .byte)] s := hK
  refine va_putF (D := (dC, dI)) (ci := 6) (v := .ref q3) (ty := .array .byte) (C := R_Tc) (T := F_Tc) (N := 5) hx hb (u_Tc hT) (fun _ h => h) t_Tc k_Tc n_Tc hown hK hP hD hS 0 rfl rfl 1 (by decide) (ux_T_at hT tw_371 rfl) (fun _ h9 => h9) rfl hin rfl (by decide +kernel) rfl rfl (Nat.le_of_ble_eq_true rfl) d_Tc_init_19 (fun H locs hP hD hS => ?_)
  have hP : va_P (dC, dI) cls [(h0, .inr (6, [.ref q1, .ref q3, .null, .int 0, .int 0])), (q1, .inl (cA2, 8, .inr (.inr (.inr (.inr (fun _ => none)))))), (q3, .inl (cA4, 560, .inl (fun _ => 0)))] H := hP
  have hD : va_D A [(h0, .inr (6, [.ref q1, .ref q3, .null, .int 0, .int 0])), (q1, .inl (cA2, 8, .inr (.inr (.inr (.inr (fun _ => none)))))), (q3, .inl (cA4, 560, .inl (fun _ => 0)))] := hD
  have hP := hP.sub (ws' := [(h0, .inr (6, [.ref q1, .ref q3, .null, .int 0, .int 0])), (q1, .inl (cA2, 8, .inr (.inr (.inr (.inr (fun _ => none))))))]) [0, 1] rfl
  have hD := hD.sub (ws' := [(h0, .inr (6, [.ref q1, .ref q3, .null, .int 0, .int 0])), (q1, .inl (cA2, 8, .inr (.inr (.inr (.inr (fun _ => none))))))]) [0, 1] (by decide) rfl
  refine lv_aload_n hx hb d_Tc_init_22 rfl (lv_at hl 0 rfl) ?_
  refine lv_aload_n hx hb d_Tc_init_23 rfl (lv_at hl 1 rfl) ?_
  refine va_putF (D := (dC, dI)) (ci := 6) (v := .ref wi) (ty := .object "UnikernelHttp$Wire") (C := R_Tc) (T := F_Tc) (N := 5) hx hb (u_Tc hT) (fun _ h => h) t_Tc k_Tc n_Tc hown hK hP hD hS 0 rfl rfl 2 (by decide) (ux_T_at hT tw_372 rfl) (fun _ h9 => h9) rfl hin rfl (by decide +kernel) rfl rfl (Nat.le_of_ble_eq_true rfl) d_Tc_init_24 (fun H locs hP hD hS => ?_)
  have hP : va_P (dC, dI) cls [(h0, .inr (6, [.ref q1, .ref q3, .ref wi, .int 0, .int 0])), (q1, .inl (cA2, 8, .inr (.inr (.inr (.inr (fun _ => none))))))] H := hP
  have hD : va_D A [(h0, .inr (6, [.ref q1, .ref q3, .ref wi, .int 0, .int 0])), (q1, .inl (cA2, 8, .inr (.inr (.inr (.inr (fun _ => none))))))] := hD
  refine lv_iconst (v := 0) hx hb d_Tc_init_27 (by decide) ?_
  refine lv_istore_n hx hb d_Tc_init_28 rfl hl (by decide) rfl (fun ls hl => ?_)
  have hl : lv_has ls 3 [(2, .int 0), (0, .ref h0), (1, .ref wi)] := hl
  refine lv_iload_n hx hb d_Tc_init_29 rfl (lv_at hl 0 rfl) ?_
  refine lv_bipush (v := 8) hx hb d_Tc_init_30 (by decide) ?_
  refine lv_icmp_ge (tgt := 54) hx hb d_Tc_init_32 (by decide) (fun hc => absurd hc (by decide)) (fun _ => ?_)
  refine lv_aload_n hx hb d_Tc_init_35 rfl (lv_at hl 1 rfl) ?_
  refine va_get (D := (dC, dI)) (ci := 6) (v := .ref q1) (C := R_Tc) (T := F_Tc) (N := 5) hx hb (u_Tc hT) (fun _ h => h) hown hK hP 0 rfl rfl 0 (by decide) (ux_T_at hT tw_370 rfl) (fun _ h9 => h9) rfl d_Tc_init_36 ?_
  refine lv_iload_n hx hb d_Tc_init_39 rfl (lv_at hl 0 rfl) ?_
  refine va_new (ci := 7) (fs := [.null, .null, .int 0, .int 0, .int 0, .int 0, .int 0, .int 0, .int 0, .int 0, .int 0, .int 0, .int 0, .int 0, .int 0, .int 0, .int 0]) (C := R_Co) (T := F_Co) (N := 17) hx hb (u_Co hT) (fun _ h => h) t_Co k_Co hown (ux_T_at hT tw_220 rfl) (ux_T_at hT tw_222 rfl) (ux_T_at hT tw_8 rfl) hK hP hD hS hA rfl z_Co (Nat.le_of_ble_eq_true rfl) (Nat.le_of_ble_eq_true rfl) d_Tc_init_40 (fun q5 H hP hD hS => ?_)
  have hP : va_P (dC, dI) cls [(h0, .inr (6, [.ref q1, .ref q3, .ref wi, .int 0, .int 0])), (q1, .inl (cA2, 8, .inr (.inr (.inr (.inr (fun _ => none)))))), (q5, .inr (7, [.null, .null, .int 0, .int 0, .int 0, .int 0, .int 0, .int 0, .int 0, .int 0, .int 0, .int 0, .int 0, .int 0, .int 0, .int 0, .int 0]))] H := hP
  have hD : va_D A [(h0, .inr (6, [.ref q1, .ref q3, .ref wi, .int 0, .int 0])), (q1, .inl (cA2, 8, .inr (.inr (.inr (.inr (fun _ => none)))))), (q5, .inr (7, [.null, .null, .int 0, .int 0, .int 0, .int 0, .int 0, .int 0, .int 0, .int 0, .int 0, .int 0, .int 0, .int 0, .int 0, .int 0, .int 0]))] := hD
  refine lv_dup hx hb d_Tc_init_43 rfl ?_
  have hPc := hP.sub (ws' := [(q5, .inr (7, [.null, .null, .int 0, .int 0, .int 0, .int 0, .int 0, .int 0, .int 0, .int 0, .int 0, .int 0, .int 0, .int 0, .int 0, .int 0, .int 0]))]) [2] rfl
  have hDc := hD.sub (ws' := [(q5, .inr (7, [.null, .null, .int 0, .int 0, .int 0, .int 0, .int 0, .int 0, .int 0, .int 0, .int 0, .int 0, .int 0, .int 0, .int 0, .int 0, .int 0]))]) [2] (by decide) rfl
  have hKc := hK.sub (tys' := []) [] rfl
  have hFc := va_free (wc := [(q5, .inr (7, [.null, .null, .int 0, .int 0, .int 0, .int 0, .int 0, .int 0, .int 0, .int 0, .int 0, .int 0, .int 0, .int 0, .int 0, .int 0, .int 0]))]) hD hS hA [2] rfl
  have hkc : 3 + 5 ≤ 50 := (Nat.le_of_ble_eq_true rfl)
  refine va_callv (va_runIN (As := []) (rest := [.ref q5, .int 0, .ref q1]) hfx (c_Co_init l dC dI q5 H.size) ⟨(ux_cn 0 hT tw_225 tw_223 tw_8 rfl rfl (by decide +kernel) ⟨(Nat.le_of_ble_eq_true rfl), (Nat.le_of_ble_eq_true rfl)⟩), rfl, (ux_T_at hT tw_224 rfl)⟩ (ux_pre [.ref q5] hT hPc hKc hDc) rfl rfl hl.1 rfl (lv_room (Nat.le_of_ble_eq_true rfl)) d_Tc_init_44 ⟨(Nat.le_of_ble_eq_true rfl), (Nat.le_of_ble_eq_true rfl)⟩) hS (fun q _ h => hFc q h) hFc (fun u t H1 locs ht hvm hw hB hz1 hk1 hS => ?_)
  obtain ⟨q7, q8, hP1, hK1, hD1⟩ := hB
  rw [ht] at hP1
  have hK1 := va_K.moved hvm.symm hK1
  obtain ⟨hP, hD⟩ := va_join (wr := [(h0, .inr (6, [.ref q1, .ref q3, .ref wi, .int 0, .int 0])), (q1, .inl (cA2, 8, .inr (.inr (.inr (.inr (fun _ => none))))))]) (w1 := [(q5, .inr (7, [.ref q7, .ref q8, .int 0, .int 0, .int 0, .int 0, .int 0, .int 0, .int 0, .int 0, .int 0, .int 0, .int 0, .int 0, .int 0, .int 0, .int 0]))]) hP hD [2] [0, 1] rfl rfl (by decide) (by decide) hk1 hFc hP1 hD1
  have hK := (hK.sub (tys' := [(cA2, .object "UnikernelHttp$Connection"), (cA4, .byte)]) [0, 1] rfl).app hK1
  generalize H1 = H at hP hS ⊢
  have hP : va_P (dC, dI) cls [(h0, .inr (6, [.ref q1, .ref q3, .ref wi, .int 0, .int 0])), (q1, .inl (cA2, 8, .inr (.inr (.inr (.inr (fun _ => none)))))), (q5, .inr (7, [.ref q7, .ref q8, .int 0, .int 0, .int 0, .int 0, .int 0, .int 0, .int 0, .int 0, .int 0, .int 0, .int 0, .int 0, .int 0, .int 0, .int 0]))] H := hP
  have hD : va_D A [(h0, .inr (6, [.ref q1, .ref q3, .ref wi, .int 0, .int 0])), (q1, .inl (cA2, 8, .inr (.inr (.inr (.inr (fun _ => none)))))), (q5, .inr (7, [.ref q7, .ref q8, .int 0, .int 0, .int 0, .int 0, .int 0, .int 0, .int 0, .int 0, .int 0, .int 0, .int 0, .int 0, .int 0, .int 0, .int 0]))] := hD
  have hK : va_K (dC, dI) cls [(cA2, .object "UnikernelHttp$Connection"), (cA4, .byte)] s := hK
  refine va_astq hx hb hK hP hD hS 1 0 2 7 rfl rfl rfl rfl (show ¬ ((0 : Int32) < 0 ∨ 8 ≤ (0 : Int32).toNatClampNeg) by decide) d_Tc_init_47 (fun H locs hP hD hS => ?_)
  have hP : va_P (dC, dI) cls [(h0, .inr (6, [.ref q1, .ref q3, .ref wi, .int 0, .int 0])), (q1, .inl (cA2, 8, .inr (.inr (.inr (.inr (va_up (fun _ => none) (0 : Int32).toNatClampNeg (some q5))))))), (q5, .inr (7, [.ref q7, .ref q8, .int 0, .int 0, .int 0, .int 0, .int 0, .int 0, .int 0, .int 0, .int 0, .int 0, .int 0, .int 0, .int 0, .int 0, .int 0]))] H := hP
  have hD : va_D A [(h0, .inr (6, [.ref q1, .ref q3, .ref wi, .int 0, .int 0])), (q1, .inl (cA2, 8, .inr (.inr (.inr (.inr (va_up (fun _ => none) (0 : Int32).toNatClampNeg (some q5))))))), (q5, .inr (7, [.ref q7, .ref q8, .int 0, .int 0, .int 0, .int 0, .int 0, .int 0, .int 0, .int 0, .int 0, .int 0, .int 0, .int 0, .int 0, .int 0, .int 0]))] := hD
  generalize va_up (fun _ => none) (0 : Int32).toNatClampNeg (some q5) = f9 at hP hD
  have hP := hP.sub (ws' := [(h0, .inr (6, [.ref q1, .ref q3, .ref wi, .int 0, .int 0])), (q1, .inl (cA2, 8, .inr (.inr (.inr (.inr f9)))))]) [0, 1] rfl
  have hD := hD.sub (ws' := [(h0, .inr (6, [.ref q1, .ref q3, .ref wi, .int 0, .int 0])), (q1, .inl (cA2, 8, .inr (.inr (.inr (.inr f9)))))]) [0, 1] (by decide) rfl
  refine lv_iinc (v := 1) hx hb d_Tc_init_48 hl (k := 0) rfl (by decide) (by decide) rfl (fun ls hl => ?_)
  have hl : lv_has ls 3 [(2, .int 1), (0, .ref h0), (1, .ref wi)] := hl
  refine lv_goto hx hb d_Tc_init_51 (tgt := 29) (by decide) ?_
  refine lv_iload_n hx hb d_Tc_init_29 rfl (lv_at hl 0 rfl) ?_
  refine lv_bipush (v := 8) hx hb d_Tc_init_30 (by decide) ?_
  refine lv_icmp_ge (tgt := 54) hx hb d_Tc_init_32 (by decide) (fun hc => absurd hc (by decide)) (fun _ => ?_)
  refine lv_aload_n hx hb d_Tc_init_35 rfl (lv_at hl 1 rfl) ?_
  refine va_get (D := (dC, dI)) (ci := 6) (v := .ref q1) (C := R_Tc) (T := F_Tc) (N := 5) hx hb (u_Tc hT) (fun _ h => h) hown hK hP 0 rfl rfl 0 (by decide) (ux_T_at hT tw_370 rfl) (fun _ h9 => h9) rfl d_Tc_init_36 ?_
  refine lv_iload_n hx hb d_Tc_init_39 rfl (lv_at hl 0 rfl) ?_
  refine va_new (ci := 7) (fs := [.null, .null, .int 0, .int 0, .int 0, .int 0, .int 0, .int 0, .int 0, .int 0, .int 0, .int 0, .int 0, .int 0, .int 0, .int 0, .int 0]) (C := R_Co) (T := F_Co) (N := 17) hx hb (u_Co hT) (fun _ h => h) t_Co k_Co hown (ux_T_at hT tw_220 rfl) (ux_T_at hT tw_222 rfl) (ux_T_at hT tw_8 rfl) hK hP hD hS hA rfl z_Co (Nat.le_of_ble_eq_true rfl) (Nat.le_of_ble_eq_true rfl) d_Tc_init_40 (fun q10 H hP hD hS => ?_)
  have hP : va_P (dC, dI) cls [(h0, .inr (6, [.ref q1, .ref q3, .ref wi, .int 0, .int 0])), (q1, .inl (cA2, 8, .inr (.inr (.inr (.inr f9))))), (q10, .inr (7, [.null, .null, .int 0, .int 0, .int 0, .int 0, .int 0, .int 0, .int 0, .int 0, .int 0, .int 0, .int 0, .int 0, .int 0, .int 0, .int 0]))] H := hP
  have hD : va_D A [(h0, .inr (6, [.ref q1, .ref q3, .ref wi, .int 0, .int 0])), (q1, .inl (cA2, 8, .inr (.inr (.inr (.inr f9))))), (q10, .inr (7, [.null, .null, .int 0, .int 0, .int 0, .int 0, .int 0, .int 0, .int 0, .int 0, .int 0, .int 0, .int 0, .int 0, .int 0, .int 0, .int 0]))] := hD
  refine lv_dup hx hb d_Tc_init_43 rfl ?_
  have hPc := hP.sub (ws' := [(q10, .inr (7, [.null, .null, .int 0, .int 0, .int 0, .int 0, .int 0, .int 0, .int 0, .int 0, .int 0, .int 0, .int 0, .int 0, .int 0, .int 0, .int 0]))]) [2] rfl
  have hDc := hD.sub (ws' := [(q10, .inr (7, [.null, .null, .int 0, .int 0, .int 0, .int 0, .int 0, .int 0, .int 0, .int 0, .int 0, .int 0, .int 0, .int 0, .int 0, .int 0, .int 0]))]) [2] (by decide) rfl
  have hKc := hK.sub (tys' := []) [] rfl
  have hFc := va_free (wc := [(q10, .inr (7, [.null, .null, .int 0, .int 0, .int 0, .int 0, .int 0, .int 0, .int 0, .int 0, .int 0, .int 0, .int 0, .int 0, .int 0, .int 0, .int 0]))]) hD hS hA [2] rfl
  have hkc : 9 + 5 ≤ 50 := (Nat.le_of_ble_eq_true rfl)
  refine va_callv (va_runIN (As := []) (rest := [.ref q10, .int 1, .ref q1]) hfx (c_Co_init l dC dI q10 H.size) ⟨(ux_cn 0 hT tw_225 tw_223 tw_8 rfl rfl (by decide +kernel) ⟨(Nat.le_of_ble_eq_true rfl), (Nat.le_of_ble_eq_true rfl)⟩), rfl, (ux_T_at hT tw_224 rfl)⟩ (ux_pre [.ref q10] hT hPc hKc hDc) rfl rfl hl.1 rfl (lv_room (Nat.le_of_ble_eq_true rfl)) d_Tc_init_44 ⟨(Nat.le_of_ble_eq_true rfl), (Nat.le_of_ble_eq_true rfl)⟩) hS (fun q _ h => hFc q h) hFc (fun u t H1 locs ht hvm hw hB hz1 hk1 hS => ?_)
  obtain ⟨q12, q13, hP1, hK1, hD1⟩ := hB
  rw [ht] at hP1
  have hK1 := va_K.moved hvm.symm hK1
  obtain ⟨hP, hD⟩ := va_join (wr := [(h0, .inr (6, [.ref q1, .ref q3, .ref wi, .int 0, .int 0])), (q1, .inl (cA2, 8, .inr (.inr (.inr (.inr f9)))))]) (w1 := [(q10, .inr (7, [.ref q12, .ref q13, .int 0, .int 0, .int 0, .int 0, .int 0, .int 0, .int 0, .int 0, .int 0, .int 0, .int 0, .int 0, .int 0, .int 0, .int 0]))]) hP hD [2] [0, 1] rfl rfl (by decide) (by decide) hk1 hFc hP1 hD1
  have hK := (hK.sub (tys' := [(cA2, .object "UnikernelHttp$Connection"), (cA4, .byte)]) [0, 1] rfl).app hK1
  generalize H1 = H at hP hS ⊢
  have hP : va_P (dC, dI) cls [(h0, .inr (6, [.ref q1, .ref q3, .ref wi, .int 0, .int 0])), (q1, .inl (cA2, 8, .inr (.inr (.inr (.inr f9))))), (q10, .inr (7, [.ref q12, .ref q13, .int 0, .int 0, .int 0, .int 0, .int 0, .int 0, .int 0, .int 0, .int 0, .int 0, .int 0, .int 0, .int 0, .int 0, .int 0]))] H := hP
  have hD : va_D A [(h0, .inr (6, [.ref q1, .ref q3, .ref wi, .int 0, .int 0])), (q1, .inl (cA2, 8, .inr (.inr (.inr (.inr f9))))), (q10, .inr (7, [.ref q12, .ref q13, .int 0, .int 0, .int 0, .int 0, .int 0, .int 0, .int 0, .int 0, .int 0, .int 0, .int 0, .int 0, .int 0, .int 0, .int 0]))] := hD
  have hK : va_K (dC, dI) cls [(cA2, .object "UnikernelHttp$Connection"), (cA4, .byte)] s := hK
  refine va_astq hx hb hK hP hD hS 1 0 2 7 rfl rfl rfl rfl (show ¬ ((1 : Int32) < 0 ∨ 8 ≤ (1 : Int32).toNatClampNeg) by decide) d_Tc_init_47 (fun H locs hP hD hS => ?_)
  have hP : va_P (dC, dI) cls [(h0, .inr (6, [.ref q1, .ref q3, .ref wi, .int 0, .int 0])), (q1, .inl (cA2, 8, .inr (.inr (.inr (.inr (va_up f9 (1 : Int32).toNatClampNeg (some q10))))))), (q10, .inr (7, [.ref q12, .ref q13, .int 0, .int 0, .int 0, .int 0, .int 0, .int 0, .int 0, .int 0, .int 0, .int 0, .int 0, .int 0, .int 0, .int 0, .int 0]))] H := hP
  have hD : va_D A [(h0, .inr (6, [.ref q1, .ref q3, .ref wi, .int 0, .int 0])), (q1, .inl (cA2, 8, .inr (.inr (.inr (.inr (va_up f9 (1 : Int32).toNatClampNeg (some q10))))))), (q10, .inr (7, [.ref q12, .ref q13, .int 0, .int 0, .int 0, .int 0, .int 0, .int 0, .int 0, .int 0, .int 0, .int 0, .int 0, .int 0, .int 0, .int 0, .int 0]))] := hD
  generalize va_up f9 (1 : Int32).toNatClampNeg (some q10) = f14 at hP hD
  have hP := hP.sub (ws' := [(h0, .inr (6, [.ref q1, .ref q3, .ref wi, .int 0, .int 0])), (q1, .inl (cA2, 8, .inr (.inr (.inr (.inr f14)))))]) [0, 1] rfl
  have hD := hD.sub (ws' := [(h0, .inr (6, [.ref q1, .ref q3, .ref wi, .int 0, .int 0])), (q1, .inl (cA2, 8, .inr (.inr (.inr (.inr f14)))))]) [0, 1] (by decide) rfl
  refine lv_iinc (v := 2) hx hb d_Tc_init_48 hl (k := 0) rfl (by decide) (by decide) rfl (fun ls hl => ?_)
  have hl : lv_has ls 3 [(2, .int 2), (0, .ref h0), (1, .ref wi)] := hl
  refine lv_goto hx hb d_Tc_init_51 (tgt := 29) (by decide) ?_
  refine lv_iload_n hx hb d_Tc_init_29 rfl (lv_at hl 0 rfl) ?_
  refine lv_bipush (v := 8) hx hb d_Tc_init_30 (by decide) ?_
  refine lv_icmp_ge (tgt := 54) hx hb d_Tc_init_32 (by decide) (fun hc => absurd hc (by decide)) (fun _ => ?_)
  refine lv_aload_n hx hb d_Tc_init_35 rfl (lv_at hl 1 rfl) ?_
  refine va_get (D := (dC, dI)) (ci := 6) (v := .ref q1) (C := R_Tc) (T := F_Tc) (N := 5) hx hb (u_Tc hT) (fun _ h => h) hown hK hP 0 rfl rfl 0 (by decide) (ux_T_at hT tw_370 rfl) (fun _ h9 => h9) rfl d_Tc_init_36 ?_
  refine lv_iload_n hx hb d_Tc_init_39 rfl (lv_at hl 0 rfl) ?_
  refine va_new (ci := 7) (fs := [.null, .null, .int 0, .int 0, .int 0, .int 0, .int 0, .int 0, .int 0, .int 0, .int 0, .int 0, .int 0, .int 0, .int 0, .int 0, .int 0]) (C := R_Co) (T := F_Co) (N := 17) hx hb (u_Co hT) (fun _ h => h) t_Co k_Co hown (ux_T_at hT tw_220 rfl) (ux_T_at hT tw_222 rfl) (ux_T_at hT tw_8 rfl) hK hP hD hS hA rfl z_Co (Nat.le_of_ble_eq_true rfl) (Nat.le_of_ble_eq_true rfl) d_Tc_init_40 (fun q15 H hP hD hS => ?_)
  have hP : va_P (dC, dI) cls [(h0, .inr (6, [.ref q1, .ref q3, .ref wi, .int 0, .int 0])), (q1, .inl (cA2, 8, .inr (.inr (.inr (.inr f14))))), (q15, .inr (7, [.null, .null, .int 0, .int 0, .int 0, .int 0, .int 0, .int 0, .int 0, .int 0, .int 0, .int 0, .int 0, .int 0, .int 0, .int 0, .int 0]))] H := hP
  have hD : va_D A [(h0, .inr (6, [.ref q1, .ref q3, .ref wi, .int 0, .int 0])), (q1, .inl (cA2, 8, .inr (.inr (.inr (.inr f14))))), (q15, .inr (7, [.null, .null, .int 0, .int 0, .int 0, .int 0, .int 0, .int 0, .int 0, .int 0, .int 0, .int 0, .int 0, .int 0, .int 0, .int 0, .int 0]))] := hD
  refine lv_dup hx hb d_Tc_init_43 rfl ?_
  have hPc := hP.sub (ws' := [(q15, .inr (7, [.null, .null, .int 0, .int 0, .int 0, .int 0, .int 0, .int 0, .int 0, .int 0, .int 0, .int 0, .int 0, .int 0, .int 0, .int 0, .int 0]))]) [2] rfl
  have hDc := hD.sub (ws' := [(q15, .inr (7, [.null, .null, .int 0, .int 0, .int 0, .int 0, .int 0, .int 0, .int 0, .int 0, .int 0, .int 0, .int 0, .int 0, .int 0, .int 0, .int 0]))]) [2] (by decide) rfl
  have hKc := hK.sub (tys' := []) [] rfl
  have hFc := va_free (wc := [(q15, .inr (7, [.null, .null, .int 0, .int 0, .int 0, .int 0, .int 0, .int 0, .int 0, .int 0, .int 0, .int 0, .int 0, .int 0, .int 0, .int 0, .int 0]))]) hD hS hA [2] rfl
  have hkc : 15 + 5 ≤ 50 := (Nat.le_of_ble_eq_true rfl)
  refine va_callv (va_runIN (As := []) (rest := [.ref q15, .int 2, .ref q1]) hfx (c_Co_init l dC dI q15 H.size) ⟨(ux_cn 0 hT tw_225 tw_223 tw_8 rfl rfl (by decide +kernel) ⟨(Nat.le_of_ble_eq_true rfl), (Nat.le_of_ble_eq_true rfl)⟩), rfl, (ux_T_at hT tw_224 rfl)⟩ (ux_pre [.ref q15] hT hPc hKc hDc) rfl rfl hl.1 rfl (lv_room (Nat.le_of_ble_eq_true rfl)) d_Tc_init_44 ⟨(Nat.le_of_ble_eq_true rfl), (Nat.le_of_ble_eq_true rfl)⟩) hS (fun q _ h => hFc q h) hFc (fun u t H1 locs ht hvm hw hB hz1 hk1 hS => ?_)
  obtain ⟨q17, q18, hP1, hK1, hD1⟩ := hB
  rw [ht] at hP1
  have hK1 := va_K.moved hvm.symm hK1
  obtain ⟨hP, hD⟩ := va_join (wr := [(h0, .inr (6, [.ref q1, .ref q3, .ref wi, .int 0, .int 0])), (q1, .inl (cA2, 8, .inr (.inr (.inr (.inr f14)))))]) (w1 := [(q15, .inr (7, [.ref q17, .ref q18, .int 0, .int 0, .int 0, .int 0, .int 0, .int 0, .int 0, .int 0, .int 0, .int 0, .int 0, .int 0, .int 0, .int 0, .int 0]))]) hP hD [2] [0, 1] rfl rfl (by decide) (by decide) hk1 hFc hP1 hD1
  have hK := (hK.sub (tys' := [(cA2, .object "UnikernelHttp$Connection"), (cA4, .byte)]) [0, 1] rfl).app hK1
  generalize H1 = H at hP hS ⊢
  have hP : va_P (dC, dI) cls [(h0, .inr (6, [.ref q1, .ref q3, .ref wi, .int 0, .int 0])), (q1, .inl (cA2, 8, .inr (.inr (.inr (.inr f14))))), (q15, .inr (7, [.ref q17, .ref q18, .int 0, .int 0, .int 0, .int 0, .int 0, .int 0, .int 0, .int 0, .int 0, .int 0, .int 0, .int 0, .int 0, .int 0, .int 0]))] H := hP
  have hD : va_D A [(h0, .inr (6, [.ref q1, .ref q3, .ref wi, .int 0, .int 0])), (q1, .inl (cA2, 8, .inr (.inr (.inr (.inr f14))))), (q15, .inr (7, [.ref q17, .ref q18, .int 0, .int 0, .int 0, .int 0, .int 0, .int 0, .int 0, .int 0, .int 0, .int 0, .int 0, .int 0, .int 0, .int 0, .int 0]))] := hD
  have hK : va_K (dC, dI) cls [(cA2, .object "UnikernelHttp$Connection"), (cA4, .byte)] s := hK
  refine va_astq hx hb hK hP hD hS 1 0 2 7 rfl rfl rfl rfl (show ¬ ((2 : Int32) < 0 ∨ 8 ≤ (2 : Int32).toNatClampNeg) by decide) d_Tc_init_47 (fun H locs hP hD hS => ?_)
  have hP : va_P (dC, dI) cls [(h0, .inr (6, [.ref q1, .ref q3, .ref wi, .int 0, .int 0])), (q1, .inl (cA2, 8, .inr (.inr (.inr (.inr (va_up f14 (2 : Int32).toNatClampNeg (some q15))))))), (q15, .inr (7, [.ref q17, .ref q18, .int 0, .int 0, .int 0, .int 0, .int 0, .int 0, .int 0, .int 0, .int 0, .int 0, .int 0, .int 0, .int 0, .int 0, .int 0]))] H := hP
  have hD : va_D A [(h0, .inr (6, [.ref q1, .ref q3, .ref wi, .int 0, .int 0])), (q1, .inl (cA2, 8, .inr (.inr (.inr (.inr (va_up f14 (2 : Int32).toNatClampNeg (some q15))))))), (q15, .inr (7, [.ref q17, .ref q18, .int 0, .int 0, .int 0, .int 0, .int 0, .int 0, .int 0, .int 0, .int 0, .int 0, .int 0, .int 0, .int 0, .int 0, .int 0]))] := hD
  generalize va_up f14 (2 : Int32).toNatClampNeg (some q15) = f19 at hP hD
  have hP := hP.sub (ws' := [(h0, .inr (6, [.ref q1, .ref q3, .ref wi, .int 0, .int 0])), (q1, .inl (cA2, 8, .inr (.inr (.inr (.inr f19)))))]) [0, 1] rfl
  have hD := hD.sub (ws' := [(h0, .inr (6, [.ref q1, .ref q3, .ref wi, .int 0, .int 0])), (q1, .inl (cA2, 8, .inr (.inr (.inr (.inr f19)))))]) [0, 1] (by decide) rfl
  refine lv_iinc (v := 3) hx hb d_Tc_init_48 hl (k := 0) rfl (by decide) (by decide) rfl (fun ls hl => ?_)
  have hl : lv_has ls 3 [(2, .int 3), (0, .ref h0), (1, .ref wi)] := hl
  refine lv_goto hx hb d_Tc_init_51 (tgt := 29) (by decide) ?_
  refine lv_iload_n hx hb d_Tc_init_29 rfl (lv_at hl 0 rfl) ?_
  refine lv_bipush (v := 8) hx hb d_Tc_init_30 (by decide) ?_
  refine lv_icmp_ge (tgt := 54) hx hb d_Tc_init_32 (by decide) (fun hc => absurd hc (by decide)) (fun _ => ?_)
  refine lv_aload_n hx hb d_Tc_init_35 rfl (lv_at hl 1 rfl) ?_
  refine va_get (D := (dC, dI)) (ci := 6) (v := .ref q1) (C := R_Tc) (T := F_Tc) (N := 5) hx hb (u_Tc hT) (fun _ h => h) hown hK hP 0 rfl rfl 0 (by decide) (ux_T_at hT tw_370 rfl) (fun _ h9 => h9) rfl d_Tc_init_36 ?_
  refine lv_iload_n hx hb d_Tc_init_39 rfl (lv_at hl 0 rfl) ?_
  refine va_new (ci := 7) (fs := [.null, .null, .int 0, .int 0, .int 0, .int 0, .int 0, .int 0, .int 0, .int 0, .int 0, .int 0, .int 0, .int 0, .int 0, .int 0, .int 0]) (C := R_Co) (T := F_Co) (N := 17) hx hb (u_Co hT) (fun _ h => h) t_Co k_Co hown (ux_T_at hT tw_220 rfl) (ux_T_at hT tw_222 rfl) (ux_T_at hT tw_8 rfl) hK hP hD hS hA rfl z_Co (Nat.le_of_ble_eq_true rfl) (Nat.le_of_ble_eq_true rfl) d_Tc_init_40 (fun q20 H hP hD hS => ?_)
  have hP : va_P (dC, dI) cls [(h0, .inr (6, [.ref q1, .ref q3, .ref wi, .int 0, .int 0])), (q1, .inl (cA2, 8, .inr (.inr (.inr (.inr f19))))), (q20, .inr (7, [.null, .null, .int 0, .int 0, .int 0, .int 0, .int 0, .int 0, .int 0, .int 0, .int 0, .int 0, .int 0, .int 0, .int 0, .int 0, .int 0]))] H := hP
  have hD : va_D A [(h0, .inr (6, [.ref q1, .ref q3, .ref wi, .int 0, .int 0])), (q1, .inl (cA2, 8, .inr (.inr (.inr (.inr f19))))), (q20, .inr (7, [.null, .null, .int 0, .int 0, .int 0, .int 0, .int 0, .int 0, .int 0, .int 0, .int 0, .int 0, .int 0, .int 0, .int 0, .int 0, .int 0]))] := hD
  refine lv_dup hx hb d_Tc_init_43 rfl ?_
  have hPc := hP.sub (ws' := [(q20, .inr (7, [.null, .null, .int 0, .int 0, .int 0, .int 0, .int 0, .int 0, .int 0, .int 0, .int 0, .int 0, .int 0, .int 0, .int 0, .int 0, .int 0]))]) [2] rfl
  have hDc := hD.sub (ws' := [(q20, .inr (7, [.null, .null, .int 0, .int 0, .int 0, .int 0, .int 0, .int 0, .int 0, .int 0, .int 0, .int 0, .int 0, .int 0, .int 0, .int 0, .int 0]))]) [2] (by decide) rfl
  have hKc := hK.sub (tys' := []) [] rfl
  have hFc := va_free (wc := [(q20, .inr (7, [.null, .null, .int 0, .int 0, .int 0, .int 0, .int 0, .int 0, .int 0, .int 0, .int 0, .int 0, .int 0, .int 0, .int 0, .int 0, .int 0]))]) hD hS hA [2] rfl
  have hkc : 21 + 5 ≤ 50 := (Nat.le_of_ble_eq_true rfl)
  refine va_callv (va_runIN (As := []) (rest := [.ref q20, .int 3, .ref q1]) hfx (c_Co_init l dC dI q20 H.size) ⟨(ux_cn 0 hT tw_225 tw_223 tw_8 rfl rfl (by decide +kernel) ⟨(Nat.le_of_ble_eq_true rfl), (Nat.le_of_ble_eq_true rfl)⟩), rfl, (ux_T_at hT tw_224 rfl)⟩ (ux_pre [.ref q20] hT hPc hKc hDc) rfl rfl hl.1 rfl (lv_room (Nat.le_of_ble_eq_true rfl)) d_Tc_init_44 ⟨(Nat.le_of_ble_eq_true rfl), (Nat.le_of_ble_eq_true rfl)⟩) hS (fun q _ h => hFc q h) hFc (fun u t H1 locs ht hvm hw hB hz1 hk1 hS => ?_)
  obtain ⟨q22, q23, hP1, hK1, hD1⟩ := hB
  rw [ht] at hP1
  have hK1 := va_K.moved hvm.symm hK1
  obtain ⟨hP, hD⟩ := va_join (wr := [(h0, .inr (6, [.ref q1, .ref q3, .ref wi, .int 0, .int 0])), (q1, .inl (cA2, 8, .inr (.inr (.inr (.inr f19)))))]) (w1 := [(q20, .inr (7, [.ref q22, .ref q23, .int 0, .int 0, .int 0, .int 0, .int 0, .int 0, .int 0, .int 0, .int 0, .int 0, .int 0, .int 0, .int 0, .int 0, .int 0]))]) hP hD [2] [0, 1] rfl rfl (by decide) (by decide) hk1 hFc hP1 hD1
  have hK := (hK.sub (tys' := [(cA2, .object "UnikernelHttp$Connection"), (cA4, .byte)]) [0, 1] rfl).app hK1
  generalize H1 = H at hP hS ⊢
  have hP : va_P (dC, dI) cls [(h0, .inr (6, [.ref q1, .ref q3, .ref wi, .int 0, .int 0])), (q1, .inl (cA2, 8, .inr (.inr (.inr (.inr f19))))), (q20, .inr (7, [.ref q22, .ref q23, .int 0, .int 0, .int 0, .int 0, .int 0, .int 0, .int 0, .int 0, .int 0, .int 0, .int 0, .int 0, .int 0, .int 0, .int 0]))] H := hP
  have hD : va_D A [(h0, .inr (6, [.ref q1, .ref q3, .ref wi, .int 0, .int 0])), (q1, .inl (cA2, 8, .inr (.inr (.inr (.inr f19))))), (q20, .inr (7, [.ref q22, .ref q23, .int 0, .int 0, .int 0, .int 0, .int 0, .int 0, .int 0, .int 0, .int 0, .int 0, .int 0, .int 0, .int 0, .int 0, .int 0]))] := hD
  have hK : va_K (dC, dI) cls [(cA2, .object "UnikernelHttp$Connection"), (cA4, .byte)] s := hK
  refine va_astq hx hb hK hP hD hS 1 0 2 7 rfl rfl rfl rfl (show ¬ ((3 : Int32) < 0 ∨ 8 ≤ (3 : Int32).toNatClampNeg) by decide) d_Tc_init_47 (fun H locs hP hD hS => ?_)
  have hP : va_P (dC, dI) cls [(h0, .inr (6, [.ref q1, .ref q3, .ref wi, .int 0, .int 0])), (q1, .inl (cA2, 8, .inr (.inr (.inr (.inr (va_up f19 (3 : Int32).toNatClampNeg (some q20))))))), (q20, .inr (7, [.ref q22, .ref q23, .int 0, .int 0, .int 0, .int 0, .int 0, .int 0, .int 0, .int 0, .int 0, .int 0, .int 0, .int 0, .int 0, .int 0, .int 0]))] H := hP
  have hD : va_D A [(h0, .inr (6, [.ref q1, .ref q3, .ref wi, .int 0, .int 0])), (q1, .inl (cA2, 8, .inr (.inr (.inr (.inr (va_up f19 (3 : Int32).toNatClampNeg (some q20))))))), (q20, .inr (7, [.ref q22, .ref q23, .int 0, .int 0, .int 0, .int 0, .int 0, .int 0, .int 0, .int 0, .int 0, .int 0, .int 0, .int 0, .int 0, .int 0, .int 0]))] := hD
  generalize va_up f19 (3 : Int32).toNatClampNeg (some q20) = f24 at hP hD
  have hP := hP.sub (ws' := [(h0, .inr (6, [.ref q1, .ref q3, .ref wi, .int 0, .int 0])), (q1, .inl (cA2, 8, .inr (.inr (.inr (.inr f24)))))]) [0, 1] rfl
  have hD := hD.sub (ws' := [(h0, .inr (6, [.ref q1, .ref q3, .ref wi, .int 0, .int 0])), (q1, .inl (cA2, 8, .inr (.inr (.inr (.inr f24)))))]) [0, 1] (by decide) rfl
  refine lv_iinc (v := 4) hx hb d_Tc_init_48 hl (k := 0) rfl (by decide) (by decide) rfl (fun ls hl => ?_)
  have hl : lv_has ls 3 [(2, .int 4), (0, .ref h0), (1, .ref wi)] := hl
  refine lv_goto hx hb d_Tc_init_51 (tgt := 29) (by decide) ?_
  refine lv_iload_n hx hb d_Tc_init_29 rfl (lv_at hl 0 rfl) ?_
  refine lv_bipush (v := 8) hx hb d_Tc_init_30 (by decide) ?_
  refine lv_icmp_ge (tgt := 54) hx hb d_Tc_init_32 (by decide) (fun hc => absurd hc (by decide)) (fun _ => ?_)
  refine lv_aload_n hx hb d_Tc_init_35 rfl (lv_at hl 1 rfl) ?_
  refine va_get (D := (dC, dI)) (ci := 6) (v := .ref q1) (C := R_Tc) (T := F_Tc) (N := 5) hx hb (u_Tc hT) (fun _ h => h) hown hK hP 0 rfl rfl 0 (by decide) (ux_T_at hT tw_370 rfl) (fun _ h9 => h9) rfl d_Tc_init_36 ?_
  refine lv_iload_n hx hb d_Tc_init_39 rfl (lv_at hl 0 rfl) ?_
  refine va_new (ci := 7) (fs := [.null, .null, .int 0, .int 0, .int 0, .int 0, .int 0, .int 0, .int 0, .int 0, .int 0, .int 0, .int 0, .int 0, .int 0, .int 0, .int 0]) (C := R_Co) (T := F_Co) (N := 17) hx hb (u_Co hT) (fun _ h => h) t_Co k_Co hown (ux_T_at hT tw_220 rfl) (ux_T_at hT tw_222 rfl) (ux_T_at hT tw_8 rfl) hK hP hD hS hA rfl z_Co (Nat.le_of_ble_eq_true rfl) (Nat.le_of_ble_eq_true rfl) d_Tc_init_40 (fun q25 H hP hD hS => ?_)
  have hP : va_P (dC, dI) cls [(h0, .inr (6, [.ref q1, .ref q3, .ref wi, .int 0, .int 0])), (q1, .inl (cA2, 8, .inr (.inr (.inr (.inr f24))))), (q25, .inr (7, [.null, .null, .int 0, .int 0, .int 0, .int 0, .int 0, .int 0, .int 0, .int 0, .int 0, .int 0, .int 0, .int 0, .int 0, .int 0, .int 0]))] H := hP
  have hD : va_D A [(h0, .inr (6, [.ref q1, .ref q3, .ref wi, .int 0, .int 0])), (q1, .inl (cA2, 8, .inr (.inr (.inr (.inr f24))))), (q25, .inr (7, [.null, .null, .int 0, .int 0, .int 0, .int 0, .int 0, .int 0, .int 0, .int 0, .int 0, .int 0, .int 0, .int 0, .int 0, .int 0, .int 0]))] := hD
  refine lv_dup hx hb d_Tc_init_43 rfl ?_
  have hPc := hP.sub (ws' := [(q25, .inr (7, [.null, .null, .int 0, .int 0, .int 0, .int 0, .int 0, .int 0, .int 0, .int 0, .int 0, .int 0, .int 0, .int 0, .int 0, .int 0, .int 0]))]) [2] rfl
  have hDc := hD.sub (ws' := [(q25, .inr (7, [.null, .null, .int 0, .int 0, .int 0, .int 0, .int 0, .int 0, .int 0, .int 0, .int 0, .int 0, .int 0, .int 0, .int 0, .int 0, .int 0]))]) [2] (by decide) rfl
  have hKc := hK.sub (tys' := []) [] rfl
  have hFc := va_free (wc := [(q25, .inr (7, [.null, .null, .int 0, .int 0, .int 0, .int 0, .int 0, .int 0, .int 0, .int 0, .int 0, .int 0, .int 0, .int 0, .int 0, .int 0, .int 0]))]) hD hS hA [2] rfl
  have hkc : 27 + 5 ≤ 50 := (Nat.le_of_ble_eq_true rfl)
  refine va_callv (va_runIN (As := []) (rest := [.ref q25, .int 4, .ref q1]) hfx (c_Co_init l dC dI q25 H.size) ⟨(ux_cn 0 hT tw_225 tw_223 tw_8 rfl rfl (by decide +kernel) ⟨(Nat.le_of_ble_eq_true rfl), (Nat.le_of_ble_eq_true rfl)⟩), rfl, (ux_T_at hT tw_224 rfl)⟩ (ux_pre [.ref q25] hT hPc hKc hDc) rfl rfl hl.1 rfl (lv_room (Nat.le_of_ble_eq_true rfl)) d_Tc_init_44 ⟨(Nat.le_of_ble_eq_true rfl), (Nat.le_of_ble_eq_true rfl)⟩) hS (fun q _ h => hFc q h) hFc (fun u t H1 locs ht hvm hw hB hz1 hk1 hS => ?_)
  obtain ⟨q27, q28, hP1, hK1, hD1⟩ := hB
  rw [ht] at hP1
  have hK1 := va_K.moved hvm.symm hK1
  obtain ⟨hP, hD⟩ := va_join (wr := [(h0, .inr (6, [.ref q1, .ref q3, .ref wi, .int 0, .int 0])), (q1, .inl (cA2, 8, .inr (.inr (.inr (.inr f24)))))]) (w1 := [(q25, .inr (7, [.ref q27, .ref q28, .int 0, .int 0, .int 0, .int 0, .int 0, .int 0, .int 0, .int 0, .int 0, .int 0, .int 0, .int 0, .int 0, .int 0, .int 0]))]) hP hD [2] [0, 1] rfl rfl (by decide) (by decide) hk1 hFc hP1 hD1
  have hK := (hK.sub (tys' := [(cA2, .object "UnikernelHttp$Connection"), (cA4, .byte)]) [0, 1] rfl).app hK1
  generalize H1 = H at hP hS ⊢
  have hP : va_P (dC, dI) cls [(h0, .inr (6, [.ref q1, .ref q3, .ref wi, .int 0, .int 0])), (q1, .inl (cA2, 8, .inr (.inr (.inr (.inr f24))))), (q25, .inr (7, [.ref q27, .ref q28, .int 0, .int 0, .int 0, .int 0, .int 0, .int 0, .int 0, .int 0, .int 0, .int 0, .int 0, .int 0, .int 0, .int 0, .int 0]))] H := hP
  have hD : va_D A [(h0, .inr (6, [.ref q1, .ref q3, .ref wi, .int 0, .int 0])), (q1, .inl (cA2, 8, .inr (.inr (.inr (.inr f24))))), (q25, .inr (7, [.ref q27, .ref q28, .int 0, .int 0, .int 0, .int 0, .int 0, .int 0, .int 0, .int 0, .int 0, .int 0, .int 0, .int 0, .int 0, .int 0, .int 0]))] := hD
  have hK : va_K (dC, dI) cls [(cA2, .object "UnikernelHttp$Connection"), (cA4, .byte)] s := hK
  refine va_astq hx hb hK hP hD hS 1 0 2 7 rfl rfl rfl rfl (show ¬ ((4 : Int32) < 0 ∨ 8 ≤ (4 : Int32).toNatClampNeg) by decide) d_Tc_init_47 (fun H locs hP hD hS => ?_)
  have hP : va_P (dC, dI) cls [(h0, .inr (6, [.ref q1, .ref q3, .ref wi, .int 0, .int 0])), (q1, .inl (cA2, 8, .inr (.inr (.inr (.inr (va_up f24 (4 : Int32).toNatClampNeg (some q25))))))), (q25, .inr (7, [.ref q27, .ref q28, .int 0, .int 0, .int 0, .int 0, .int 0, .int 0, .int 0, .int 0, .int 0, .int 0, .int 0, .int 0, .int 0, .int 0, .int 0]))] H := hP
  have hD : va_D A [(h0, .inr (6, [.ref q1, .ref q3, .ref wi, .int 0, .int 0])), (q1, .inl (cA2, 8, .inr (.inr (.inr (.inr (va_up f24 (4 : Int32).toNatClampNeg (some q25))))))), (q25, .inr (7, [.ref q27, .ref q28, .int 0, .int 0, .int 0, .int 0, .int 0, .int 0, .int 0, .int 0, .int 0, .int 0, .int 0, .int 0, .int 0, .int 0, .int 0]))] := hD
  generalize va_up f24 (4 : Int32).toNatClampNeg (some q25) = f29 at hP hD
  have hP := hP.sub (ws' := [(h0, .inr (6, [.ref q1, .ref q3, .ref wi, .int 0, .int 0])), (q1, .inl (cA2, 8, .inr (.inr (.inr (.inr f29)))))]) [0, 1] rfl
  have hD := hD.sub (ws' := [(h0, .inr (6, [.ref q1, .ref q3, .ref wi, .int 0, .int 0])), (q1, .inl (cA2, 8, .inr (.inr (.inr (.inr f29)))))]) [0, 1] (by decide) rfl
  refine lv_iinc (v := 5) hx hb d_Tc_init_48 hl (k := 0) rfl (by decide) (by decide) rfl (fun ls hl => ?_)
  have hl : lv_has ls 3 [(2, .int 5), (0, .ref h0), (1, .ref wi)] := hl
  refine lv_goto hx hb d_Tc_init_51 (tgt := 29) (by decide) ?_
  refine lv_iload_n hx hb d_Tc_init_29 rfl (lv_at hl 0 rfl) ?_
  refine lv_bipush (v := 8) hx hb d_Tc_init_30 (by decide) ?_
  refine lv_icmp_ge (tgt := 54) hx hb d_Tc_init_32 (by decide) (fun hc => absurd hc (by decide)) (fun _ => ?_)
  refine lv_aload_n hx hb d_Tc_init_35 rfl (lv_at hl 1 rfl) ?_
  refine va_get (D := (dC, dI)) (ci := 6) (v := .ref q1) (C := R_Tc) (T := F_Tc) (N := 5) hx hb (u_Tc hT) (fun _ h => h) hown hK hP 0 rfl rfl 0 (by decide) (ux_T_at hT tw_370 rfl) (fun _ h9 => h9) rfl d_Tc_init_36 ?_
  refine lv_iload_n hx hb d_Tc_init_39 rfl (lv_at hl 0 rfl) ?_
  refine va_new (ci := 7) (fs := [.null, .null, .int 0, .int 0, .int 0, .int 0, .int 0, .int 0, .int 0, .int 0, .int 0, .int 0, .int 0, .int 0, .int 0, .int 0, .int 0]) (C := R_Co) (T := F_Co) (N := 17) hx hb (u_Co hT) (fun _ h => h) t_Co k_Co hown (ux_T_at hT tw_220 rfl) (ux_T_at hT tw_222 rfl) (ux_T_at hT tw_8 rfl) hK hP hD hS hA rfl z_Co (Nat.le_of_ble_eq_true rfl) (Nat.le_of_ble_eq_true rfl) d_Tc_init_40 (fun q30 H hP hD hS => ?_)
  have hP : va_P (dC, dI) cls [(h0, .inr (6, [.ref q1, .ref q3, .ref wi, .int 0, .int 0])), (q1, .inl (cA2, 8, .inr (.inr (.inr (.inr f29))))), (q30, .inr (7, [.null, .null, .int 0, .int 0, .int 0, .int 0, .int 0, .int 0, .int 0, .int 0, .int 0, .int 0, .int 0, .int 0, .int 0, .int 0, .int 0]))] H := hP
  have hD : va_D A [(h0, .inr (6, [.ref q1, .ref q3, .ref wi, .int 0, .int 0])), (q1, .inl (cA2, 8, .inr (.inr (.inr (.inr f29))))), (q30, .inr (7, [.null, .null, .int 0, .int 0, .int 0, .int 0, .int 0, .int 0, .int 0, .int 0, .int 0, .int 0, .int 0, .int 0, .int 0, .int 0, .int 0]))] := hD
  refine lv_dup hx hb d_Tc_init_43 rfl ?_
  have hPc := hP.sub (ws' := [(q30, .inr (7, [.null, .null, .int 0, .int 0, .int 0, .int 0, .int 0, .int 0, .int 0, .int 0, .int 0, .int 0, .int 0, .int 0, .int 0, .int 0, .int 0]))]) [2] rfl
  have hDc := hD.sub (ws' := [(q30, .inr (7, [.null, .null, .int 0, .int 0, .int 0, .int 0, .int 0, .int 0, .int 0, .int 0, .int 0, .int 0, .int 0, .int 0, .int 0, .int 0, .int 0]))]) [2] (by decide) rfl
  have hKc := hK.sub (tys' := []) [] rfl
  have hFc := va_free (wc := [(q30, .inr (7, [.null, .null, .int 0, .int 0, .int 0, .int 0, .int 0, .int 0, .int 0, .int 0, .int 0, .int 0, .int 0, .int 0, .int 0, .int 0, .int 0]))]) hD hS hA [2] rfl
  have hkc : 33 + 5 ≤ 50 := (Nat.le_of_ble_eq_true rfl)
  refine va_callv (va_runIN (As := []) (rest := [.ref q30, .int 5, .ref q1]) hfx (c_Co_init l dC dI q30 H.size) ⟨(ux_cn 0 hT tw_225 tw_223 tw_8 rfl rfl (by decide +kernel) ⟨(Nat.le_of_ble_eq_true rfl), (Nat.le_of_ble_eq_true rfl)⟩), rfl, (ux_T_at hT tw_224 rfl)⟩ (ux_pre [.ref q30] hT hPc hKc hDc) rfl rfl hl.1 rfl (lv_room (Nat.le_of_ble_eq_true rfl)) d_Tc_init_44 ⟨(Nat.le_of_ble_eq_true rfl), (Nat.le_of_ble_eq_true rfl)⟩) hS (fun q _ h => hFc q h) hFc (fun u t H1 locs ht hvm hw hB hz1 hk1 hS => ?_)
  obtain ⟨q32, q33, hP1, hK1, hD1⟩ := hB
  rw [ht] at hP1
  have hK1 := va_K.moved hvm.symm hK1
  obtain ⟨hP, hD⟩ := va_join (wr := [(h0, .inr (6, [.ref q1, .ref q3, .ref wi, .int 0, .int 0])), (q1, .inl (cA2, 8, .inr (.inr (.inr (.inr f29)))))]) (w1 := [(q30, .inr (7, [.ref q32, .ref q33, .int 0, .int 0, .int 0, .int 0, .int 0, .int 0, .int 0, .int 0, .int 0, .int 0, .int 0, .int 0, .int 0, .int 0, .int 0]))]) hP hD [2] [0, 1] rfl rfl (by decide) (by decide) hk1 hFc hP1 hD1
  have hK := (hK.sub (tys' := [(cA2, .object "UnikernelHttp$Connection"), (cA4, .byte)]) [0, 1] rfl).app hK1
  generalize H1 = H at hP hS ⊢
  have hP : va_P (dC, dI) cls [(h0, .inr (6, [.ref q1, .ref q3, .ref wi, .int 0, .int 0])), (q1, .inl (cA2, 8, .inr (.inr (.inr (.inr f29))))), (q30, .inr (7, [.ref q32, .ref q33, .int 0, .int 0, .int 0, .int 0, .int 0, .int 0, .int 0, .int 0, .int 0, .int 0, .int 0, .int 0, .int 0, .int 0, .int 0]))] H := hP
  have hD : va_D A [(h0, .inr (6, [.ref q1, .ref q3, .ref wi, .int 0, .int 0])), (q1, .inl (cA2, 8, .inr (.inr (.inr (.inr f29))))), (q30, .inr (7, [.ref q32, .ref q33, .int 0, .int 0, .int 0, .int 0, .int 0, .int 0, .int 0, .int 0, .int 0, .int 0, .int 0, .int 0, .int 0, .int 0, .int 0]))] := hD
  have hK : va_K (dC, dI) cls [(cA2, .object "UnikernelHttp$Connection"), (cA4, .byte)] s := hK
  refine va_astq hx hb hK hP hD hS 1 0 2 7 rfl rfl rfl rfl (show ¬ ((5 : Int32) < 0 ∨ 8 ≤ (5 : Int32).toNatClampNeg) by decide) d_Tc_init_47 (fun H locs hP hD hS => ?_)
  have hP : va_P (dC, dI) cls [(h0, .inr (6, [.ref q1, .ref q3, .ref wi, .int 0, .int 0])), (q1, .inl (cA2, 8, .inr (.inr (.inr (.inr (va_up f29 (5 : Int32).toNatClampNeg (some q30))))))), (q30, .inr (7, [.ref q32, .ref q33, .int 0, .int 0, .int 0, .int 0, .int 0, .int 0, .int 0, .int 0, .int 0, .int 0, .int 0, .int 0, .int 0, .int 0, .int 0]))] H := hP
  have hD : va_D A [(h0, .inr (6, [.ref q1, .ref q3, .ref wi, .int 0, .int 0])), (q1, .inl (cA2, 8, .inr (.inr (.inr (.inr (va_up f29 (5 : Int32).toNatClampNeg (some q30))))))), (q30, .inr (7, [.ref q32, .ref q33, .int 0, .int 0, .int 0, .int 0, .int 0, .int 0, .int 0, .int 0, .int 0, .int 0, .int 0, .int 0, .int 0, .int 0, .int 0]))] := hD
  generalize va_up f29 (5 : Int32).toNatClampNeg (some q30) = f34 at hP hD
  have hP := hP.sub (ws' := [(h0, .inr (6, [.ref q1, .ref q3, .ref wi, .int 0, .int 0])), (q1, .inl (cA2, 8, .inr (.inr (.inr (.inr f34)))))]) [0, 1] rfl
  have hD := hD.sub (ws' := [(h0, .inr (6, [.ref q1, .ref q3, .ref wi, .int 0, .int 0])), (q1, .inl (cA2, 8, .inr (.inr (.inr (.inr f34)))))]) [0, 1] (by decide) rfl
  refine lv_iinc (v := 6) hx hb d_Tc_init_48 hl (k := 0) rfl (by decide) (by decide) rfl (fun ls hl => ?_)
  have hl : lv_has ls 3 [(2, .int 6), (0, .ref h0), (1, .ref wi)] := hl
  refine lv_goto hx hb d_Tc_init_51 (tgt := 29) (by decide) ?_
  refine lv_iload_n hx hb d_Tc_init_29 rfl (lv_at hl 0 rfl) ?_
  refine lv_bipush (v := 8) hx hb d_Tc_init_30 (by decide) ?_
  refine lv_icmp_ge (tgt := 54) hx hb d_Tc_init_32 (by decide) (fun hc => absurd hc (by decide)) (fun _ => ?_)
  refine lv_aload_n hx hb d_Tc_init_35 rfl (lv_at hl 1 rfl) ?_
  refine va_get (D := (dC, dI)) (ci := 6) (v := .ref q1) (C := R_Tc) (T := F_Tc) (N := 5) hx hb (u_Tc hT) (fun _ h => h) hown hK hP 0 rfl rfl 0 (by decide) (ux_T_at hT tw_370 rfl) (fun _ h9 => h9) rfl d_Tc_init_36 ?_
  refine lv_iload_n hx hb d_Tc_init_39 rfl (lv_at hl 0 rfl) ?_
  refine va_new (ci := 7) (fs := [.null, .null, .int 0, .int 0, .int 0, .int 0, .int 0, .int 0, .int 0, .int 0, .int 0, .int 0, .int 0, .int 0, .int 0, .int 0, .int 0]) (C := R_Co) (T := F_Co) (N := 17) hx hb (u_Co hT) (fun _ h => h) t_Co k_Co hown (ux_T_at hT tw_220 rfl) (ux_T_at hT tw_222 rfl) (ux_T_at hT tw_8 rfl) hK hP hD hS hA rfl z_Co (Nat.le_of_ble_eq_true rfl) (Nat.le_of_ble_eq_true rfl) d_Tc_init_40 (fun q35 H hP hD hS => ?_)
  have hP : va_P (dC, dI) cls [(h0, .inr (6, [.ref q1, .ref q3, .ref wi, .int 0, .int 0])), (q1, .inl (cA2, 8, .inr (.inr (.inr (.inr f34))))), (q35, .inr (7, [.null, .null, .int 0, .int 0, .int 0, .int 0, .int 0, .int 0, .int 0, .int 0, .int 0, .int 0, .int 0, .int 0, .int 0, .int 0, .int 0]))] H := hP
  have hD : va_D A [(h0, .inr (6, [.ref q1, .ref q3, .ref wi, .int 0, .int 0])), (q1, .inl (cA2, 8, .inr (.inr (.inr (.inr f34))))), (q35, .inr (7, [.null, .null, .int 0, .int 0, .int 0, .int 0, .int 0, .int 0, .int 0, .int 0, .int 0, .int 0, .int 0, .int 0, .int 0, .int 0, .int 0]))] := hD
  refine lv_dup hx hb d_Tc_init_43 rfl ?_
  have hPc := hP.sub (ws' := [(q35, .inr (7, [.null, .null, .int 0, .int 0, .int 0, .int 0, .int 0, .int 0, .int 0, .int 0, .int 0, .int 0, .int 0, .int 0, .int 0, .int 0, .int 0]))]) [2] rfl
  have hDc := hD.sub (ws' := [(q35, .inr (7, [.null, .null, .int 0, .int 0, .int 0, .int 0, .int 0, .int 0, .int 0, .int 0, .int 0, .int 0, .int 0, .int 0, .int 0, .int 0, .int 0]))]) [2] (by decide) rfl
  have hKc := hK.sub (tys' := []) [] rfl
  have hFc := va_free (wc := [(q35, .inr (7, [.null, .null, .int 0, .int 0, .int 0, .int 0, .int 0, .int 0, .int 0, .int 0, .int 0, .int 0, .int 0, .int 0, .int 0, .int 0, .int 0]))]) hD hS hA [2] rfl
  have hkc : 39 + 5 ≤ 50 := (Nat.le_of_ble_eq_true rfl)
  refine va_callv (va_runIN (As := []) (rest := [.ref q35, .int 6, .ref q1]) hfx (c_Co_init l dC dI q35 H.size) ⟨(ux_cn 0 hT tw_225 tw_223 tw_8 rfl rfl (by decide +kernel) ⟨(Nat.le_of_ble_eq_true rfl), (Nat.le_of_ble_eq_true rfl)⟩), rfl, (ux_T_at hT tw_224 rfl)⟩ (ux_pre [.ref q35] hT hPc hKc hDc) rfl rfl hl.1 rfl (lv_room (Nat.le_of_ble_eq_true rfl)) d_Tc_init_44 ⟨(Nat.le_of_ble_eq_true rfl), (Nat.le_of_ble_eq_true rfl)⟩) hS (fun q _ h => hFc q h) hFc (fun u t H1 locs ht hvm hw hB hz1 hk1 hS => ?_)
  obtain ⟨q37, q38, hP1, hK1, hD1⟩ := hB
  rw [ht] at hP1
  have hK1 := va_K.moved hvm.symm hK1
  obtain ⟨hP, hD⟩ := va_join (wr := [(h0, .inr (6, [.ref q1, .ref q3, .ref wi, .int 0, .int 0])), (q1, .inl (cA2, 8, .inr (.inr (.inr (.inr f34)))))]) (w1 := [(q35, .inr (7, [.ref q37, .ref q38, .int 0, .int 0, .int 0, .int 0, .int 0, .int 0, .int 0, .int 0, .int 0, .int 0, .int 0, .int 0, .int 0, .int 0, .int 0]))]) hP hD [2] [0, 1] rfl rfl (by decide) (by decide) hk1 hFc hP1 hD1
  have hK := (hK.sub (tys' := [(cA2, .object "UnikernelHttp$Connection"), (cA4, .byte)]) [0, 1] rfl).app hK1
  generalize H1 = H at hP hS ⊢
  have hP : va_P (dC, dI) cls [(h0, .inr (6, [.ref q1, .ref q3, .ref wi, .int 0, .int 0])), (q1, .inl (cA2, 8, .inr (.inr (.inr (.inr f34))))), (q35, .inr (7, [.ref q37, .ref q38, .int 0, .int 0, .int 0, .int 0, .int 0, .int 0, .int 0, .int 0, .int 0, .int 0, .int 0, .int 0, .int 0, .int 0, .int 0]))] H := hP
  have hD : va_D A [(h0, .inr (6, [.ref q1, .ref q3, .ref wi, .int 0, .int 0])), (q1, .inl (cA2, 8, .inr (.inr (.inr (.inr f34))))), (q35, .inr (7, [.ref q37, .ref q38, .int 0, .int 0, .int 0, .int 0, .int 0, .int 0, .int 0, .int 0, .int 0, .int 0, .int 0, .int 0, .int 0, .int 0, .int 0]))] := hD
  have hK : va_K (dC, dI) cls [(cA2, .object "UnikernelHttp$Connection"), (cA4, .byte)] s := hK
  refine va_astq hx hb hK hP hD hS 1 0 2 7 rfl rfl rfl rfl (show ¬ ((6 : Int32) < 0 ∨ 8 ≤ (6 : Int32).toNatClampNeg) by decide) d_Tc_init_47 (fun H locs hP hD hS => ?_)
  have hP : va_P (dC, dI) cls [(h0, .inr (6, [.ref q1, .ref q3, .ref wi, .int 0, .int 0])), (q1, .inl (cA2, 8, .inr (.inr (.inr (.inr (va_up f34 (6 : Int32).toNatClampNeg (some q35))))))), (q35, .inr (7, [.ref q37, .ref q38, .int 0, .int 0, .int 0, .int 0, .int 0, .int 0, .int 0, .int 0, .int 0, .int 0, .int 0, .int 0, .int 0, .int 0, .int 0]))] H := hP
  have hD : va_D A [(h0, .inr (6, [.ref q1, .ref q3, .ref wi, .int 0, .int 0])), (q1, .inl (cA2, 8, .inr (.inr (.inr (.inr (va_up f34 (6 : Int32).toNatClampNeg (some q35))))))), (q35, .inr (7, [.ref q37, .ref q38, .int 0, .int 0, .int 0, .int 0, .int 0, .int 0, .int 0, .int 0, .int 0, .int 0, .int 0, .int 0, .int 0, .int 0, .int 0]))] := hD
  generalize va_up f34 (6 : Int32).toNatClampNeg (some q35) = f39 at hP hD
  have hP := hP.sub (ws' := [(h0, .inr (6, [.ref q1, .ref q3, .ref wi, .int 0, .int 0])), (q1, .inl (cA2, 8, .inr (.inr (.inr (.inr f39)))))]) [0, 1] rfl
  have hD := hD.sub (ws' := [(h0, .inr (6, [.ref q1, .ref q3, .ref wi, .int 0, .int 0])), (q1, .inl (cA2, 8, .inr (.inr (.inr (.inr f39)))))]) [0, 1] (by decide) rfl
  refine lv_iinc (v := 7) hx hb d_Tc_init_48 hl (k := 0) rfl (by decide) (by decide) rfl (fun ls hl => ?_)
  have hl : lv_has ls 3 [(2, .int 7), (0, .ref h0), (1, .ref wi)] := hl
  refine lv_goto hx hb d_Tc_init_51 (tgt := 29) (by decide) ?_
  refine lv_iload_n hx hb d_Tc_init_29 rfl (lv_at hl 0 rfl) ?_
  refine lv_bipush (v := 8) hx hb d_Tc_init_30 (by decide) ?_
  refine lv_icmp_ge (tgt := 54) hx hb d_Tc_init_32 (by decide) (fun hc => absurd hc (by decide)) (fun _ => ?_)
  refine lv_aload_n hx hb d_Tc_init_35 rfl (lv_at hl 1 rfl) ?_
  refine va_get (D := (dC, dI)) (ci := 6) (v := .ref q1) (C := R_Tc) (T := F_Tc) (N := 5) hx hb (u_Tc hT) (fun _ h => h) hown hK hP 0 rfl rfl 0 (by decide) (ux_T_at hT tw_370 rfl) (fun _ h9 => h9) rfl d_Tc_init_36 ?_
  refine lv_iload_n hx hb d_Tc_init_39 rfl (lv_at hl 0 rfl) ?_
  refine va_new (ci := 7) (fs := [.null, .null, .int 0, .int 0, .int 0, .int 0, .int 0, .int 0, .int 0, .int 0, .int 0, .int 0, .int 0, .int 0, .int 0, .int 0, .int 0]) (C := R_Co) (T := F_Co) (N := 17) hx hb (u_Co hT) (fun _ h => h) t_Co k_Co hown (ux_T_at hT tw_220 rfl) (ux_T_at hT tw_222 rfl) (ux_T_at hT tw_8 rfl) hK hP hD hS hA rfl z_Co (Nat.le_of_ble_eq_true rfl) (Nat.le_of_ble_eq_true rfl) d_Tc_init_40 (fun q40 H hP hD hS => ?_)
  have hP : va_P (dC, dI) cls [(h0, .inr (6, [.ref q1, .ref q3, .ref wi, .int 0, .int 0])), (q1, .inl (cA2, 8, .inr (.inr (.inr (.inr f39))))), (q40, .inr (7, [.null, .null, .int 0, .int 0, .int 0, .int 0, .int 0, .int 0, .int 0, .int 0, .int 0, .int 0, .int 0, .int 0, .int 0, .int 0, .int 0]))] H := hP
  have hD : va_D A [(h0, .inr (6, [.ref q1, .ref q3, .ref wi, .int 0, .int 0])), (q1, .inl (cA2, 8, .inr (.inr (.inr (.inr f39))))), (q40, .inr (7, [.null, .null, .int 0, .int 0, .int 0, .int 0, .int 0, .int 0, .int 0, .int 0, .int 0, .int 0, .int 0, .int 0, .int 0, .int 0, .int 0]))] := hD
  refine lv_dup hx hb d_Tc_init_43 rfl ?_
  have hPc := hP.sub (ws' := [(q40, .inr (7, [.null, .null, .int 0, .int 0, .int 0, .int 0, .int 0, .int 0, .int 0, .int 0, .int 0, .int 0, .int 0, .int 0, .int 0, .int 0, .int 0]))]) [2] rfl
  have hDc := hD.sub (ws' := [(q40, .inr (7, [.null, .null, .int 0, .int 0, .int 0, .int 0, .int 0, .int 0, .int 0, .int 0, .int 0, .int 0, .int 0, .int 0, .int 0, .int 0, .int 0]))]) [2] (by decide) rfl
  have hKc := hK.sub (tys' := []) [] rfl
  have hFc := va_free (wc := [(q40, .inr (7, [.null, .null, .int 0, .int 0, .int 0, .int 0, .int 0, .int 0, .int 0, .int 0, .int 0, .int 0, .int 0, .int 0, .int 0, .int 0, .int 0]))]) hD hS hA [2] rfl
  have hkc : 45 + 5 ≤ 50 := (Nat.le_of_ble_eq_true rfl)
  refine va_callv (va_runIN (As := []) (rest := [.ref q40, .int 7, .ref q1]) hfx (c_Co_init l dC dI q40 H.size) ⟨(ux_cn 0 hT tw_225 tw_223 tw_8 rfl rfl (by decide +kernel) ⟨(Nat.le_of_ble_eq_true rfl), (Nat.le_of_ble_eq_true rfl)⟩), rfl, (ux_T_at hT tw_224 rfl)⟩ (ux_pre [.ref q40] hT hPc hKc hDc) rfl rfl hl.1 rfl (lv_room (Nat.le_of_ble_eq_true rfl)) d_Tc_init_44 ⟨(Nat.le_of_ble_eq_true rfl), (Nat.le_of_ble_eq_true rfl)⟩) hS (fun q _ h => hFc q h) hFc (fun u t H1 locs ht hvm hw hB hz1 hk1 hS => ?_)
  obtain ⟨q42, q43, hP1, hK1, hD1⟩ := hB
  rw [ht] at hP1
  have hK1 := va_K.moved hvm.symm hK1
  obtain ⟨hP, hD⟩ := va_join (wr := [(h0, .inr (6, [.ref q1, .ref q3, .ref wi, .int 0, .int 0])), (q1, .inl (cA2, 8, .inr (.inr (.inr (.inr f39)))))]) (w1 := [(q40, .inr (7, [.ref q42, .ref q43, .int 0, .int 0, .int 0, .int 0, .int 0, .int 0, .int 0, .int 0, .int 0, .int 0, .int 0, .int 0, .int 0, .int 0, .int 0]))]) hP hD [2] [0, 1] rfl rfl (by decide) (by decide) hk1 hFc hP1 hD1
  have hK := (hK.sub (tys' := [(cA2, .object "UnikernelHttp$Connection"), (cA4, .byte)]) [0, 1] rfl).app hK1
  generalize H1 = H at hP hS ⊢
  have hP : va_P (dC, dI) cls [(h0, .inr (6, [.ref q1, .ref q3, .ref wi, .int 0, .int 0])), (q1, .inl (cA2, 8, .inr (.inr (.inr (.inr f39))))), (q40, .inr (7, [.ref q42, .ref q43, .int 0, .int 0, .int 0, .int 0, .int 0, .int 0, .int 0, .int 0, .int 0, .int 0, .int 0, .int 0, .int 0, .int 0, .int 0]))] H := hP
  have hD : va_D A [(h0, .inr (6, [.ref q1, .ref q3, .ref wi, .int 0, .int 0])), (q1, .inl (cA2, 8, .inr (.inr (.inr (.inr f39))))), (q40, .inr (7, [.ref q42, .ref q43, .int 0, .int 0, .int 0, .int 0, .int 0, .int 0, .int 0, .int 0, .int 0, .int 0, .int 0, .int 0, .int 0, .int 0, .int 0]))] := hD
  have hK : va_K (dC, dI) cls [(cA2, .object "UnikernelHttp$Connection"), (cA4, .byte)] s := hK
  refine va_astq hx hb hK hP hD hS 1 0 2 7 rfl rfl rfl rfl (show ¬ ((7 : Int32) < 0 ∨ 8 ≤ (7 : Int32).toNatClampNeg) by decide) d_Tc_init_47 (fun H locs hP hD hS => ?_)
  have hP : va_P (dC, dI) cls [(h0, .inr (6, [.ref q1, .ref q3, .ref wi, .int 0, .int 0])), (q1, .inl (cA2, 8, .inr (.inr (.inr (.inr (va_up f39 (7 : Int32).toNatClampNeg (some q40))))))), (q40, .inr (7, [.ref q42, .ref q43, .int 0, .int 0, .int 0, .int 0, .int 0, .int 0, .int 0, .int 0, .int 0, .int 0, .int 0, .int 0, .int 0, .int 0, .int 0]))] H := hP
  have hD : va_D A [(h0, .inr (6, [.ref q1, .ref q3, .ref wi, .int 0, .int 0])), (q1, .inl (cA2, 8, .inr (.inr (.inr (.inr (va_up f39 (7 : Int32).toNatClampNeg (some q40))))))), (q40, .inr (7, [.ref q42, .ref q43, .int 0, .int 0, .int 0, .int 0, .int 0, .int 0, .int 0, .int 0, .int 0, .int 0, .int 0, .int 0, .int 0, .int 0, .int 0]))] := hD
  generalize va_up f39 (7 : Int32).toNatClampNeg (some q40) = f44 at hP hD
  have hP := hP.sub (ws' := [(h0, .inr (6, [.ref q1, .ref q3, .ref wi, .int 0, .int 0])), (q1, .inl (cA2, 8, .inr (.inr (.inr (.inr f44)))))]) [0, 1] rfl
  have hD := hD.sub (ws' := [(h0, .inr (6, [.ref q1, .ref q3, .ref wi, .int 0, .int 0])), (q1, .inl (cA2, 8, .inr (.inr (.inr (.inr f44)))))]) [0, 1] (by decide) rfl
  refine lv_iinc (v := 8) hx hb d_Tc_init_48 hl (k := 0) rfl (by decide) (by decide) rfl (fun ls hl => ?_)
  have hl : lv_has ls 3 [(2, .int 8), (0, .ref h0), (1, .ref wi)] := hl
  refine lv_goto hx hb d_Tc_init_51 (tgt := 29) (by decide) ?_
  refine lv_iload_n hx hb d_Tc_init_29 rfl (lv_at hl 0 rfl) ?_
  refine lv_bipush (v := 8) hx hb d_Tc_init_30 (by decide) ?_
  refine lv_icmp_ge (tgt := 54) hx hb d_Tc_init_32 (by decide) (fun _ => ?_) (fun hc => absurd (by decide) hc)
  have hP9 := hP.sub (ws' := [(h0, .inr (6, [.ref q1, .ref q3, .ref wi, .int 0, .int 0]))]) [0] rfl
  have hD9 := hD.sub (ws' := [(h0, .inr (6, [.ref q1, .ref q3, .ref wi, .int 0, .int 0]))]) [0] (by decide) rfl
  have hK9 := hK.sub (tys' := []) [] rfl
  refine W.widen (k := 50) (n := 66336) (Nat.le_of_ble_eq_true rfl) (Nat.le_of_ble_eq_true rfl) ?_
  exact W.vret hx hb hr (fun t ht hW => ⟨⟨(), rfl, trivial, q1, q3, by rw [ht]; exact hP9, va_K.moved hW.alike hK9, hD9⟩, hS.F ht⟩) hS.2.2 d_Tc_init_54
set_option maxHeartbeats 4000000 in
set_option maxRecDepth 100000 in
theorem c_So_init (l : Launch) (dC : Nat → ClassId) (dI : Nat → Nat → Nat) (h0 : Nat) (sz : Nat) : Met l y_So_init [Cond.code y_So_init b_So_init 1 (none)] ({ frames := 20, cells := 69, slots := 50208, locals := 300 }) (ux_Pc [.ref h0] (dC, dI) cls [(h0, .inr (10, [.null, .null, .null, .null, .null, .int 0]))] [] sz) (va_Qv (fun _ : Unit => True) (fun (_ : Unit) (t : State) => ∃ (q1 : Nat), ∃ (q2 : Nat), ∃ (q3 : Nat), ∃ (q4 : Nat), ∃ (q5 : Nat), ux_B (dC, dI) cls (va_A [(h0, .inr (10, [.null, .null, .null, .null, .null, .int 0]))] sz) [(h0, .inr (10, [.ref q1, .ref q2, .ref q3, .ref q4, .ref q5, .int 0]))] [] t) (va_A [(h0, .inr (10, [.null, .null, .null, .null, .null, .int 0]))] sz)) 69 50208 (va_A [(h0, .inr (10, [.null, .null, .null, .null, .null, .int 0]))] sz) := by
  refine Met.ofW (cc := b_So_init) (maxL := 1) (ret := none) (by decide) rfl ?_
  intro p e s m args below meth c s₁ B hml hv
  obtain ⟨rfl, hsz, hP, hK, hD0, hT⟩ := hv
  have hx := B.exec
  have hb := B.bytes
  have hr := B.returns
  have hown : s.vm.findClass "UnikernelHttp$Store" = some m.cls := findClass_of_methodNamed B.named
  have hlocks := B.notSynchronized
  have hin : meth.name = "<init>" := (name_of_methodNamed B.named B.method).1
  subst hsz
  have hD := hD0.self (sz := s.heap.size)
  have hns := ux_ns hP
  generalize hAe : va_A [(h0, .inr (10, [.null, .null, .null, .null, .null, .int 0]))] s.heap.size = A at hD hns ⊢
  have hA : ∀ q : Nat, s.heap.size ≤ q → A q := fun q h => by rw [← hAe]; exact Or.inr h
  have hS : va_S A s.heap s.heap [] := va_S.rf
  have hl := lv_entry ([.ref h0]) (n := 1) (Nat.le_of_ble_eq_true rfl)
  rw [lg_entry_eq]
  generalize (lg_sl ([.ref h0]) ++ List.replicate (1 - (lg_sl ([.ref h0])).length) Slot.unset).toArray = ls at hl ⊢
  have hl : lv_has ls 1 [(0, .ref h0)] := hl
  have hfx : CallFix p m c b_So_init 1 s ([.ref h0] : List Value).toArray [] "UnikernelHttp$Store" := ⟨hx, hb, hml, hown, fun _ h => by cases h⟩
  refine lv_aload_n hx hb d_So_init_0 rfl (lv_at hl 0 rfl) ?_
  refine W.objInit hx hb hown (ux_T_at hT tw_393 rfl) (ux_T_at hT tw_40 rfl) (ux_T_at hT tw_41 rfl) rfl (by rw [hml]; exact hl.1) rfl d_So_init_1 (Nat.le_of_ble_eq_true rfl) (Nat.le_of_ble_eq_true rfl) ?_
  refine W.eq (g2 := F0 m 4 ls []) rfl ?_
  refine lv_aload_n hx hb d_So_init_4 rfl (lv_at hl 0 rfl) ?_
  refine lv_bipush (v := 32) hx hb d_So_init_5 (by decide) ?_
  refine lv_bipush (v := 64) hx hb d_So_init_7 (by decide) ?_
  refine ux_multi (own := "UnikernelHttp$Store") (N := 32) (M := 64) hx hb hown (ux_T_at hT tw_394 rfl) (ux_T_at hT tw_395 rfl) (ux_T_at hT tw_66 rfl) hP hS hA (by decide) (by decide) (by decide) (by decide) (by decide) (by decide) (Nat.le_of_ble_eq_true rfl) (Nat.le_of_ble_eq_true rfl) d_So_init_9 (fun q1 H locs hP hS => ?_)
  refine va_putF (D := (dC, dI)) (ci := 10) (v := .ref q1) (ty := .array (.array .byte)) (C := R_So) (T := F_So) (N := 6) hx hb (u_So hT) (fun _ h => h) t_So k_So n_So hown hK hP hD hS 0 rfl rfl 0 (by decide) (ux_T_at hT tw_396 rfl) (fun _ h9 => h9) rfl hin rfl (by decide +kernel) rfl rfl (Nat.le_of_ble_eq_true rfl) d_So_init_13 (fun H locs hP hD hS => ?_)
  have hP : va_P (dC, dI) cls [(h0, .inr (10, [.ref q1, .null, .null, .null, .null, .int 0]))] H := hP
  have hD : va_D A [(h0, .inr (10, [.ref q1, .null, .null, .null, .null, .int 0]))] := hD
  refine lv_aload_n hx hb d_So_init_16 rfl (lv_at hl 0 rfl) ?_
  refine lv_bipush (v := 32) hx hb d_So_init_17 (by decide) ?_
  refine va_newa (atype := .int) (ty := .int) (N' := 32) (a0 := (32, .inl (fun _ => 0))) hx hb (ux_T_at hT tw_67 rfl) rfl hK hP hD hS hA (fun _ => rfl) (by decide) (by decide +kernel) (by decide +kernel) (Nat.le_of_ble_eq_true rfl) (Nat.le_of_ble_eq_true rfl) d_So_init_19 (fun q2 cA3 H hK hP hD hS => ?_)
  have hP : va_P (dC, dI) cls [(h0, .inr (10, [.ref q1, .null, .null, .null, .null, .int 0])), (q2, .inl (cA3, 32, .inl (fun _ => 0)))] H := hP
  have hD : va_D A [(h0, .inr (10, [.ref q1, .null, .null, .null, .null, .int 0])), (q2, .inl (cA3, 32, .inl (fun _ => 0)))] := hD
  have hK : va_K (dC, dI) cls [(cA3, .int)] s := hK
  refine va_putF (D := (dC, dI)) (ci := 10) (v := .ref q2) (ty := .array .int) (C := R_So) (T := F_So) (N := 6) hx hb (u_So hT) (fun _ h => h) t_So k_So n_So hown hK hP hD hS 0 rfl rfl 1 (by decide) (ux_T_at hT tw_397 rfl) (fun _ h9 => h9) rfl hin rfl (by decide +kernel) rfl rfl (Nat.le_of_ble_eq_true rfl) d_So_init_21 (fun H locs hP hD hS => ?_)
  have hP : va_P (dC, dI) cls [(h0, .inr (10, [.ref q1, .ref q2, .null, .null, .null, .int 0])), (q2, .inl (cA3, 32, .inl (fun _ => 0)))] H := hP
  have hD : va_D A [(h0, .inr (10, [.ref q1, .ref q2, .null, .null, .null, .int 0])), (q2, .inl (cA3, 32, .inl (fun _ => 0)))] := hD
  have hP := hP.sub (ws' := [(h0, .inr (10, [.ref q1, .ref q2, .null, .null, .null, .int 0]))]) [0] rfl
  have hD := hD.sub (ws' := [(h0, .inr (10, [.ref q1, .ref q2, .null, .null, .null, .int 0]))]) [0] (by decide) rfl
  refine lv_aload_n hx hb d_So_init_24 rfl (lv_at hl 0 rfl) ?_
  refine lv_bipush (v := 32) hx hb d_So_init_25 (by decide) ?_
  refine lv_sipush (v := 1500) hx hb d_So_init_27 (by decide) ?_
  refine ux_multi (own := "UnikernelHttp$Store") (N := 32) (M := 1500) hx hb hown (ux_T_at hT tw_394 rfl) (ux_T_at hT tw_395 rfl) (ux_T_at hT tw_66 rfl) hP hS hA (by decide) (by decide) (by decide) (by decide) (by decide) (by decide) (Nat.le_of_ble_eq_true rfl) (Nat.le_of_ble_eq_true rfl) d_So_init_30 (fun q4 H locs hP hS => ?_)
  refine va_putF (D := (dC, dI)) (ci := 10) (v := .ref q4) (ty := .array (.array .byte)) (C := R_So) (T := F_So) (N := 6) hx hb (u_So hT) (fun _ h => h) t_So k_So n_So hown hK hP hD hS 0 rfl rfl 2 (by decide) (ux_T_at hT tw_398 rfl) (fun _ h9 => h9) rfl hin rfl (by decide +kernel) rfl rfl (Nat.le_of_ble_eq_true rfl) d_So_init_34 (fun H locs hP hD hS => ?_)
  have hP : va_P (dC, dI) cls [(h0, .inr (10, [.ref q1, .ref q2, .ref q4, .null, .null, .int 0]))] H := hP
  have hD : va_D A [(h0, .inr (10, [.ref q1, .ref q2, .ref q4, .null, .null, .int 0]))] := hD
  refine lv_aload_n hx hb d_So_init_37 rfl (lv_at hl 0 rfl) ?_
  refine lv_bipush (v := 32) hx hb d_So_init_38 (by decide) ?_
  refine va_newa (atype := .int) (ty := .int) (N' := 32) (a0 := (32, .inl (fun _ => 0))) hx hb (ux_T_at hT tw_67 rfl) rfl hK hP hD hS hA (fun _ => rfl) (by decide) (by decide +kernel) (by decide +kernel) (Nat.le_of_ble_eq_true rfl) (Nat.le_of_ble_eq_true rfl) d_So_init_40 (fun q5 cA6 H hK hP hD hS => ?_)
  have hP : va_P (dC, dI) cls [(h0, .inr (10, [.ref q1, .ref q2, .ref q4, .null, .null, .int 0])), (q5, .inl (cA6, 32, .inl (fun _ => 0)))] H := hP
  have hD : va_D A [(h0, .inr (10, [.ref q1, .ref q2, .ref q4, .null, .null, .int 0])), (q5, .inl (cA6, 32, .inl (fun _ => 0)))] := hD
  have hK : va_K (dC, dI) cls [(cA3, .int), (cA6, .int)] s := hK
  refine va_putF (D := (dC, dI)) (ci := 10) (v := .ref q5) (ty := .array .int) (C := R_So) (T := F_So) (N := 6) hx hb (u_So hT) (fun _ h => h) t_So k_So n_So hown hK hP hD hS 0 rfl rfl 3 (by decide) (ux_T_at hT tw_401 rfl) (fun _ h9 => h9) rfl hin rfl (by decide +kernel) rfl rfl (Nat.le_of_ble_eq_true rfl) d_So_init_42 (fun H locs hP hD hS => ?_)
  have hP : va_P (dC, dI) cls [(h0, .inr (10, [.ref q1, .ref q2, .ref q4, .ref q5, .null, .int 0])), (q5, .inl (cA6, 32, .inl (fun _ => 0)))] H := hP
  have hD : va_D A [(h0, .inr (10, [.ref q1, .ref q2, .ref q4, .ref q5, .null, .int 0])), (q5, .inl (cA6, 32, .inl (fun _ => 0)))] := hD
  have hP := hP.sub (ws' := [(h0, .inr (10, [.ref q1, .ref q2, .ref q4, .ref q5, .null, .int 0]))]) [0] rfl
  have hD := hD.sub (ws' := [(h0, .inr (10, [.ref q1, .ref q2, .ref q4, .ref q5, .null, .int 0]))]) [0] (by decide) rfl
  refine lv_aload_n hx hb d_So_init_45 rfl (lv_at hl 0 rfl) ?_
  refine lv_bipush (v := 32) hx hb d_So_init_46 (by decide) ?_
  refine va_newa (atype := .int) (ty := .int) (N' := 32) (a0 := (32, .inl (fun _ => 0))) hx hb (ux_T_at hT tw_67 rfl) rfl hK hP hD hS hA (fun _ => rfl) (by decide) (by decide +kernel) (by decide +kernel) (Nat.le_of_ble_eq_true rfl) (Nat.le_of_ble_eq_true rfl) d_So_init_48 (fun q7 cA8 H hK hP hD hS => ?_)
  have hP : va_P (dC, dI) cls [(h0, .inr (10, [.ref q1, .ref q2, .ref q4, .ref q5, .null, .int 0])), (q7, .inl (cA8, 32, .inl (fun _ => 0)))] H := hP
  have hD : va_D A [(h0, .inr (10, [.ref q1, .ref q2, .ref q4, .ref q5, .null, .int 0])), (q7, .inl (cA8, 32, .inl (fun _ => 0)))] := hD
  have hK : va_K (dC, dI) cls [(cA3, .int), (cA6, .int), (cA8, .int)] s := hK
  refine va_putF (D := (dC, dI)) (ci := 10) (v := .ref q7) (ty := .array .int) (C := R_So) (T := F_So) (N := 6) hx hb (u_So hT) (fun _ h => h) t_So k_So n_So hown hK hP hD hS 0 rfl rfl 4 (by decide) (ux_T_at hT tw_404 rfl) (fun _ h9 => h9) rfl hin rfl (by decide +kernel) rfl rfl (Nat.le_of_ble_eq_true rfl) d_So_init_50 (fun H locs hP hD hS => ?_)
  have hP : va_P (dC, dI) cls [(h0, .inr (10, [.ref q1, .ref q2, .ref q4, .ref q5, .ref q7, .int 0])), (q7, .inl (cA8, 32, .inl (fun _ => 0)))] H := hP
  have hD : va_D A [(h0, .inr (10, [.ref q1, .ref q2, .ref q4, .ref q5, .ref q7, .int 0])), (q7, .inl (cA8, 32, .inl (fun _ => 0)))] := hD
  have hP := hP.sub (ws' := [(h0, .inr (10, [.ref q1, .ref q2, .ref q4, .ref q5, .ref q7, .int 0]))]) [0] rfl
  have hD := hD.sub (ws' := [(h0, .inr (10, [.ref q1, .ref q2, .ref q4, .ref q5, .ref q7, .int 0]))]) [0] (by decide) rfl
  have hP9 := hP.sub (ws' := [(h0, .inr (10, [.ref q1, .ref q2, .ref q4, .ref q5, .ref q7, .int 0]))]) [0] rfl
  have hD9 := hD.sub (ws' := [(h0, .inr (10, [.ref q1, .ref q2, .ref q4, .ref q5, .ref q7, .int 0]))]) [0] (by decide) rfl
  have hK9 := hK.sub (tys' := []) [] rfl
  refine W.widen (k := 69) (n := 50208) (Nat.le_of_ble_eq_true rfl) (Nat.le_of_ble_eq_true rfl) ?_
  exact W.vret hx hb hr (fun t ht hW => ⟨⟨(), rfl, trivial, q1, q2, q4, q5, q7, by rw [ht]; exact hP9, va_K.moved hW.alike hK9, hD9⟩, hS.F ht⟩) hS.2.2 d_So_init_53
set_option maxHeartbeats 4000000 in
set_option maxRecDepth 100000 in
theorem c_Ht_init (l : Launch) (dC : Nat → ClassId) (dI : Nat → Nat → Nat) (h0 : Nat) (st : Nat) (sz : Nat) : Met l y_Ht_init [Cond.code y_Ht_init b_Ht_init 2 (none)] ({ frames := 20, cells := 1, slots := 1700, locals := 300 }) (ux_Pc [.ref h0, .ref st] (dC, dI) cls [(h0, .inr (11, [.null, .null, .int 0, .int 0, .int 0]))] [] sz) (va_Qv (fun _ : Unit => True) (fun (_ : Unit) (t : State) => ∃ (q1 : Nat), ux_B (dC, dI) cls (va_A [(h0, .inr (11, [.null, .null, .int 0, .int 0, .int 0]))] sz) [(h0, .inr (11, [.ref st, .ref q1, .int 0, .int 0, .int 0]))] [] t) (va_A [(h0, .inr (11, [.null, .null, .int 0, .int 0, .int 0]))] sz)) 1 1700 (va_A [(h0, .inr (11, [.null, .null, .int 0, .int 0, .int 0]))] sz) := by
  refine Met.ofW (cc := b_Ht_init) (maxL := 2) (ret := none) (by decide) rfl ?_
  intro p e s m args below meth c s₁ B hml hv
  obtain ⟨rfl, hsz, hP, hK, hD0, hT⟩ := hv
  have hx := B.exec
  have hb := B.bytes
  have hr := B.returns
  have hown : s.vm.findClass "UnikernelHttp$Http" = some m.cls := findClass_of_methodNamed B.named
  have hlocks := B.notSynchronized
  have hin : meth.name = "<init>" := (name_of_methodNamed B.named B.method).1
  subst hsz
  have hD := hD0.self (sz := s.heap.size)
  have hns := ux_ns hP
  generalize hAe : va_A [(h0, .inr (11, [.null, .null, .int 0, .int 0, .int 0]))] s.heap.size = A at hD hns ⊢
  have hA : ∀ q : Nat, s.heap.size ≤ q → A q := fun q h => by rw [← hAe]; exact Or.inr h
  have hS : va_S A s.heap s.heap [] := va_S.rf
  have hl := lv_entry ([.ref h0, .ref st]) (n := 2) (Nat.le_of_ble_eq_true rfl)
  rw [lg_entry_eq]
  generalize (lg_sl ([.ref h0, .ref st]) ++ List.replicate (2 - (lg_sl ([.ref h0, .ref st])).length) Slot.unset).toArray = ls at hl ⊢
  have hl : lv_has ls 2 [(0, .ref h0), (1, .ref st)] := hl
  have hfx : CallFix p m c b_Ht_init 2 s ([.ref h0, .ref st] : List Value).toArray [] "UnikernelHttp$Http" := ⟨hx, hb, hml, hown, fun _ h => by cases h⟩
  refine lv_aload_n hx hb d_Ht_init_0 rfl (lv_at hl 0 rfl) ?_
  refine W.objInit hx hb hown (ux_T_at hT tw_426 rfl) (ux_T_at hT tw_40 rfl) (ux_T_at hT tw_41 rfl) rfl (by rw [hml]; exact hl.1) rfl d_Ht_init_1 (Nat.le_of_ble_eq_true rfl) (Nat.le_of_ble_eq_true rfl) ?_
  refine W.eq (g2 := F0 m 4 ls []) rfl ?_
  refine lv_aload_n hx hb d_Ht_init_4 rfl (lv_at hl 0 rfl) ?_
  refine lv_sipush (v := 1700) hx hb d_Ht_init_5 (by decide) ?_
  refine va_newa (atype := .byte) (ty := .byte) (N' := 1700) (a0 := (1700, .inl (fun _ => 0))) hx hb (ux_T_at hT tw_66 rfl) rfl hK hP hD hS hA (fun _ => rfl) (by decide) (by decide +kernel) (by decide +kernel) (Nat.le_of_ble_eq_true rfl) (Nat.le_of_ble_eq_true rfl) d_Ht_init_8 (fun q1 cA2 H hK hP hD hS => ?_)
  have hP : va_P (dC, dI) cls [(h0, .inr (11, [.null, .null, .int 0, .int 0, .int 0])), (q1, .inl (cA2, 1700, .inl (fun _ => 0)))] H := hP
  have hD : va_D A [(h0, .inr (11, [.null, .null, .int 0, .int 0, .int 0])), (q1, .inl (cA2, 1700, .inl (fun _ => 0)))] := hD
  have hK : va_K (dC, dI) cls [(cA2, .byte)] s := hK
  refine va_putF (D := (dC, dI)) (ci := 11) (v := .ref q1) (ty := .array .byte) (C := R_Ht) (T := F_Ht) (N := 5) hx hb (u_Ht hT) (fun _ h => h) t_Ht k_Ht n_Ht hown hK hP hD hS 0 rfl rfl 1 (by decide) (ux_T_at hT tw_428 rfl) (fun _ h9 => h9) rfl hin rfl (by decide +kernel) rfl rfl (Nat.le_of_ble_eq_true rfl) d_Ht_init_10 (fun H locs hP hD hS => ?_)
  have hP : va_P (dC, dI) cls [(h0, .inr (11, [.null, .ref q1, .int 0, .int 0, .int 0])), (q1, .inl (cA2, 1700, .inl (fun _ => 0)))] H := hP
  have hD : va_D A [(h0, .inr (11, [.null, .ref q1, .int 0, .int 0, .int 0])), (q1, .inl (cA2, 1700, .inl (fun _ => 0)))] := hD
  have hP := hP.sub (ws' := [(h0, .inr (11, [.null, .ref q1, .int 0, .int 0, .int 0]))]) [0] rfl
  have hD := hD.sub (ws' := [(h0, .inr (11, [.null, .ref q1, .int 0, .int 0, .int 0]))]) [0] (by decide) rfl
  refine lv_aload_n hx hb d_Ht_init_13 rfl (lv_at hl 0 rfl) ?_
  refine lv_aload_n hx hb d_Ht_init_14 rfl (lv_at hl 1 rfl) ?_
  refine va_putF (D := (dC, dI)) (ci := 11) (v := .ref st) (ty := .object "UnikernelHttp$Store") (C := R_Ht) (T := F_Ht) (N := 5) hx hb (u_Ht hT) (fun _ h => h) t_Ht k_Ht n_Ht hown hK hP hD hS 0 rfl rfl 0 (by decide) (ux_T_at hT tw_427 rfl) (fun _ h9 => h9) rfl hin rfl (by decide +kernel) rfl rfl (Nat.le_of_ble_eq_true rfl) d_Ht_init_15 (fun H locs hP hD hS => ?_)
  have hP : va_P (dC, dI) cls [(h0, .inr (11, [.ref st, .ref q1, .int 0, .int 0, .int 0]))] H := hP
  have hD : va_D A [(h0, .inr (11, [.ref st, .ref q1, .int 0, .int 0, .int 0]))] := hD
  have hP9 := hP.sub (ws' := [(h0, .inr (11, [.ref st, .ref q1, .int 0, .int 0, .int 0]))]) [0] rfl
  have hD9 := hD.sub (ws' := [(h0, .inr (11, [.ref st, .ref q1, .int 0, .int 0, .int 0]))]) [0] (by decide) rfl
  have hK9 := hK.sub (tys' := []) [] rfl
  refine W.widen (k := 1) (n := 1700) (Nat.le_of_ble_eq_true rfl) (Nat.le_of_ble_eq_true rfl) ?_
  exact W.vret hx hb hr (fun t ht hW => ⟨⟨(), rfl, trivial, q1, by rw [ht]; exact hP9, va_K.moved hW.alike hK9, hD9⟩, hS.F ht⟩) hS.2.2 d_Ht_init_18
