/-! Which words the rows behind use, by their places. -/
theorem d_La_law_33 : decode b_La_law 33 = .ok (.aload_n 0, 1) := by decide +kernel
theorem d_La_law_34 : decode b_La_law 34 = .ok (.iload 4, 2) := by decide +kernel
theorem d_La_law_36 : decode b_La_law 36 = .ok (.iaload, 1) := by decide +kernel
theorem d_La_law_37 : decode b_La_law 37 = .ok (.bipush 15, 2) := by decide +kernel
theorem d_La_law_39 : decode b_La_law 39 = .ok (.iand, 1) := by decide +kernel
theorem d_La_law_40 : decode b_La_law 40 = .ok (.tableswitch 711 0 9 #[56, 160, 216, 260, 316, 396, 452, 508, 575, 631], 56) := by decide +kernel
set_option maxHeartbeats 4000000 in
theorem ux_known {s : State} (hT : ux_T s) : ∃ (dC : Nat → ClassId) (dI : Nat → Nat → Nat), va_K (dC, dI) cls [] s := by
  obtain ⟨c0, i0, h0⟩ := u_known (args := #[]) (n := 14) (u_U hT) (fun _ h => h) (ux_T_at hT tw_35 rfl)
  obtain ⟨c1, i1, h1⟩ := u_known (args := #[]) (n := 5) (u_N hT) (fun _ h => h) (ux_T_at hT tw_43 rfl)
  obtain ⟨c2, i2, h2⟩ := u_known (args := #[]) (n := 5) (u_Wi hT) (fun _ h => h) (ux_T_at hT tw_70 rfl)
  obtain ⟨c3, i3, h3⟩ := u_known (args := #[]) (n := 2) (u_Gs hT) (fun _ h => h) (ux_T_at hT tw_96 rfl)
  obtain ⟨c4, i4, h4⟩ := u_known (args := #[]) (n := 9) (u_G hT) (fun _ h => h) (ux_T_at hT tw_103 rfl)
  obtain ⟨c5, i5, h5⟩ := u_known (args := #[]) (n := 12) (u_Sg hT) (fun _ h => h) (ux_T_at hT tw_151 rfl)
  obtain ⟨c6, i6, h6⟩ := u_known (args := #[]) (n := 5) (u_Tc hT) (fun _ h => h) (ux_T_at hT tw_215 rfl)
  obtain ⟨c7, i7, h7⟩ := u_known (args := #[]) (n := 17) (u_Co hT) (fun _ h => h) (ux_T_at hT tw_222 rfl)
  obtain ⟨c8, i8, h8⟩ := u_known (args := #[]) (n := 7) (u_In hT) (fun _ h => h) (ux_T_at hT tw_228 rfl)
  obtain ⟨c9, i9, h9⟩ := u_known (args := #[]) (n := 5) (u_Ou hT) (fun _ h => h) (ux_T_at hT tw_263 rfl)
  obtain ⟨c10, i10, h10⟩ := u_known (args := #[]) (n := 6) (u_So hT) (fun _ h => h) (ux_T_at hT tw_389 rfl)
  obtain ⟨c11, i11, h11⟩ := u_known (args := #[]) (n := 5) (u_Ht hT) (fun _ h => h) (ux_T_at hT tw_422 rfl)
  obtain ⟨c12, i12, h12⟩ := u_known (args := #[]) (n := 39) (u_Mo hT) (fun _ h => h) (ux_T_at hT tw_1479 rfl)
  obtain ⟨c13, i13, h13⟩ := u_known (args := #[]) (n := 32) (u_Pe hT) (fun _ h => h) (ux_T_at hT tw_1488 rfl)
  refine ⟨fun k => match k with | 0 => c0 | 1 => c1 | 2 => c2 | 3 => c3 | 4 => c4 | 5 => c5 | 6 => c6 | 7 => c7 | 8 => c8 | 9 => c9 | 10 => c10 | 11 => c11 | 12 => c12 | 13 => c13 | _ => c0, fun k => match k with | 0 => i0 | 1 => i1 | 2 => i2 | 3 => i3 | 4 => i4 | 5 => i5 | 6 => i6 | 7 => i7 | 8 => i8 | 9 => i9 | 10 => i10 | 11 => i11 | 12 => i12 | 13 => i13 | _ => i0, fun k r hr => ?_, fun k r hr => by simp at hr⟩
  match k, hr with
  | 0, hr => cases hr; exact h0
  | 1, hr => cases hr; exact h1
  | 2, hr => cases hr; exact h2
  | 3, hr => cases hr; exact h3
  | 4, hr => cases hr; exact h4
  | 5, hr => cases hr; exact h5
  | 6, hr => cases hr; exact h6
  | 7, hr => cases hr; exact h7
  | 8, hr => cases hr; exact h8
  | 9, hr => cases hr; exact h9
  | 10, hr => cases hr; exact h10
  | 11, hr => cases hr; exact h11
  | 12, hr => cases hr; exact h12
  | 13, hr => cases hr; exact h13
  | n + 14, hr => simp at hr
set_option maxHeartbeats 8000000 in
set_option maxRecDepth 100000 in
theorem whole_start {p : Program} {e : Env} {s : State} {m : MethodId} {below : List Frame} {meth : Method} {c : Code} (l : Launch) (hfl : l.flags = flags0) (hadm : l.admits e) {b L : Nat} {xs : Nat → Int32} (hL : L ≤ 6) (C0 : lw_At p s m meth c b L xs) : W p l e room_1 s m #[Value.ref b] below meth c s.heap [] 0 0 (lw_Z below #[Value.ref b] s) (entryFrame m ([Value.ref b] : List Value).toArray 8) := by
  obtain ⟨A, hAe⟩ : ∃ A : Nat → Prop, A = fun q => s.heap.size ≤ q := ⟨_, rfl⟩
  have hA : ∀ q, s.heap.size ≤ q → A q := fun q h => by rw [hAe]; exact h
  have hA2 : ∀ q, A q → s.heap.size ≤ q := fun q h => by rw [hAe] at h; exact h
  have hC0 := C0
  obtain ⟨hx, hb, hr, hml, hown, hts, hX, hbl, hlocks, hgv⟩ := C0
  have hown : s.vm.findClass "UnikernelHttpLaw" = some m.cls := hown
  have hbA : ¬ A b := fun h => absurd (hA2 b h) (by omega)
  have hfx : CallFix p m c b_La_law 8 s #[Value.ref b] [] "UnikernelHttpLaw" := ⟨hx, hb, hml, hown, fun _ h => by cases h⟩
  have hT : ux_T s := fun w hw hg => ux_warm (State.WarmedH.refl s) hg (hts w hw)
  have hfl4 := flat_of_before _ hgv
  have hH : ux_H s := by
    intro w hw A
    simp only [ux_W4, List.mem_cons, List.not_mem_nil, or_false] at hw
    rcases hw with rfl | rfl | rfl | rfl
    · exact ux_lay_move (State.WarmedH.refl s) (fun _ _ => rfl) (hts _ (ux_in 41 ux_t3 rfl))
    · exact ux_lay_move (State.WarmedH.refl s) (fun _ _ => rfl) (hts _ (ux_in 43 ux_t3 rfl))
    · exact ux_ref_move (State.WarmedH.refl s) (fun _ _ => rfl) (hfl4 _ (by decide +kernel))
    · exact ux_ref_move (State.WarmedH.refl s) (fun _ _ => rfl) (hfl4 _ (by decide +kernel))
  obtain ⟨dC, dI, hK⟩ := ux_known hT
  have hP : va_P (dC, dI) cls [] s.heap := ux_P0
  have hD : va_D A [] := ux_D0
  have hS : va_S A s.heap s.heap [] := va_S.rf
  have hl := lv_entry ([Value.ref b]) (n := 8) (Nat.le_of_ble_eq_true rfl)
  rw [lg_entry_eq]
  generalize (lg_sl ([Value.ref b]) ++ List.replicate (8 - (lg_sl ([Value.ref b])).length) Slot.unset).toArray = ls at hl ⊢
  have hl : lv_has ls 8 [(0, .ref b)] := hl
  refine va_new (ci := 0) (fs := [.null, .int 0, .int 0, .null, .null, .null, .null, .null, .null, .null, .null, .null, .int 0, .int 0]) (C := R_U) (T := F_U) (N := 14) hx hb (u_U hT) (fun _ h => h) t_U k_U hown (ux_T_at hT tw_34 rfl) (ux_T_at hT tw_35 rfl) (ux_T_at hT tw_1 rfl) hK hP hD hS hA rfl z_U (Nat.le_of_ble_eq_true rfl) (Nat.le_of_ble_eq_true rfl) d_La_law_0 (fun q1 H hP hD hS => ?_)
  have hP : va_P (dC, dI) cls [(q1, .inr (0, [.null, .int 0, .int 0, .null, .null, .null, .null, .null, .null, .null, .null, .null, .int 0, .int 0]))] H := hP
  have hD : va_D A [(q1, .inr (0, [.null, .int 0, .int 0, .null, .null, .null, .null, .null, .null, .null, .null, .null, .int 0, .int 0]))] := hD
  refine lv_dup hx hb d_La_law_3 rfl ?_
  have hhp : ∀ q, q < s.heap.size → H[q]? = s.heap[q]? := fun q hq => hS.2.1 q hq (fun h => absurd (hA2 q h) (by omega))
  have hPc := hP.sub (ws' := [(q1, .inr (0, [.null, .int 0, .int 0, .null, .null, .null, .null, .null, .null, .null, .null, .null, .int 0, .int 0]))]) [0] rfl
  have hDc := hD.sub (ws' := [(q1, .inr (0, [.null, .int 0, .int 0, .null, .null, .null, .null, .null, .null, .null, .null, .null, .int 0, .int 0]))]) [0] (by decide) rfl
  have hKc := hK.sub (tys' := []) [] rfl
  have hFc := va_free (wc := [(q1, .inr (0, [.null, .int 0, .int 0, .null, .null, .null, .null, .null, .null, .null, .null, .null, .int 0, .int 0]))]) hD hS hA [0] rfl
  have hkc : 1 + 148 ≤ 600002 := (Nat.le_of_ble_eq_true rfl)
  refine va_callv (va_runI (As := []) (rest := [.ref q1]) hfx (c_U_init l dC dI q1 H.size) ⟨(ux_cb 0 hT tw_38 tw_36 tw_1 rfl rfl (by decide +kernel) ⟨(Nat.le_of_ble_eq_true rfl), (Nat.le_of_ble_eq_true rfl)⟩), rfl, (ux_T_at hT tw_37 rfl)⟩ (ux_pre [.ref q1] hT hPc hKc hDc) rfl rfl hl.1 rfl (lv_room (Nat.le_of_ble_eq_true rfl)) d_La_law_4 ⟨(Nat.le_of_ble_eq_true rfl), (Nat.le_of_ble_eq_true rfl)⟩) hS (fun q _ h => hFc q h) hFc (fun u t H1 locs ht hvm hw hB hz1 hk1 hS => ?_)
  obtain ⟨q3, q4, q5, q6, q7, q8, q9, q10, q11, q12, q13, q14, q15, q16, q17, q18, q19, q20, q21, q22, q23, q24, cA25, hP1, hK1, hD1⟩ := hB
  rw [ht] at hP1
  have hK1 := va_K.moved hvm.symm hK1
  obtain ⟨hP, hD⟩ := va_join (wr := []) (w1 := [(q1, .inr (0, [.ref q3, .int 0, .int 0, .ref q4, .ref q5, .ref q6, .ref q7, .ref q8, .ref q9, .ref q10, .ref q11, .ref q3, .int 0, .int 0])), (q3, .inl (cA25, 2000, .inl (fun _ => 0))), (q4, .inr (1, [.ref q12, .ref q13, .ref q14, .int 0, .int 0])), (q5, .inr (2, [.ref q4, .ref q15, .ref q16, .int 0, .int 0])), (q6, .inr (3, [.ref q17, .int 0])), (q8, .inr (6, [.ref q18, .ref q19, .ref q5, .int 0, .int 0])), (q9, .inr (10, [.ref q20, .ref q21, .ref q22, .ref q23, .ref q24, .int 0]))]) hP hD [0] [] rfl rfl (by decide) (by decide) hk1 hFc hP1 hD1
  have hK := (hK.sub (tys' := []) [] rfl).app hK1
  generalize H1 = H at hP hS ⊢
  have hP : va_P (dC, dI) cls [(q1, .inr (0, [.ref q3, .int 0, .int 0, .ref q4, .ref q5, .ref q6, .ref q7, .ref q8, .ref q9, .ref q10, .ref q11, .ref q3, .int 0, .int 0])), (q3, .inl (cA25, 2000, .inl (fun _ => 0))), (q4, .inr (1, [.ref q12, .ref q13, .ref q14, .int 0, .int 0])), (q5, .inr (2, [.ref q4, .ref q15, .ref q16, .int 0, .int 0])), (q6, .inr (3, [.ref q17, .int 0])), (q8, .inr (6, [.ref q18, .ref q19, .ref q5, .int 0, .int 0])), (q9, .inr (10, [.ref q20, .ref q21, .ref q22, .ref q23, .ref q24, .int 0]))] H := hP
  have hD : va_D A [(q1, .inr (0, [.ref q3, .int 0, .int 0, .ref q4, .ref q5, .ref q6, .ref q7, .ref q8, .ref q9, .ref q10, .ref q11, .ref q3, .int 0, .int 0])), (q3, .inl (cA25, 2000, .inl (fun _ => 0))), (q4, .inr (1, [.ref q12, .ref q13, .ref q14, .int 0, .int 0])), (q5, .inr (2, [.ref q4, .ref q15, .ref q16, .int 0, .int 0])), (q6, .inr (3, [.ref q17, .int 0])), (q8, .inr (6, [.ref q18, .ref q19, .ref q5, .int 0, .int 0])), (q9, .inr (10, [.ref q20, .ref q21, .ref q22, .ref q23, .ref q24, .int 0]))] := hD
  have hK : va_K (dC, dI) cls [(cA25, .byte)] s := hK
  refine lv_astore_n hx hb d_La_law_7 rfl hl (by decide) rfl (fun ls hl => ?_)
  have hl : lv_has ls 8 [(1, .ref q1), (0, .ref b)] := hl
  refine va_new (ci := 12) (fs := [.null, .null, .null, .int 0, .int 0, .int 0, .int 0, .int 0, .null, .null, .null, .null, .null, .int 0, .int 0, .null, .null, .null, .null, .null, .null, .null, .null, .int 0, .int 0, .null, .null, .null, .null, .null, .int 0, .null, .int 0, .int 0, .int 0, .int 0, .null, .int 0, .int 0]) (C := R_Mo) (T := F_Mo) (N := 39) hx hb (u_Mo hT) (fun _ h => h) t_Mo k_Mo hown (ux_T_at hT tw_1478 rfl) (ux_T_at hT tw_1479 rfl) (ux_T_at hT tw_13 rfl) hK hP hD hS hA rfl z_Mo (Nat.le_of_ble_eq_true rfl) (Nat.le_of_ble_eq_true rfl) d_La_law_8 (fun q27 H hP hD hS => ?_)
  have hP : va_P (dC, dI) cls [(q1, .inr (0, [.ref q3, .int 0, .int 0, .ref q4, .ref q5, .ref q6, .ref q7, .ref q8, .ref q9, .ref q10, .ref q11, .ref q3, .int 0, .int 0])), (q3, .inl (cA25, 2000, .inl (fun _ => 0))), (q4, .inr (1, [.ref q12, .ref q13, .ref q14, .int 0, .int 0])), (q5, .inr (2, [.ref q4, .ref q15, .ref q16, .int 0, .int 0])), (q6, .inr (3, [.ref q17, .int 0])), (q8, .inr (6, [.ref q18, .ref q19, .ref q5, .int 0, .int 0])), (q9, .inr (10, [.ref q20, .ref q21, .ref q22, .ref q23, .ref q24, .int 0])), (q27, .inr (12, [.null, .null, .null, .int 0, .int 0, .int 0, .int 0, .int 0, .null, .null, .null, .null, .null, .int 0, .int 0, .null, .null, .null, .null, .null, .null, .null, .null, .int 0, .int 0, .null, .null, .null, .null, .null, .int 0, .null, .int 0, .int 0, .int 0, .int 0, .null, .int 0, .int 0]))] H := hP
  have hD : va_D A [(q1, .inr (0, [.ref q3, .int 0, .int 0, .ref q4, .ref q5, .ref q6, .ref q7, .ref q8, .ref q9, .ref q10, .ref q11, .ref q3, .int 0, .int 0])), (q3, .inl (cA25, 2000, .inl (fun _ => 0))), (q4, .inr (1, [.ref q12, .ref q13, .ref q14, .int 0, .int 0])), (q5, .inr (2, [.ref q4, .ref q15, .ref q16, .int 0, .int 0])), (q6, .inr (3, [.ref q17, .int 0])), (q8, .inr (6, [.ref q18, .ref q19, .ref q5, .int 0, .int 0])), (q9, .inr (10, [.ref q20, .ref q21, .ref q22, .ref q23, .ref q24, .int 0])), (q27, .inr (12, [.null, .null, .null, .int 0, .int 0, .int 0, .int 0, .int 0, .null, .null, .null, .null, .null, .int 0, .int 0, .null, .null, .null, .null, .null, .null, .null, .null, .int 0, .int 0, .null, .null, .null, .null, .null, .int 0, .null, .int 0, .int 0, .int 0, .int 0, .null, .int 0, .int 0]))] := hD
  refine lv_dup hx hb d_La_law_11 rfl ?_
  have hhp : ∀ q, q < s.heap.size → H[q]? = s.heap[q]? := fun q hq => hS.2.1 q hq (fun h => absurd (hA2 q h) (by omega))
  have hPc := hP.sub (ws' := [(q27, .inr (12, [.null, .null, .null, .int 0, .int 0, .int 0, .int 0, .int 0, .null, .null, .null, .null, .null, .int 0, .int 0, .null, .null, .null, .null, .null, .null, .null, .null, .int 0, .int 0, .null, .null, .null, .null, .null, .int 0, .null, .int 0, .int 0, .int 0, .int 0, .null, .int 0, .int 0]))]) [7] rfl
  have hDc := hD.sub (ws' := [(q27, .inr (12, [.null, .null, .null, .int 0, .int 0, .int 0, .int 0, .int 0, .null, .null, .null, .null, .null, .int 0, .int 0, .null, .null, .null, .null, .null, .null, .null, .null, .int 0, .int 0, .null, .null, .null, .null, .null, .int 0, .null, .int 0, .int 0, .int 0, .int 0, .null, .int 0, .int 0]))]) [7] (by decide) rfl
  have hKc := hK.sub (tys' := []) [] rfl
  have hFc := va_free (wc := [(q27, .inr (12, [.null, .null, .null, .int 0, .int 0, .int 0, .int 0, .int 0, .null, .null, .null, .null, .null, .int 0, .int 0, .null, .null, .null, .null, .null, .null, .null, .null, .int 0, .int 0, .null, .null, .null, .null, .null, .int 0, .null, .int 0, .int 0, .int 0, .int 0, .null, .int 0, .int 0]))]) hD hS hA [7] rfl
  have hkc : 150 + 68 ≤ 600002 := (Nat.le_of_ble_eq_true rfl)
  refine va_callv (va_runI (As := []) (rest := [.ref q27]) hfx (c_Mo_init l dC dI q27 H.size) ⟨(ux_cb 0 hT tw_1482 tw_1480 tw_13 rfl rfl (by decide +kernel) ⟨(Nat.le_of_ble_eq_true rfl), (Nat.le_of_ble_eq_true rfl)⟩), rfl, (ux_T_at hT tw_1481 rfl)⟩ (ux_pre [.ref q27] hT hPc hKc hDc) rfl rfl hl.1 rfl (lv_room (Nat.le_of_ble_eq_true rfl)) d_La_law_12 ⟨(Nat.le_of_ble_eq_true rfl), (Nat.le_of_ble_eq_true rfl)⟩) hS (fun q _ h => hFc q h) hFc (fun u t H1 locs ht hvm hw hB hz1 hk1 hS => ?_)
  obtain ⟨q29, q30, q31, q32, q33, q34, q35, q36, q37, q38, q39, q40, q41, q42, q43, q44, q45, q46, q47, q48, q49, q50, q51, cA52, cA53, hP1, hK1, hD1⟩ := hB
  rw [ht] at hP1
  have hK1 := va_K.moved hvm.symm hK1
  obtain ⟨hP, hD⟩ := va_join (wr := [(q1, .inr (0, [.ref q3, .int 0, .int 0, .ref q4, .ref q5, .ref q6, .ref q7, .ref q8, .ref q9, .ref q10, .ref q11, .ref q3, .int 0, .int 0])), (q3, .inl (cA25, 2000, .inl (fun _ => 0))), (q4, .inr (1, [.ref q12, .ref q13, .ref q14, .int 0, .int 0])), (q5, .inr (2, [.ref q4, .ref q15, .ref q16, .int 0, .int 0])), (q6, .inr (3, [.ref q17, .int 0])), (q8, .inr (6, [.ref q18, .ref q19, .ref q5, .int 0, .int 0])), (q9, .inr (10, [.ref q20, .ref q21, .ref q22, .ref q23, .ref q24, .int 0]))]) (w1 := [(q27, .inr (12, [.ref q29, .ref q30, .ref q31, .int 0, .int 0, .int 0, .int 0, .int 0, .ref q32, .ref q33, .ref q34, .ref q35, .ref q36, .int 0, .int 0, .ref q37, .ref q38, .ref q39, .ref q40, .ref q41, .ref q42, .ref q43, .ref q44, .int 0, .int 0, .ref q45, .ref q46, .ref q47, .ref q48, .ref q49, .int 0, .ref q50, .int 0, .int 0, .int 0, .int 0, .ref q51, .int 0, .int 0])), (q29, .inl (cA52, 2000, .inl (fun _ => 0))), (q30, .inl (cA53, 5718, .inl (fun _ => 0)))]) hP hD [7] [0, 1, 2, 3, 4, 5, 6] rfl rfl (by decide) (by decide) hk1 hFc hP1 hD1
  have hK := (hK.sub (tys' := [(cA25, .byte)]) [0] rfl).app hK1
  generalize H1 = H at hP hS ⊢
  have hP : va_P (dC, dI) cls [(q1, .inr (0, [.ref q3, .int 0, .int 0, .ref q4, .ref q5, .ref q6, .ref q7, .ref q8, .ref q9, .ref q10, .ref q11, .ref q3, .int 0, .int 0])), (q3, .inl (cA25, 2000, .inl (fun _ => 0))), (q4, .inr (1, [.ref q12, .ref q13, .ref q14, .int 0, .int 0])), (q5, .inr (2, [.ref q4, .ref q15, .ref q16, .int 0, .int 0])), (q6, .inr (3, [.ref q17, .int 0])), (q8, .inr (6, [.ref q18, .ref q19, .ref q5, .int 0, .int 0])), (q9, .inr (10, [.ref q20, .ref q21, .ref q22, .ref q23, .ref q24, .int 0])), (q27, .inr (12, [.ref q29, .ref q30, .ref q31, .int 0, .int 0, .int 0, .int 0, .int 0, .ref q32, .ref q33, .ref q34, .ref q35, .ref q36, .int 0, .int 0, .ref q37, .ref q38, .ref q39, .ref q40, .ref q41, .ref q42, .ref q43, .ref q44, .int 0, .int 0, .ref q45, .ref q46, .ref q47, .ref q48, .ref q49, .int 0, .ref q50, .int 0, .int 0, .int 0, .int 0, .ref q51, .int 0, .int 0])), (q29, .inl (cA52, 2000, .inl (fun _ => 0))), (q30, .inl (cA53, 5718, .inl (fun _ => 0)))] H := hP
  have hD : va_D A [(q1, .inr (0, [.ref q3, .int 0, .int 0, .ref q4, .ref q5, .ref q6, .ref q7, .ref q8, .ref q9, .ref q10, .ref q11, .ref q3, .int 0, .int 0])), (q3, .inl (cA25, 2000, .inl (fun _ => 0))), (q4, .inr (1, [.ref q12, .ref q13, .ref q14, .int 0, .int 0])), (q5, .inr (2, [.ref q4, .ref q15, .ref q16, .int 0, .int 0])), (q6, .inr (3, [.ref q17, .int 0])), (q8, .inr (6, [.ref q18, .ref q19, .ref q5, .int 0, .int 0])), (q9, .inr (10, [.ref q20, .ref q21, .ref q22, .ref q23, .ref q24, .int 0])), (q27, .inr (12, [.ref q29, .ref q30, .ref q31, .int 0, .int 0, .int 0, .int 0, .int 0, .ref q32, .ref q33, .ref q34, .ref q35, .ref q36, .int 0, .int 0, .ref q37, .ref q38, .ref q39, .ref q40, .ref q41, .ref q42, .ref q43, .ref q44, .int 0, .int 0, .ref q45, .ref q46, .ref q47, .ref q48, .ref q49, .int 0, .ref q50, .int 0, .int 0, .int 0, .int 0, .ref q51, .int 0, .int 0])), (q29, .inl (cA52, 2000, .inl (fun _ => 0))), (q30, .inl (cA53, 5718, .inl (fun _ => 0)))] := hD
  have hK : va_K (dC, dI) cls [(cA25, .byte), (cA52, .byte), (cA53, .byte)] s := hK
  refine lv_astore_n hx hb d_La_law_15 rfl hl (by decide) rfl (fun ls hl => ?_)
  have hl : lv_has ls 8 [(2, .ref q27), (1, .ref q1), (0, .ref b)] := hl
  refine lv_iconst (v := 1) hx hb d_La_law_16 (by decide) ?_
  refine va_newa (atype := .long) (ty := .long) (N' := 1) (a0 := (1, .inr (.inl (fun _ => 0)))) hx hb (ux_T_at hT tw_68 rfl) rfl hK hP hD hS hA (fun _ => rfl) (by decide) (by decide +kernel) (by decide +kernel) (Nat.le_of_ble_eq_true rfl) (Nat.le_of_ble_eq_true rfl) d_La_law_17 (fun q54 cA55 H hK hP hD hS => ?_)
  have hP : va_P (dC, dI) cls [(q1, .inr (0, [.ref q3, .int 0, .int 0, .ref q4, .ref q5, .ref q6, .ref q7, .ref q8, .ref q9, .ref q10, .ref q11, .ref q3, .int 0, .int 0])), (q3, .inl (cA25, 2000, .inl (fun _ => 0))), (q4, .inr (1, [.ref q12, .ref q13, .ref q14, .int 0, .int 0])), (q5, .inr (2, [.ref q4, .ref q15, .ref q16, .int 0, .int 0])), (q6, .inr (3, [.ref q17, .int 0])), (q8, .inr (6, [.ref q18, .ref q19, .ref q5, .int 0, .int 0])), (q9, .inr (10, [.ref q20, .ref q21, .ref q22, .ref q23, .ref q24, .int 0])), (q27, .inr (12, [.ref q29, .ref q30, .ref q31, .int 0, .int 0, .int 0, .int 0, .int 0, .ref q32, .ref q33, .ref q34, .ref q35, .ref q36, .int 0, .int 0, .ref q37, .ref q38, .ref q39, .ref q40, .ref q41, .ref q42, .ref q43, .ref q44, .int 0, .int 0, .ref q45, .ref q46, .ref q47, .ref q48, .ref q49, .int 0, .ref q50, .int 0, .int 0, .int 0, .int 0, .ref q51, .int 0, .int 0])), (q29, .inl (cA52, 2000, .inl (fun _ => 0))), (q30, .inl (cA53, 5718, .inl (fun _ => 0))), (q54, .inl (cA55, 1, .inr (.inl (fun _ => 0))))] H := hP
  have hD : va_D A [(q1, .inr (0, [.ref q3, .int 0, .int 0, .ref q4, .ref q5, .ref q6, .ref q7, .ref q8, .ref q9, .ref q10, .ref q11, .ref q3, .int 0, .int 0])), (q3, .inl (cA25, 2000, .inl (fun _ => 0))), (q4, .inr (1, [.ref q12, .ref q13, .ref q14, .int 0, .int 0])), (q5, .inr (2, [.ref q4, .ref q15, .ref q16, .int 0, .int 0])), (q6, .inr (3, [.ref q17, .int 0])), (q8, .inr (6, [.ref q18, .ref q19, .ref q5, .int 0, .int 0])), (q9, .inr (10, [.ref q20, .ref q21, .ref q22, .ref q23, .ref q24, .int 0])), (q27, .inr (12, [.ref q29, .ref q30, .ref q31, .int 0, .int 0, .int 0, .int 0, .int 0, .ref q32, .ref q33, .ref q34, .ref q35, .ref q36, .int 0, .int 0, .ref q37, .ref q38, .ref q39, .ref q40, .ref q41, .ref q42, .ref q43, .ref q44, .int 0, .int 0, .ref q45, .ref q46, .ref q47, .ref q48, .ref q49, .int 0, .ref q50, .int 0, .int 0, .int 0, .int 0, .ref q51, .int 0, .int 0])), (q29, .inl (cA52, 2000, .inl (fun _ => 0))), (q30, .inl (cA53, 5718, .inl (fun _ => 0))), (q54, .inl (cA55, 1, .inr (.inl (fun _ => 0))))] := hD
  have hK : va_K (dC, dI) cls [(cA25, .byte), (cA52, .byte), (cA53, .byte), (cA55, .long)] s := hK
  refine lv_astore_n hx hb d_La_law_19 rfl hl (by decide) rfl (fun ls hl => ?_)
  have hl : lv_has ls 8 [(3, .ref q54), (2, .ref q27), (1, .ref q1), (0, .ref b)] := hl
  refine lv_iconst (v := 0) hx hb d_La_law_20 (by decide) ?_
  refine lv_istore hx hb d_La_law_21 hl (by decide) rfl (fun ls hl => ?_)
  have hl : lv_has ls 8 [(4, .int 0), (3, .ref q54), (2, .ref q27), (1, .ref q1), (0, .ref b)] := hl
  refine lv_iload hx hb d_La_law_23 (lv_at hl 0 rfl) ?_
  refine lv_aload_n hx hb d_La_law_25 rfl (lv_at hl 4 rfl) ?_
  rcases (show L = 0 ∨ L = 1 ∨ L = 2 ∨ L = 3 ∨ L = 4 ∨ L = 5 ∨ L = 6 by omega) with rfl | rfl | rfl | rfl | rfl | rfl | rfl
  · refine va_slen hx hb hX hbl hbA hS d_La_law_26 ?_
    refine lv_topi (fun x501 ex501 => ?_)
    obtain rfl : x501 = 0 := ex501.trans (by decide)
    refine lv_bipush (v := 6) hx hb d_La_law_27 (by decide) ?_
    refine lv_isub hx hb d_La_law_29 ?_
    refine lv_topi (fun x502 ex502 => ?_)
    obtain rfl : x502 = (-6) := ex502.trans (by decide)
    refine lv_icmp_gt (tgt := 757) hx hb d_La_law_30 (by decide) (fun _ => ?_) (fun hc => absurd (by decide) hc)
    refine lv_iconst (v := 1) hx hb d_La_law_757 (by decide) ?_
    refine va_forget (fun q h => hA2 _ (hS.2.2 q h)) ?_
    refine W.widen (k := 600002) (n := 7302232) (Nat.le_of_ble_eq_true rfl) (Nat.le_of_ble_eq_true rfl) ?_
    exact lw_ret hx hb hr hlocks d_La_law_758
  · refine va_slen hx hb hX hbl hbA hS d_La_law_26 ?_
    refine lv_topi (fun x503 ex503 => ?_)
    obtain rfl : x503 = 1 := ex503.trans (by decide)
    refine lv_bipush (v := 6) hx hb d_La_law_27 (by decide) ?_
    refine lv_isub hx hb d_La_law_29 ?_
    refine lv_topi (fun x504 ex504 => ?_)
    obtain rfl : x504 = (-5) := ex504.trans (by decide)
    refine lv_icmp_gt (tgt := 757) hx hb d_La_law_30 (by decide) (fun _ => ?_) (fun hc => absurd (by decide) hc)
    refine lv_iconst (v := 1) hx hb d_La_law_757 (by decide) ?_
    refine va_forget (fun q h => hA2 _ (hS.2.2 q h)) ?_
    refine W.widen (k := 600002) (n := 7302232) (Nat.le_of_ble_eq_true rfl) (Nat.le_of_ble_eq_true rfl) ?_
    exact lw_ret hx hb hr hlocks d_La_law_758
  · refine va_slen hx hb hX hbl hbA hS d_La_law_26 ?_
    refine lv_topi (fun x505 ex505 => ?_)
    obtain rfl : x505 = 2 := ex505.trans (by decide)
    refine lv_bipush (v := 6) hx hb d_La_law_27 (by decide) ?_
    refine lv_isub hx hb d_La_law_29 ?_
    refine lv_topi (fun x506 ex506 => ?_)
    obtain rfl : x506 = (-4) := ex506.trans (by decide)
    refine lv_icmp_gt (tgt := 757) hx hb d_La_law_30 (by decide) (fun _ => ?_) (fun hc => absurd (by decide) hc)
    refine lv_iconst (v := 1) hx hb d_La_law_757 (by decide) ?_
    refine va_forget (fun q h => hA2 _ (hS.2.2 q h)) ?_
    refine W.widen (k := 600002) (n := 7302232) (Nat.le_of_ble_eq_true rfl) (Nat.le_of_ble_eq_true rfl) ?_
    exact lw_ret hx hb hr hlocks d_La_law_758
  · refine va_slen hx hb hX hbl hbA hS d_La_law_26 ?_
    refine lv_topi (fun x507 ex507 => ?_)
    obtain rfl : x507 = 3 := ex507.trans (by decide)
    refine lv_bipush (v := 6) hx hb d_La_law_27 (by decide) ?_
    refine lv_isub hx hb d_La_law_29 ?_
    refine lv_topi (fun x508 ex508 => ?_)
    obtain rfl : x508 = (-3) := ex508.trans (by decide)
    refine lv_icmp_gt (tgt := 757) hx hb d_La_law_30 (by decide) (fun _ => ?_) (fun hc => absurd (by decide) hc)
    refine lv_iconst (v := 1) hx hb d_La_law_757 (by decide) ?_
    refine va_forget (fun q h => hA2 _ (hS.2.2 q h)) ?_
    refine W.widen (k := 600002) (n := 7302232) (Nat.le_of_ble_eq_true rfl) (Nat.le_of_ble_eq_true rfl) ?_
    exact lw_ret hx hb hr hlocks d_La_law_758
  · refine va_slen hx hb hX hbl hbA hS d_La_law_26 ?_
    refine lv_topi (fun x509 ex509 => ?_)
    obtain rfl : x509 = 4 := ex509.trans (by decide)
    refine lv_bipush (v := 6) hx hb d_La_law_27 (by decide) ?_
    refine lv_isub hx hb d_La_law_29 ?_
    refine lv_topi (fun x510 ex510 => ?_)
    obtain rfl : x510 = (-2) := ex510.trans (by decide)
    refine lv_icmp_gt (tgt := 757) hx hb d_La_law_30 (by decide) (fun _ => ?_) (fun hc => absurd (by decide) hc)
    refine lv_iconst (v := 1) hx hb d_La_law_757 (by decide) ?_
    refine va_forget (fun q h => hA2 _ (hS.2.2 q h)) ?_
    refine W.widen (k := 600002) (n := 7302232) (Nat.le_of_ble_eq_true rfl) (Nat.le_of_ble_eq_true rfl) ?_
    exact lw_ret hx hb hr hlocks d_La_law_758
  · refine va_slen hx hb hX hbl hbA hS d_La_law_26 ?_
    refine lv_topi (fun x511 ex511 => ?_)
    obtain rfl : x511 = 5 := ex511.trans (by decide)
    refine lv_bipush (v := 6) hx hb d_La_law_27 (by decide) ?_
    refine lv_isub hx hb d_La_law_29 ?_
    refine lv_topi (fun x512 ex512 => ?_)
    obtain rfl : x512 = (-1) := ex512.trans (by decide)
    refine lv_icmp_gt (tgt := 757) hx hb d_La_law_30 (by decide) (fun _ => ?_) (fun hc => absurd (by decide) hc)
    refine lv_iconst (v := 1) hx hb d_La_law_757 (by decide) ?_
    refine va_forget (fun q h => hA2 _ (hS.2.2 q h)) ?_
    refine W.widen (k := 600002) (n := 7302232) (Nat.le_of_ble_eq_true rfl) (Nat.le_of_ble_eq_true rfl) ?_
    exact lw_ret hx hb hr hlocks d_La_law_758
  · obtain ⟨v0, hv0⟩ : ∃ v, xs (0 : Int32).toNatClampNeg = v := ⟨_, rfl⟩
    refine va_slen hx hb hX hbl hbA hS d_La_law_26 ?_
    refine lv_topi (fun x513 ex513 => ?_)
    obtain rfl : x513 = 6 := ex513.trans (by decide)
    refine lv_bipush (v := 6) hx hb d_La_law_27 (by decide) ?_
    refine lv_isub hx hb d_La_law_29 ?_
    refine lv_topi (fun x514 ex514 => ?_)
    obtain rfl : x514 = 0 := ex514.trans (by decide)
    refine lv_icmp_gt (tgt := 757) hx hb d_La_law_30 (by decide) (fun hc => absurd hc (by decide)) (fun _ => ?_)
    refine lv_aload_n hx hb d_La_law_33 rfl (lv_at hl 4 rfl) ?_
    refine lv_iload hx hb d_La_law_34 (lv_at hl 0 rfl) ?_
    refine va_sld hx hb hX hbl hbA hS (i := 0) (show ¬ ((0 : Int32) < 0 ∨ 6 ≤ (0 : Int32).toNatClampNeg) by decide) d_La_law_36 ?_
    refine lv_topi (fun x515 ex515 => ?_)
    obtain rfl : v0 = x515 := (ex515.trans hv0).symm
    refine lv_bipush (v := 15) hx hb d_La_law_37 (by decide) ?_
    refine lv_iand hx hb d_La_law_39 ?_
    refine lv_topi (fun x516 ex516 => ?_)
    obtain ⟨j, hj, ej⟩ := pk_andE v0 (m := 15) 4 (by decide)
    rcases (show j = 0 ∨ j = 1 ∨ j = 2 ∨ j = 3 ∨ j = 4 ∨ j = 5 ∨ j = 6 ∨ j = 7 ∨ j = 8 ∨ j = 9 ∨ j = 10 ∨ j = 11 ∨ j = 12 ∨ j = 13 ∨ j = 14 ∨ j = 15 by omega) with rfl | rfl | rfl | rfl | rfl | rfl | rfl | rfl | rfl | rfl | rfl | rfl | rfl | rfl | rfl | rfl
    · obtain rfl : x516 = 0 := (ex516.trans ej).trans (by decide)
      refine lv_tableIn (tgt := 96) hx hb d_La_law_40 (by decide) (by decide) rfl (by decide) ?_
      refine W.widen (k := 219) (n := 543617) (Nat.le_of_ble_eq_true rfl) (Nat.le_of_ble_eq_true rfl) ?_
      exact law_0 l hfl hA hA2 hC0 hT hH dC dI q1 q3 q4 q5 q6 q7 q8 q9 q10 q11 q12 q13 q14 q15 q16 q17 q18 q19 q20 q21 q22 q23 q24 q27 q29 q30 q31 q32 q33 q34 q35 q36 q37 q38 q39 q40 q41 q42 q43 q44 q45 q46 q47 q48 q49 q50 q51 q54 cA25 cA52 cA53 cA55 hK hP hD hS hl
    · obtain rfl : x516 = 1 := (ex516.trans ej).trans (by decide)
      refine lv_tableIn (tgt := 200) hx hb d_La_law_40 (by decide) (by decide) rfl (by decide) ?_
      refine W.widen (k := 219) (n := 543617) (Nat.le_of_ble_eq_true rfl) (Nat.le_of_ble_eq_true rfl) ?_
      exact law_1 l hfl hA hA2 hC0 hT hH dC dI q1 q3 q4 q5 q6 q7 q8 q9 q10 q11 q12 q13 q14 q15 q16 q17 q18 q19 q20 q21 q22 q23 q24 q27 q29 q30 q31 q32 q33 q34 q35 q36 q37 q38 q39 q40 q41 q42 q43 q44 q45 q46 q47 q48 q49 q50 q51 q54 cA25 cA52 cA53 cA55 hK hP hD hS hl
    · obtain rfl : x516 = 2 := (ex516.trans ej).trans (by decide)
      refine lv_tableIn (tgt := 256) hx hb d_La_law_40 (by decide) (by decide) rfl (by decide) ?_
      refine W.widen (k := 219) (n := 543617) (Nat.le_of_ble_eq_true rfl) (Nat.le_of_ble_eq_true rfl) ?_
      exact law_2 l hfl hA hA2 hC0 hT hH dC dI q1 q3 q4 q5 q6 q7 q8 q9 q10 q11 q12 q13 q14 q15 q16 q17 q18 q19 q20 q21 q22 q23 q24 q27 q29 q30 q31 q32 q33 q34 q35 q36 q37 q38 q39 q40 q41 q42 q43 q44 q45 q46 q47 q48 q49 q50 q51 q54 cA25 cA52 cA53 cA55 hK hP hD hS hl
    · obtain rfl : x516 = 3 := (ex516.trans ej).trans (by decide)
      refine lv_tableIn (tgt := 300) hx hb d_La_law_40 (by decide) (by decide) rfl (by decide) ?_
      refine W.widen (k := 219) (n := 543617) (Nat.le_of_ble_eq_true rfl) (Nat.le_of_ble_eq_true rfl) ?_
      exact law_3 l hfl hA hA2 hC0 hT hH dC dI q1 q3 q4 q5 q6 q7 q8 q9 q10 q11 q12 q13 q14 q15 q16 q17 q18 q19 q20 q21 q22 q23 q24 q27 q29 q30 q31 q32 q33 q34 q35 q36 q37 q38 q39 q40 q41 q42 q43 q44 q45 q46 q47 q48 q49 q50 q51 q54 cA25 cA52 cA53 cA55 hK hP hD hS hl
    · obtain rfl : x516 = 4 := (ex516.trans ej).trans (by decide)
      refine lv_tableIn (tgt := 356) hx hb d_La_law_40 (by decide) (by decide) rfl (by decide) ?_
      refine W.widen (k := 219) (n := 543617) (Nat.le_of_ble_eq_true rfl) (Nat.le_of_ble_eq_true rfl) ?_
      exact law_4 l hfl hA hA2 hC0 hT hH dC dI q1 q3 q4 q5 q6 q7 q8 q9 q10 q11 q12 q13 q14 q15 q16 q17 q18 q19 q20 q21 q22 q23 q24 q27 q29 q30 q31 q32 q33 q34 q35 q36 q37 q38 q39 q40 q41 q42 q43 q44 q45 q46 q47 q48 q49 q50 q51 q54 cA25 cA52 cA53 cA55 hK hP hD hS hl
    · obtain rfl : x516 = 5 := (ex516.trans ej).trans (by decide)
      refine lv_tableIn (tgt := 436) hx hb d_La_law_40 (by decide) (by decide) rfl (by decide) ?_
      refine W.widen (k := 219) (n := 543617) (Nat.le_of_ble_eq_true rfl) (Nat.le_of_ble_eq_true rfl) ?_
      exact law_5 l hfl hA hA2 hC0 hT hH dC dI q1 q3 q4 q5 q6 q7 q8 q9 q10 q11 q12 q13 q14 q15 q16 q17 q18 q19 q20 q21 q22 q23 q24 q27 q29 q30 q31 q32 q33 q34 q35 q36 q37 q38 q39 q40 q41 q42 q43 q44 q45 q46 q47 q48 q49 q50 q51 q54 cA25 cA52 cA53 cA55 hK hP hD hS hl
    · obtain rfl : x516 = 6 := (ex516.trans ej).trans (by decide)
      refine lv_tableIn (tgt := 492) hx hb d_La_law_40 (by decide) (by decide) rfl (by decide) ?_
      refine W.widen (k := 219) (n := 543617) (Nat.le_of_ble_eq_true rfl) (Nat.le_of_ble_eq_true rfl) ?_
      exact law_6 l hfl hA hA2 hC0 hT hH dC dI q1 q3 q4 q5 q6 q7 q8 q9 q10 q11 q12 q13 q14 q15 q16 q17 q18 q19 q20 q21 q22 q23 q24 q27 q29 q30 q31 q32 q33 q34 q35 q36 q37 q38 q39 q40 q41 q42 q43 q44 q45 q46 q47 q48 q49 q50 q51 q54 cA25 cA52 cA53 cA55 hK hP hD hS hl
    · obtain rfl : x516 = 7 := (ex516.trans ej).trans (by decide)
      refine lv_tableIn (tgt := 548) hx hb d_La_law_40 (by decide) (by decide) rfl (by decide) ?_
      refine W.widen (k := 219) (n := 543617) (Nat.le_of_ble_eq_true rfl) (Nat.le_of_ble_eq_true rfl) ?_
      exact law_7 l hfl hA hA2 hC0 hT hH dC dI q1 q3 q4 q5 q6 q7 q8 q9 q10 q11 q12 q13 q14 q15 q16 q17 q18 q19 q20 q21 q22 q23 q24 q27 q29 q30 q31 q32 q33 q34 q35 q36 q37 q38 q39 q40 q41 q42 q43 q44 q45 q46 q47 q48 q49 q50 q51 q54 cA25 cA52 cA53 cA55 hK hP hD hS hl
    · obtain rfl : x516 = 8 := (ex516.trans ej).trans (by decide)
      refine lv_tableIn (tgt := 615) hx hb d_La_law_40 (by decide) (by decide) rfl (by decide) ?_
      refine W.widen (k := 219) (n := 543617) (Nat.le_of_ble_eq_true rfl) (Nat.le_of_ble_eq_true rfl) ?_
      exact law_8 l hfl hA hA2 hC0 hT hH dC dI q1 q3 q4 q5 q6 q7 q8 q9 q10 q11 q12 q13 q14 q15 q16 q17 q18 q19 q20 q21 q22 q23 q24 q27 q29 q30 q31 q32 q33 q34 q35 q36 q37 q38 q39 q40 q41 q42 q43 q44 q45 q46 q47 q48 q49 q50 q51 q54 cA25 cA52 cA53 cA55 hK hP hD hS hl
    · obtain rfl : x516 = 9 := (ex516.trans ej).trans (by decide)
      refine lv_tableIn (tgt := 671) hx hb d_La_law_40 (by decide) (by decide) rfl (by decide) ?_
      refine W.widen (k := 219) (n := 543617) (Nat.le_of_ble_eq_true rfl) (Nat.le_of_ble_eq_true rfl) ?_
      exact law_9 l hfl hA hA2 hC0 hT hH dC dI q1 q3 q4 q5 q6 q7 q8 q9 q10 q11 q12 q13 q14 q15 q16 q17 q18 q19 q20 q21 q22 q23 q24 q27 q29 q30 q31 q32 q33 q34 q35 q36 q37 q38 q39 q40 q41 q42 q43 q44 q45 q46 q47 q48 q49 q50 q51 q54 cA25 cA52 cA53 cA55 hK hP hD hS hl
    · obtain rfl : x516 = 10 := (ex516.trans ej).trans (by decide)
      refine lv_tableOut (tgt := 751) hx hb d_La_law_40 (by decide) (by decide) ?_
      exact law_end l hA2 hC0 (Nat.le_of_ble_eq_true rfl) (Nat.le_of_ble_eq_true rfl) hS (lv_sub hl [4, 0] rfl)
    · obtain rfl : x516 = 11 := (ex516.trans ej).trans (by decide)
      refine lv_tableOut (tgt := 751) hx hb d_La_law_40 (by decide) (by decide) ?_
      exact law_end l hA2 hC0 (Nat.le_of_ble_eq_true rfl) (Nat.le_of_ble_eq_true rfl) hS (lv_sub hl [4, 0] rfl)
    · obtain rfl : x516 = 12 := (ex516.trans ej).trans (by decide)
      refine lv_tableOut (tgt := 751) hx hb d_La_law_40 (by decide) (by decide) ?_
      exact law_end l hA2 hC0 (Nat.le_of_ble_eq_true rfl) (Nat.le_of_ble_eq_true rfl) hS (lv_sub hl [4, 0] rfl)
    · obtain rfl : x516 = 13 := (ex516.trans ej).trans (by decide)
      refine lv_tableOut (tgt := 751) hx hb d_La_law_40 (by decide) (by decide) ?_
      exact law_end l hA2 hC0 (Nat.le_of_ble_eq_true rfl) (Nat.le_of_ble_eq_true rfl) hS (lv_sub hl [4, 0] rfl)
    · obtain rfl : x516 = 14 := (ex516.trans ej).trans (by decide)
      refine lv_tableOut (tgt := 751) hx hb d_La_law_40 (by decide) (by decide) ?_
      exact law_end l hA2 hC0 (Nat.le_of_ble_eq_true rfl) (Nat.le_of_ble_eq_true rfl) hS (lv_sub hl [4, 0] rfl)
    · obtain rfl : x516 = 15 := (ex516.trans ej).trans (by decide)
      refine lv_tableOut (tgt := 751) hx hb d_La_law_40 (by decide) (by decide) ?_
      exact law_end l hA2 hC0 (Nat.le_of_ble_eq_true rfl) (Nat.le_of_ble_eq_true rfl) hS (lv_sub hl [4, 0] rfl)
