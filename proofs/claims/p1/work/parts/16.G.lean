/-! Which words the rows behind use, by their places. -/
theorem tw_13 : (Jvm.Cond.initialized "UnikernelHttpModel") ∈ lw_tbl := ux_in 13 ux_t1 rfl
theorem tw_22 : (Jvm.Cond.initialized "java/lang/System") ∈ lw_tbl := ux_in 22 ux_t1 rfl
theorem tw_716 : (Jvm.Cond.static ({ cls := "java/lang/System", name := "arraycopy", desc := "(Ljava/lang/Object;ILjava/lang/Object;II)V" } : Jvm.MethodName)) ∈ lw_tbl := ux_in 236 ux_t3 rfl
theorem tw_717 : (Jvm.Cond.native ({ cls := "java/lang/System", name := "arraycopy", desc := "(Ljava/lang/Object;ILjava/lang/Object;II)V" } : Jvm.MethodName)) ∈ lw_tbl := ux_in 237 ux_t3 rfl
theorem tw_1597 : (Jvm.Cond.fieldLink "UnikernelHttpModel" (176 : Nat) "UnikernelHttpModel" "rows" "I") ∈ lw_tbl := ux_in 157 ux_t7 rfl
theorem tw_1598 : (Jvm.Cond.fieldLink "UnikernelHttpModel" (88 : Nat) "UnikernelHttpModel" "thrown" "I") ∈ lw_tbl := ux_in 158 ux_t7 rfl
theorem tw_1599 : (Jvm.Cond.fieldLink "UnikernelHttpModel" (219 : Nat) "UnikernelHttpModel" "time" "I") ∈ lw_tbl := ux_in 159 ux_t7 rfl
theorem tw_1600 : (Jvm.Cond.fieldLink "UnikernelHttpModel" (131 : Nat) "UnikernelHttpModel" "packets" "I") ∈ lw_tbl := ux_in 160 ux_t7 rfl
theorem tw_1601 : (Jvm.Cond.fieldLink "UnikernelHttpModel" (113 : Nat) "UnikernelHttpModel" "frames" "I") ∈ lw_tbl := ux_in 161 ux_t7 rfl
theorem tw_1607 : (Jvm.Cond.fieldLink "UnikernelHttpModel" (116 : Nat) "UnikernelHttpModel" "neighbours" "I") ∈ lw_tbl := ux_in 167 ux_t7 rfl
theorem tw_1617 : (Jvm.Cond.fieldLink "UnikernelHttpModel" (212 : Nat) "UnikernelHttpModel" "gatherings" "I") ∈ lw_tbl := ux_in 177 ux_t7 rfl
theorem tw_1623 : (Jvm.Cond.fieldLink "UnikernelHttpModel" (455 : Nat) "UnikernelHttpModel" "pages" "I") ∈ lw_tbl := ux_in 183 ux_t7 rfl
theorem tw_1625 : (Jvm.Cond.fieldLink "UnikernelHttpModel" (228 : Nat) "UnikernelHttpModel" "peers" "I") ∈ lw_tbl := ux_in 185 ux_t7 rfl
theorem tw_1626 : (Jvm.Cond.fieldLink "UnikernelHttpModel" (254 : Nat) "UnikernelHttpModel" "made" "I") ∈ lw_tbl := ux_in 186 ux_t7 rfl
theorem tw_1628 : (Jvm.Cond.fieldLink "UnikernelHttpModel" (179 : Nat) "UnikernelHttpModel" "whole" "I") ∈ lw_tbl := ux_in 188 ux_t7 rfl
theorem tw_1719 : (Jvm.Cond.methodLink "UnikernelHttpModel" (457 : Nat) ({ cls := "UnikernelHttpModel", name := "four4", desc := "(I)V" } : Jvm.MethodName)) ∈ lw_tbl := ux_in 39 ux_t8 rfl
theorem tw_1721 : (Jvm.Cond.instanceMethod ({ cls := "UnikernelHttpModel", name := "four4", desc := "(I)V" } : Jvm.MethodName)) ∈ lw_tbl := ux_in 41 ux_t8 rfl
theorem tw_1722 : (Jvm.Cond.code ({ cls := "UnikernelHttpModel", name := "four4", desc := "(I)V" } : Jvm.MethodName) prog_14_method_52_code (3 : Nat) (Option.none : Option Jvm.ClassFile.FieldType)) ∈ lw_tbl := ux_in 42 ux_t8 rfl
theorem tw_1731 : (Jvm.Cond.methodLink "UnikernelHttpModel" (460 : Nat) ({ cls := "UnikernelHttpModel", name := "comes", desc := "()V" } : Jvm.MethodName)) ∈ lw_tbl := ux_in 51 ux_t8 rfl
theorem tw_1733 : (Jvm.Cond.instanceMethod ({ cls := "UnikernelHttpModel", name := "comes", desc := "()V" } : Jvm.MethodName)) ∈ lw_tbl := ux_in 53 ux_t8 rfl
theorem tw_1734 : (Jvm.Cond.code ({ cls := "UnikernelHttpModel", name := "comes", desc := "()V" } : Jvm.MethodName) prog_14_method_19_code (1 : Nat) (Option.none : Option Jvm.ClassFile.FieldType)) ∈ lw_tbl := ux_in 54 ux_t8 rfl
theorem tw_1735 : (Jvm.Cond.methodLink "UnikernelHttpModel" (182 : Nat) ({ cls := "java/lang/System", name := "arraycopy", desc := "(Ljava/lang/Object;ILjava/lang/Object;II)V" } : Jvm.MethodName)) ∈ lw_tbl := ux_in 55 ux_t8 rfl
theorem tw_1810 : (Jvm.Cond.methodLink "UnikernelHttpModel" (240 : Nat) ({ cls := "UnikernelHttpModel", name := "find", desc := "(II)I" } : Jvm.MethodName)) ∈ lw_tbl := ux_in 130 ux_t8 rfl
theorem tw_1812 : (Jvm.Cond.instanceMethod ({ cls := "UnikernelHttpModel", name := "find", desc := "(II)I" } : Jvm.MethodName)) ∈ lw_tbl := ux_in 132 ux_t8 rfl
theorem tw_1813 : (Jvm.Cond.code ({ cls := "UnikernelHttpModel", name := "find", desc := "(II)I" } : Jvm.MethodName) prog_14_method_26_code (4 : Nat) (Option.some Jvm.ClassFile.FieldType.int)) ∈ lw_tbl := ux_in 133 ux_t8 rfl
theorem tw_1932 : (Jvm.Cond.constant "UnikernelHttpModel" (260 : Nat) (100000 : Int32)) ∈ lw_tbl := ux_in 12 ux_t9 rfl
theorem tw_1961 : (Jvm.Cond.methodLink "UnikernelHttpModel" (466 : Nat) ({ cls := "UnikernelHttpModel", name := "isKept", desc := "(I)Z" } : Jvm.MethodName)) ∈ lw_tbl := ux_in 41 ux_t9 rfl
theorem tw_1963 : (Jvm.Cond.instanceMethod ({ cls := "UnikernelHttpModel", name := "isKept", desc := "(I)Z" } : Jvm.MethodName)) ∈ lw_tbl := ux_in 43 ux_t9 rfl
theorem tw_1964 : (Jvm.Cond.code ({ cls := "UnikernelHttpModel", name := "isKept", desc := "(I)Z" } : Jvm.MethodName) prog_14_method_58_code (2 : Nat) (Option.some Jvm.ClassFile.FieldType.boolean)) ∈ lw_tbl := ux_in 44 ux_t9 rfl
abbrev b_Mo_four4 : ByteArray := prog_14_method_52_code
abbrev y_Mo_four4 : MethodName := ⟨"UnikernelHttpModel", "four4", "(I)V"⟩
theorem d_Mo_four4_0 : decode b_Mo_four4 0 = .ok (.bipush 24, 2) := by decide +kernel
theorem d_Mo_four4_2 : decode b_Mo_four4 2 = .ok (.istore_n 2, 1) := by decide +kernel
theorem d_Mo_four4_3 : decode b_Mo_four4 3 = .ok (.iload_n 2, 1) := by decide +kernel
theorem d_Mo_four4_4 : decode b_Mo_four4 4 = .ok (.ifCond .lt 29, 3) := by decide +kernel
theorem d_Mo_four4_7 : decode b_Mo_four4 7 = .ok (.aload_n 0, 1) := by decide +kernel
theorem d_Mo_four4_8 : decode b_Mo_four4 8 = .ok (.getfield 9, 3) := by decide +kernel
theorem d_Mo_four4_11 : decode b_Mo_four4 11 = .ok (.aload_n 0, 1) := by decide +kernel
theorem d_Mo_four4_12 : decode b_Mo_four4 12 = .ok (.dup, 1) := by decide +kernel
theorem d_Mo_four4_13 : decode b_Mo_four4 13 = .ok (.getfield 176, 3) := by decide +kernel
theorem d_Mo_four4_16 : decode b_Mo_four4 16 = .ok (.dup_x1, 1) := by decide +kernel
theorem d_Mo_four4_17 : decode b_Mo_four4 17 = .ok (.iconst 1, 1) := by decide +kernel
theorem d_Mo_four4_18 : decode b_Mo_four4 18 = .ok (.iadd, 1) := by decide +kernel
theorem d_Mo_four4_19 : decode b_Mo_four4 19 = .ok (.putfield 176, 3) := by decide +kernel
theorem d_Mo_four4_22 : decode b_Mo_four4 22 = .ok (.iload_n 1, 1) := by decide +kernel
theorem d_Mo_four4_23 : decode b_Mo_four4 23 = .ok (.iload_n 2, 1) := by decide +kernel
theorem d_Mo_four4_24 : decode b_Mo_four4 24 = .ok (.ishr, 1) := by decide +kernel
theorem d_Mo_four4_25 : decode b_Mo_four4 25 = .ok (.i2b, 1) := by decide +kernel
theorem d_Mo_four4_26 : decode b_Mo_four4 26 = .ok (.bastore, 1) := by decide +kernel
theorem d_Mo_four4_27 : decode b_Mo_four4 27 = .ok (.iinc 2 (-8), 3) := by decide +kernel
theorem d_Mo_four4_30 : decode b_Mo_four4 30 = .ok (.goto (-27), 3) := by decide +kernel
theorem d_Mo_four4_33 : decode b_Mo_four4 33 = .ok (.return_, 1) := by decide +kernel
abbrev b_Mo_comes : ByteArray := prog_14_method_19_code
abbrev y_Mo_comes : MethodName := ⟨"UnikernelHttpModel", "comes", "()V"⟩
theorem d_Mo_comes_0 : decode b_Mo_comes 0 = .ok (.aload_n 0, 1) := by decide +kernel
theorem d_Mo_comes_1 : decode b_Mo_comes 1 = .ok (.aload_n 0, 1) := by decide +kernel
theorem d_Mo_comes_2 : decode b_Mo_comes 2 = .ok (.getfield 176, 3) := by decide +kernel
theorem d_Mo_comes_5 : decode b_Mo_comes 5 = .ok (.putfield 179, 3) := by decide +kernel
theorem d_Mo_comes_8 : decode b_Mo_comes 8 = .ok (.aload_n 0, 1) := by decide +kernel
theorem d_Mo_comes_9 : decode b_Mo_comes 9 = .ok (.getfield 9, 3) := by decide +kernel
theorem d_Mo_comes_12 : decode b_Mo_comes 12 = .ok (.iconst 0, 1) := by decide +kernel
theorem d_Mo_comes_13 : decode b_Mo_comes 13 = .ok (.aload_n 0, 1) := by decide +kernel
theorem d_Mo_comes_14 : decode b_Mo_comes 14 = .ok (.getfield 13, 3) := by decide +kernel
theorem d_Mo_comes_17 : decode b_Mo_comes 17 = .ok (.iconst 0, 1) := by decide +kernel
theorem d_Mo_comes_18 : decode b_Mo_comes 18 = .ok (.aload_n 0, 1) := by decide +kernel
theorem d_Mo_comes_19 : decode b_Mo_comes 19 = .ok (.getfield 176, 3) := by decide +kernel
theorem d_Mo_comes_22 : decode b_Mo_comes 22 = .ok (.invokestatic 182, 3) := by decide +kernel
theorem d_Mo_comes_25 : decode b_Mo_comes 25 = .ok (.aload_n 0, 1) := by decide +kernel
theorem d_Mo_comes_26 : decode b_Mo_comes 26 = .ok (.getfield 179, 3) := by decide +kernel
theorem d_Mo_comes_29 : decode b_Mo_comes 29 = .ok (.bipush 14, 2) := by decide +kernel
theorem d_Mo_comes_31 : decode b_Mo_comes 31 = .ok (.if_icmp .lt 27, 3) := by decide +kernel
theorem d_Mo_comes_58 : decode b_Mo_comes 58 = .ok (.return_, 1) := by decide +kernel
abbrev b_Mo_find : ByteArray := prog_14_method_26_code
abbrev y_Mo_find : MethodName := ⟨"UnikernelHttpModel", "find", "(II)I"⟩
theorem d_Mo_find_0 : decode b_Mo_find 0 = .ok (.iconst 0, 1) := by decide +kernel
theorem d_Mo_find_1 : decode b_Mo_find 1 = .ok (.istore_n 3, 1) := by decide +kernel
theorem d_Mo_find_2 : decode b_Mo_find 2 = .ok (.iload_n 3, 1) := by decide +kernel
theorem d_Mo_find_3 : decode b_Mo_find 3 = .ok (.aload_n 0, 1) := by decide +kernel
theorem d_Mo_find_4 : decode b_Mo_find 4 = .ok (.getfield 228, 3) := by decide +kernel
theorem d_Mo_find_7 : decode b_Mo_find 7 = .ok (.if_icmp .ge 37, 3) := by decide +kernel
theorem d_Mo_find_44 : decode b_Mo_find 44 = .ok (.iconst (-1), 1) := by decide +kernel
theorem d_Mo_find_45 : decode b_Mo_find 45 = .ok (.ireturn, 1) := by decide +kernel
abbrev b_Mo_isKept : ByteArray := prog_14_method_58_code
abbrev y_Mo_isKept : MethodName := ⟨"UnikernelHttpModel", "isKept", "(I)Z"⟩
theorem d_Mo_isKept_0 : decode b_Mo_isKept 0 = .ok (.iload_n 1, 1) := by decide +kernel
theorem d_Mo_isKept_1 : decode b_Mo_isKept 1 = .ok (.ifCond .lt 26, 3) := by decide +kernel
theorem d_Mo_isKept_4 : decode b_Mo_isKept 4 = .ok (.iload_n 1, 1) := by decide +kernel
theorem d_Mo_isKept_5 : decode b_Mo_isKept 5 = .ok (.aload_n 0, 1) := by decide +kernel
theorem d_Mo_isKept_6 : decode b_Mo_isKept 6 = .ok (.getfield 113, 3) := by decide +kernel
theorem d_Mo_isKept_9 : decode b_Mo_isKept 9 = .ok (.if_icmp .ge 18, 3) := by decide +kernel
theorem d_Mo_isKept_27 : decode b_Mo_isKept 27 = .ok (.iconst 0, 1) := by decide +kernel
theorem d_Mo_isKept_28 : decode b_Mo_isKept 28 = .ok (.ireturn, 1) := by decide +kernel
abbrev b_Mo_thrown : ByteArray := prog_14_method_2_code
abbrev y_Mo_thrown : MethodName := ⟨"UnikernelHttpModel", "thrown", "()I"⟩
theorem d_Mo_thrown_0 : decode b_Mo_thrown 0 = .ok (.aload_n 0, 1) := by decide +kernel
theorem d_Mo_thrown_1 : decode b_Mo_thrown 1 = .ok (.getfield 88, 3) := by decide +kernel
theorem d_Mo_thrown_4 : decode b_Mo_thrown 4 = .ok (.ireturn, 1) := by decide +kernel
abbrev b_Mo_feed : ByteArray := prog_14_method_51_code
abbrev y_Mo_feed : MethodName := ⟨"UnikernelHttpModel", "feed", "(IIIII)I"⟩
theorem d_Mo_feed_0 : decode b_Mo_feed 0 = .ok (.aload_n 0, 1) := by decide +kernel
theorem d_Mo_feed_1 : decode b_Mo_feed 1 = .ok (.aload_n 0, 1) := by decide +kernel
theorem d_Mo_feed_2 : decode b_Mo_feed 2 = .ok (.getfield 176, 3) := by decide +kernel
theorem d_Mo_feed_5 : decode b_Mo_feed 5 = .ok (.bipush 20, 2) := by decide +kernel
theorem d_Mo_feed_7 : decode b_Mo_feed 7 = .ok (.iadd, 1) := by decide +kernel
theorem d_Mo_feed_8 : decode b_Mo_feed 8 = .ok (.sipush 2000, 3) := by decide +kernel
theorem d_Mo_feed_11 : decode b_Mo_feed 11 = .ok (.if_icmp .le 7, 3) := by decide +kernel
theorem d_Mo_feed_18 : decode b_Mo_feed 18 = .ok (.iconst 0, 1) := by decide +kernel
theorem d_Mo_feed_19 : decode b_Mo_feed 19 = .ok (.putfield 88, 3) := by decide +kernel
theorem d_Mo_feed_22 : decode b_Mo_feed 22 = .ok (.aload_n 0, 1) := by decide +kernel
theorem d_Mo_feed_23 : decode b_Mo_feed 23 = .ok (.getfield 88, 3) := by decide +kernel
theorem d_Mo_feed_26 : decode b_Mo_feed 26 = .ok (.ifCond .le 5, 3) := by decide +kernel
theorem d_Mo_feed_31 : decode b_Mo_feed 31 = .ok (.aload_n 0, 1) := by decide +kernel
theorem d_Mo_feed_32 : decode b_Mo_feed 32 = .ok (.iload_n 1, 1) := by decide +kernel
theorem d_Mo_feed_33 : decode b_Mo_feed 33 = .ok (.invokevirtual 457, 3) := by decide +kernel
theorem d_Mo_feed_36 : decode b_Mo_feed 36 = .ok (.aload_n 0, 1) := by decide +kernel
theorem d_Mo_feed_37 : decode b_Mo_feed 37 = .ok (.iload_n 2, 1) := by decide +kernel
theorem d_Mo_feed_38 : decode b_Mo_feed 38 = .ok (.invokevirtual 457, 3) := by decide +kernel
theorem d_Mo_feed_41 : decode b_Mo_feed 41 = .ok (.aload_n 0, 1) := by decide +kernel
theorem d_Mo_feed_42 : decode b_Mo_feed 42 = .ok (.iload_n 3, 1) := by decide +kernel
theorem d_Mo_feed_43 : decode b_Mo_feed 43 = .ok (.invokevirtual 457, 3) := by decide +kernel
theorem d_Mo_feed_46 : decode b_Mo_feed 46 = .ok (.aload_n 0, 1) := by decide +kernel
theorem d_Mo_feed_47 : decode b_Mo_feed 47 = .ok (.iload 4, 2) := by decide +kernel
theorem d_Mo_feed_49 : decode b_Mo_feed 49 = .ok (.invokevirtual 457, 3) := by decide +kernel
theorem d_Mo_feed_52 : decode b_Mo_feed 52 = .ok (.aload_n 0, 1) := by decide +kernel
theorem d_Mo_feed_53 : decode b_Mo_feed 53 = .ok (.iload 5, 2) := by decide +kernel
theorem d_Mo_feed_55 : decode b_Mo_feed 55 = .ok (.invokevirtual 457, 3) := by decide +kernel
theorem d_Mo_feed_58 : decode b_Mo_feed 58 = .ok (.aload_n 0, 1) := by decide +kernel
theorem d_Mo_feed_59 : decode b_Mo_feed 59 = .ok (.getfield 176, 3) := by decide +kernel
theorem d_Mo_feed_62 : decode b_Mo_feed 62 = .ok (.ireturn, 1) := by decide +kernel
abbrev b_Mo_cut : ByteArray := prog_14_method_53_code
abbrev y_Mo_cut : MethodName := ⟨"UnikernelHttpModel", "cut", "(I)I"⟩
theorem d_Mo_cut_0 : decode b_Mo_cut 0 = .ok (.aload_n 0, 1) := by decide +kernel
theorem d_Mo_cut_1 : decode b_Mo_cut 1 = .ok (.iload_n 1, 1) := by decide +kernel
theorem d_Mo_cut_2 : decode b_Mo_cut 2 = .ok (.ifCond .lt 11, 3) := by decide +kernel
theorem d_Mo_cut_5 : decode b_Mo_cut 5 = .ok (.iload_n 1, 1) := by decide +kernel
theorem d_Mo_cut_6 : decode b_Mo_cut 6 = .ok (.aload_n 0, 1) := by decide +kernel
theorem d_Mo_cut_7 : decode b_Mo_cut 7 = .ok (.getfield 176, 3) := by decide +kernel
theorem d_Mo_cut_10 : decode b_Mo_cut 10 = .ok (.if_icmp .le 7, 3) := by decide +kernel
theorem d_Mo_cut_13 : decode b_Mo_cut 13 = .ok (.iconst 1, 1) := by decide +kernel
theorem d_Mo_cut_14 : decode b_Mo_cut 14 = .ok (.goto 4, 3) := by decide +kernel
theorem d_Mo_cut_17 : decode b_Mo_cut 17 = .ok (.iconst 0, 1) := by decide +kernel
theorem d_Mo_cut_18 : decode b_Mo_cut 18 = .ok (.putfield 88, 3) := by decide +kernel
theorem d_Mo_cut_21 : decode b_Mo_cut 21 = .ok (.aload_n 0, 1) := by decide +kernel
theorem d_Mo_cut_22 : decode b_Mo_cut 22 = .ok (.getfield 88, 3) := by decide +kernel
theorem d_Mo_cut_25 : decode b_Mo_cut 25 = .ok (.ifCond .le 5, 3) := by decide +kernel
theorem d_Mo_cut_28 : decode b_Mo_cut 28 = .ok (.iconst 0, 1) := by decide +kernel
theorem d_Mo_cut_29 : decode b_Mo_cut 29 = .ok (.ireturn, 1) := by decide +kernel
theorem d_Mo_cut_30 : decode b_Mo_cut 30 = .ok (.aload_n 0, 1) := by decide +kernel
theorem d_Mo_cut_31 : decode b_Mo_cut 31 = .ok (.iload_n 1, 1) := by decide +kernel
theorem d_Mo_cut_32 : decode b_Mo_cut 32 = .ok (.putfield 176, 3) := by decide +kernel
theorem d_Mo_cut_35 : decode b_Mo_cut 35 = .ok (.iload_n 1, 1) := by decide +kernel
theorem d_Mo_cut_36 : decode b_Mo_cut 36 = .ok (.ireturn, 1) := by decide +kernel
abbrev b_Mo_arrive : ByteArray := prog_14_method_54_code
abbrev y_Mo_arrive : MethodName := ⟨"UnikernelHttpModel", "arrive", "()I"⟩
theorem d_Mo_arrive_0 : decode b_Mo_arrive 0 = .ok (.aload_n 0, 1) := by decide +kernel
theorem d_Mo_arrive_1 : decode b_Mo_arrive 1 = .ok (.aload_n 0, 1) := by decide +kernel
theorem d_Mo_arrive_2 : decode b_Mo_arrive 2 = .ok (.getfield 176, 3) := by decide +kernel
theorem d_Mo_arrive_5 : decode b_Mo_arrive 5 = .ok (.sipush 1518, 3) := by decide +kernel
theorem d_Mo_arrive_8 : decode b_Mo_arrive 8 = .ok (.if_icmp .le 7, 3) := by decide +kernel
theorem d_Mo_arrive_15 : decode b_Mo_arrive 15 = .ok (.iconst 0, 1) := by decide +kernel
theorem d_Mo_arrive_16 : decode b_Mo_arrive 16 = .ok (.putfield 88, 3) := by decide +kernel
theorem d_Mo_arrive_19 : decode b_Mo_arrive 19 = .ok (.aload_n 0, 1) := by decide +kernel
theorem d_Mo_arrive_20 : decode b_Mo_arrive 20 = .ok (.getfield 88, 3) := by decide +kernel
theorem d_Mo_arrive_23 : decode b_Mo_arrive 23 = .ok (.ifCond .le 5, 3) := by decide +kernel
theorem d_Mo_arrive_28 : decode b_Mo_arrive 28 = .ok (.aload_n 0, 1) := by decide +kernel
theorem d_Mo_arrive_29 : decode b_Mo_arrive 29 = .ok (.getfield 113, 3) := by decide +kernel
theorem d_Mo_arrive_32 : decode b_Mo_arrive 32 = .ok (.istore_n 1, 1) := by decide +kernel
theorem d_Mo_arrive_33 : decode b_Mo_arrive 33 = .ok (.aload_n 0, 1) := by decide +kernel
theorem d_Mo_arrive_34 : decode b_Mo_arrive 34 = .ok (.invokevirtual 460, 3) := by decide +kernel
theorem d_Mo_arrive_37 : decode b_Mo_arrive 37 = .ok (.aload_n 0, 1) := by decide +kernel
theorem d_Mo_arrive_38 : decode b_Mo_arrive 38 = .ok (.iconst 0, 1) := by decide +kernel
theorem d_Mo_arrive_39 : decode b_Mo_arrive 39 = .ok (.putfield 176, 3) := by decide +kernel
theorem d_Mo_arrive_42 : decode b_Mo_arrive 42 = .ok (.aload_n 0, 1) := by decide +kernel
theorem d_Mo_arrive_43 : decode b_Mo_arrive 43 = .ok (.getfield 113, 3) := by decide +kernel
theorem d_Mo_arrive_46 : decode b_Mo_arrive 46 = .ok (.iload_n 1, 1) := by decide +kernel
theorem d_Mo_arrive_47 : decode b_Mo_arrive 47 = .ok (.isub, 1) := by decide +kernel
theorem d_Mo_arrive_48 : decode b_Mo_arrive 48 = .ok (.ireturn, 1) := by decide +kernel
abbrev b_Mo_page : ByteArray := prog_14_method_55_code
abbrev y_Mo_page : MethodName := ⟨"UnikernelHttpModel", "page", "(I)I"⟩
theorem d_Mo_page_0 : decode b_Mo_page 0 = .ok (.iload_n 1, 1) := by decide +kernel
theorem d_Mo_page_1 : decode b_Mo_page 1 = .ok (.iconst 1, 1) := by decide +kernel
theorem d_Mo_page_2 : decode b_Mo_page 2 = .ok (.if_icmp .lt 44, 3) := by decide +kernel
theorem d_Mo_page_5 : decode b_Mo_page 5 = .ok (.iload_n 1, 1) := by decide +kernel
theorem d_Mo_page_6 : decode b_Mo_page 6 = .ok (.bipush 64, 2) := by decide +kernel
theorem d_Mo_page_8 : decode b_Mo_page 8 = .ok (.if_icmp .gt 38, 3) := by decide +kernel
theorem d_Mo_page_11 : decode b_Mo_page 11 = .ok (.aload_n 0, 1) := by decide +kernel
theorem d_Mo_page_12 : decode b_Mo_page 12 = .ok (.getfield 176, 3) := by decide +kernel
theorem d_Mo_page_15 : decode b_Mo_page 15 = .ok (.iload_n 1, 1) := by decide +kernel
theorem d_Mo_page_16 : decode b_Mo_page 16 = .ok (.if_icmp .lt 30, 3) := by decide +kernel
theorem d_Mo_page_46 : decode b_Mo_page 46 = .ok (.iconst 0, 1) := by decide +kernel
theorem d_Mo_page_47 : decode b_Mo_page 47 = .ok (.istore_n 2, 1) := by decide +kernel
theorem d_Mo_page_48 : decode b_Mo_page 48 = .ok (.iconst 0, 1) := by decide +kernel
theorem d_Mo_page_49 : decode b_Mo_page 49 = .ok (.istore_n 3, 1) := by decide +kernel
theorem d_Mo_page_50 : decode b_Mo_page 50 = .ok (.iload_n 3, 1) := by decide +kernel
theorem d_Mo_page_51 : decode b_Mo_page 51 = .ok (.iload_n 1, 1) := by decide +kernel
theorem d_Mo_page_52 : decode b_Mo_page 52 = .ok (.if_icmp .ge 41, 3) := by decide +kernel
theorem d_Mo_page_55 : decode b_Mo_page 55 = .ok (.iload_n 2, 1) := by decide +kernel
theorem d_Mo_page_56 : decode b_Mo_page 56 = .ok (.ifCond .eq 37, 3) := by decide +kernel
theorem d_Mo_page_93 : decode b_Mo_page 93 = .ok (.iload_n 2, 1) := by decide +kernel
theorem d_Mo_page_94 : decode b_Mo_page 94 = .ok (.ifCond .eq 16, 3) := by decide +kernel
theorem d_Mo_page_110 : decode b_Mo_page 110 = .ok (.iconst (-1), 1) := by decide +kernel
theorem d_Mo_page_111 : decode b_Mo_page 111 = .ok (.istore_n 3, 1) := by decide +kernel
theorem d_Mo_page_112 : decode b_Mo_page 112 = .ok (.aload_n 0, 1) := by decide +kernel
theorem d_Mo_page_113 : decode b_Mo_page 113 = .ok (.iload_n 2, 1) := by decide +kernel
theorem d_Mo_page_114 : decode b_Mo_page 114 = .ok (.ifCond .ne 7, 3) := by decide +kernel
theorem d_Mo_page_117 : decode b_Mo_page 117 = .ok (.iconst 1, 1) := by decide +kernel
theorem d_Mo_page_118 : decode b_Mo_page 118 = .ok (.goto 21, 3) := by decide +kernel
theorem d_Mo_page_139 : decode b_Mo_page 139 = .ok (.putfield 88, 3) := by decide +kernel
theorem d_Mo_page_142 : decode b_Mo_page 142 = .ok (.aload_n 0, 1) := by decide +kernel
theorem d_Mo_page_143 : decode b_Mo_page 143 = .ok (.getfield 88, 3) := by decide +kernel
theorem d_Mo_page_146 : decode b_Mo_page 146 = .ok (.ifCond .le 5, 3) := by decide +kernel
theorem d_Mo_page_149 : decode b_Mo_page 149 = .ok (.iconst 0, 1) := by decide +kernel
theorem d_Mo_page_150 : decode b_Mo_page 150 = .ok (.ireturn, 1) := by decide +kernel
abbrev b_Mo_damage : ByteArray := prog_14_method_56_code
abbrev y_Mo_damage : MethodName := ⟨"UnikernelHttpModel", "damage", "(III)I"⟩
theorem d_Mo_damage_0 : decode b_Mo_damage 0 = .ok (.aload_n 0, 1) := by decide +kernel
theorem d_Mo_damage_1 : decode b_Mo_damage 1 = .ok (.iload_n 1, 1) := by decide +kernel
theorem d_Mo_damage_2 : decode b_Mo_damage 2 = .ok (.ifCond .lt 25, 3) := by decide +kernel
theorem d_Mo_damage_5 : decode b_Mo_damage 5 = .ok (.iload_n 1, 1) := by decide +kernel
theorem d_Mo_damage_6 : decode b_Mo_damage 6 = .ok (.aload_n 0, 1) := by decide +kernel
theorem d_Mo_damage_7 : decode b_Mo_damage 7 = .ok (.getfield 455, 3) := by decide +kernel
theorem d_Mo_damage_10 : decode b_Mo_damage 10 = .ok (.if_icmp .ge 17, 3) := by decide +kernel
theorem d_Mo_damage_27 : decode b_Mo_damage 27 = .ok (.iconst 1, 1) := by decide +kernel
theorem d_Mo_damage_28 : decode b_Mo_damage 28 = .ok (.goto 4, 3) := by decide +kernel
theorem d_Mo_damage_32 : decode b_Mo_damage 32 = .ok (.putfield 88, 3) := by decide +kernel
theorem d_Mo_damage_35 : decode b_Mo_damage 35 = .ok (.aload_n 0, 1) := by decide +kernel
theorem d_Mo_damage_36 : decode b_Mo_damage 36 = .ok (.getfield 88, 3) := by decide +kernel
theorem d_Mo_damage_39 : decode b_Mo_damage 39 = .ok (.ifCond .le 5, 3) := by decide +kernel
theorem d_Mo_damage_42 : decode b_Mo_damage 42 = .ok (.iconst 0, 1) := by decide +kernel
theorem d_Mo_damage_43 : decode b_Mo_damage 43 = .ok (.ireturn, 1) := by decide +kernel
abbrev b_Mo_tick : ByteArray := prog_14_method_57_code
abbrev y_Mo_tick : MethodName := ⟨"UnikernelHttpModel", "tick", "(I)I"⟩
theorem d_Mo_tick_0 : decode b_Mo_tick 0 = .ok (.aload_n 0, 1) := by decide +kernel
theorem d_Mo_tick_1 : decode b_Mo_tick 1 = .ok (.iload_n 1, 1) := by decide +kernel
theorem d_Mo_tick_2 : decode b_Mo_tick 2 = .ok (.ifCond .lt 10, 3) := by decide +kernel
theorem d_Mo_tick_5 : decode b_Mo_tick 5 = .ok (.iload_n 1, 1) := by decide +kernel
theorem d_Mo_tick_6 : decode b_Mo_tick 6 = .ok (.ldc_w 260, 3) := by decide +kernel
theorem d_Mo_tick_9 : decode b_Mo_tick 9 = .ok (.if_icmp .le 7, 3) := by decide +kernel
theorem d_Mo_tick_12 : decode b_Mo_tick 12 = .ok (.iconst 1, 1) := by decide +kernel
theorem d_Mo_tick_13 : decode b_Mo_tick 13 = .ok (.goto 4, 3) := by decide +kernel
theorem d_Mo_tick_16 : decode b_Mo_tick 16 = .ok (.iconst 0, 1) := by decide +kernel
theorem d_Mo_tick_17 : decode b_Mo_tick 17 = .ok (.putfield 88, 3) := by decide +kernel
theorem d_Mo_tick_20 : decode b_Mo_tick 20 = .ok (.aload_n 0, 1) := by decide +kernel
theorem d_Mo_tick_21 : decode b_Mo_tick 21 = .ok (.getfield 88, 3) := by decide +kernel
theorem d_Mo_tick_24 : decode b_Mo_tick 24 = .ok (.ifCond .le 5, 3) := by decide +kernel
theorem d_Mo_tick_27 : decode b_Mo_tick 27 = .ok (.iconst 0, 1) := by decide +kernel
theorem d_Mo_tick_28 : decode b_Mo_tick 28 = .ok (.ireturn, 1) := by decide +kernel
theorem d_Mo_tick_29 : decode b_Mo_tick 29 = .ok (.aload_n 0, 1) := by decide +kernel
theorem d_Mo_tick_30 : decode b_Mo_tick 30 = .ok (.getfield 113, 3) := by decide +kernel
theorem d_Mo_tick_33 : decode b_Mo_tick 33 = .ok (.istore_n 2, 1) := by decide +kernel
theorem d_Mo_tick_34 : decode b_Mo_tick 34 = .ok (.aload_n 0, 1) := by decide +kernel
theorem d_Mo_tick_35 : decode b_Mo_tick 35 = .ok (.getfield 219, 3) := by decide +kernel
theorem d_Mo_tick_38 : decode b_Mo_tick 38 = .ok (.iload_n 1, 1) := by decide +kernel
theorem d_Mo_tick_39 : decode b_Mo_tick 39 = .ok (.iadd, 1) := by decide +kernel
theorem d_Mo_tick_40 : decode b_Mo_tick 40 = .ok (.istore_n 3, 1) := by decide +kernel
theorem d_Mo_tick_41 : decode b_Mo_tick 41 = .ok (.iload_n 3, 1) := by decide +kernel
theorem d_Mo_tick_42 : decode b_Mo_tick 42 = .ok (.iconst 1, 1) := by decide +kernel
theorem d_Mo_tick_43 : decode b_Mo_tick 43 = .ok (.iadd, 1) := by decide +kernel
theorem d_Mo_tick_44 : decode b_Mo_tick 44 = .ok (.istore 4, 2) := by decide +kernel
theorem d_Mo_tick_46 : decode b_Mo_tick 46 = .ok (.iconst (-1), 1) := by decide +kernel
theorem d_Mo_tick_47 : decode b_Mo_tick 47 = .ok (.istore 5, 2) := by decide +kernel
theorem d_Mo_tick_49 : decode b_Mo_tick 49 = .ok (.iconst (-1), 1) := by decide +kernel
theorem d_Mo_tick_50 : decode b_Mo_tick 50 = .ok (.istore 6, 2) := by decide +kernel
theorem d_Mo_tick_52 : decode b_Mo_tick 52 = .ok (.iconst 0, 1) := by decide +kernel
theorem d_Mo_tick_53 : decode b_Mo_tick 53 = .ok (.istore 7, 2) := by decide +kernel
theorem d_Mo_tick_55 : decode b_Mo_tick 55 = .ok (.iload 7, 2) := by decide +kernel
theorem d_Mo_tick_57 : decode b_Mo_tick 57 = .ok (.aload_n 0, 1) := by decide +kernel
theorem d_Mo_tick_58 : decode b_Mo_tick 58 = .ok (.getfield 212, 3) := by decide +kernel
theorem d_Mo_tick_61 : decode b_Mo_tick 61 = .ok (.if_icmp .ge 42, 3) := by decide +kernel
theorem d_Mo_tick_103 : decode b_Mo_tick 103 = .ok (.iconst 0, 1) := by decide +kernel
theorem d_Mo_tick_104 : decode b_Mo_tick 104 = .ok (.istore 7, 2) := by decide +kernel
theorem d_Mo_tick_106 : decode b_Mo_tick 106 = .ok (.iload 7, 2) := by decide +kernel
theorem d_Mo_tick_108 : decode b_Mo_tick 108 = .ok (.aload_n 0, 1) := by decide +kernel
theorem d_Mo_tick_109 : decode b_Mo_tick 109 = .ok (.getfield 228, 3) := by decide +kernel
theorem d_Mo_tick_112 : decode b_Mo_tick 112 = .ok (.if_icmp .ge 88, 3) := by decide +kernel
theorem d_Mo_tick_200 : decode b_Mo_tick 200 = .ok (.iload 4, 2) := by decide +kernel
theorem d_Mo_tick_202 : decode b_Mo_tick 202 = .ok (.iload_n 3, 1) := by decide +kernel
theorem d_Mo_tick_203 : decode b_Mo_tick 203 = .ok (.if_icmp .le 6, 3) := by decide +kernel
theorem d_Mo_tick_206 : decode b_Mo_tick 206 = .ok (.goto 60, 3) := by decide +kernel
theorem d_Mo_tick_266 : decode b_Mo_tick 266 = .ok (.aload_n 0, 1) := by decide +kernel
theorem d_Mo_tick_267 : decode b_Mo_tick 267 = .ok (.iload_n 3, 1) := by decide +kernel
theorem d_Mo_tick_268 : decode b_Mo_tick 268 = .ok (.putfield 219, 3) := by decide +kernel
theorem d_Mo_tick_271 : decode b_Mo_tick 271 = .ok (.aload_n 0, 1) := by decide +kernel
theorem d_Mo_tick_272 : decode b_Mo_tick 272 = .ok (.getfield 113, 3) := by decide +kernel
theorem d_Mo_tick_275 : decode b_Mo_tick 275 = .ok (.iload_n 2, 1) := by decide +kernel
theorem d_Mo_tick_276 : decode b_Mo_tick 276 = .ok (.isub, 1) := by decide +kernel
theorem d_Mo_tick_277 : decode b_Mo_tick 277 = .ok (.ireturn, 1) := by decide +kernel
abbrev b_Mo_size : ByteArray := prog_14_method_59_code
abbrev y_Mo_size : MethodName := ⟨"UnikernelHttpModel", "size", "(I)I"⟩
theorem d_Mo_size_0 : decode b_Mo_size 0 = .ok (.aload_n 0, 1) := by decide +kernel
theorem d_Mo_size_1 : decode b_Mo_size 1 = .ok (.aload_n 0, 1) := by decide +kernel
theorem d_Mo_size_2 : decode b_Mo_size 2 = .ok (.iload_n 1, 1) := by decide +kernel
theorem d_Mo_size_3 : decode b_Mo_size 3 = .ok (.invokevirtual 466, 3) := by decide +kernel
theorem d_Mo_size_6 : decode b_Mo_size 6 = .ok (.ifCond .eq 7, 3) := by decide +kernel
theorem d_Mo_size_13 : decode b_Mo_size 13 = .ok (.iconst 1, 1) := by decide +kernel
theorem d_Mo_size_14 : decode b_Mo_size 14 = .ok (.putfield 88, 3) := by decide +kernel
theorem d_Mo_size_17 : decode b_Mo_size 17 = .ok (.aload_n 0, 1) := by decide +kernel
theorem d_Mo_size_18 : decode b_Mo_size 18 = .ok (.getfield 88, 3) := by decide +kernel
theorem d_Mo_size_21 : decode b_Mo_size 21 = .ok (.ifCond .le 7, 3) := by decide +kernel
theorem d_Mo_size_24 : decode b_Mo_size 24 = .ok (.iconst 0, 1) := by decide +kernel
theorem d_Mo_size_25 : decode b_Mo_size 25 = .ok (.goto 12, 3) := by decide +kernel
theorem d_Mo_size_37 : decode b_Mo_size 37 = .ok (.ireturn, 1) := by decide +kernel
abbrev b_Mo_bytes : ByteArray := prog_14_method_60_code
abbrev y_Mo_bytes : MethodName := ⟨"UnikernelHttpModel", "bytes", "(II)J"⟩
theorem d_Mo_bytes_0 : decode b_Mo_bytes 0 = .ok (.aload_n 0, 1) := by decide +kernel
theorem d_Mo_bytes_1 : decode b_Mo_bytes 1 = .ok (.aload_n 0, 1) := by decide +kernel
theorem d_Mo_bytes_2 : decode b_Mo_bytes 2 = .ok (.iload_n 1, 1) := by decide +kernel
theorem d_Mo_bytes_3 : decode b_Mo_bytes 3 = .ok (.invokevirtual 466, 3) := by decide +kernel
theorem d_Mo_bytes_6 : decode b_Mo_bytes 6 = .ok (.ifCond .eq 18, 3) := by decide +kernel
theorem d_Mo_bytes_24 : decode b_Mo_bytes 24 = .ok (.iconst 1, 1) := by decide +kernel
theorem d_Mo_bytes_25 : decode b_Mo_bytes 25 = .ok (.putfield 88, 3) := by decide +kernel
theorem d_Mo_bytes_28 : decode b_Mo_bytes 28 = .ok (.aload_n 0, 1) := by decide +kernel
theorem d_Mo_bytes_29 : decode b_Mo_bytes 29 = .ok (.getfield 88, 3) := by decide +kernel
theorem d_Mo_bytes_32 : decode b_Mo_bytes 32 = .ok (.ifCond .le 5, 3) := by decide +kernel
theorem d_Mo_bytes_35 : decode b_Mo_bytes 35 = .ok (.lconst 0, 1) := by decide +kernel
theorem d_Mo_bytes_36 : decode b_Mo_bytes 36 = .ok (.lreturn, 1) := by decide +kernel
abbrev b_Mo_count : ByteArray := prog_14_method_61_code
abbrev y_Mo_count : MethodName := ⟨"UnikernelHttpModel", "count", "(I)I"⟩
theorem d_Mo_count_0 : decode b_Mo_count 0 = .ok (.aload_n 0, 1) := by decide +kernel
theorem d_Mo_count_1 : decode b_Mo_count 1 = .ok (.iload_n 1, 1) := by decide +kernel
theorem d_Mo_count_2 : decode b_Mo_count 2 = .ok (.ifCond .lt 9, 3) := by decide +kernel
theorem d_Mo_count_5 : decode b_Mo_count 5 = .ok (.iload_n 1, 1) := by decide +kernel
theorem d_Mo_count_6 : decode b_Mo_count 6 = .ok (.bipush 7, 2) := by decide +kernel
theorem d_Mo_count_8 : decode b_Mo_count 8 = .ok (.if_icmp .le 7, 3) := by decide +kernel
theorem d_Mo_count_11 : decode b_Mo_count 11 = .ok (.iconst 1, 1) := by decide +kernel
theorem d_Mo_count_12 : decode b_Mo_count 12 = .ok (.goto 4, 3) := by decide +kernel
theorem d_Mo_count_15 : decode b_Mo_count 15 = .ok (.iconst 0, 1) := by decide +kernel
theorem d_Mo_count_16 : decode b_Mo_count 16 = .ok (.putfield 88, 3) := by decide +kernel
theorem d_Mo_count_19 : decode b_Mo_count 19 = .ok (.aload_n 0, 1) := by decide +kernel
theorem d_Mo_count_20 : decode b_Mo_count 20 = .ok (.getfield 88, 3) := by decide +kernel
theorem d_Mo_count_23 : decode b_Mo_count 23 = .ok (.ifCond .le 5, 3) := by decide +kernel
theorem d_Mo_count_26 : decode b_Mo_count 26 = .ok (.iconst 0, 1) := by decide +kernel
theorem d_Mo_count_27 : decode b_Mo_count 27 = .ok (.ireturn, 1) := by decide +kernel
theorem d_Mo_count_28 : decode b_Mo_count 28 = .ok (.iload_n 1, 1) := by decide +kernel
theorem d_Mo_count_29 : decode b_Mo_count 29 = .ok (.tableswitch 78 0 6 #[43, 48, 53, 58, 63, 68, 73], 43) := by decide +kernel
theorem d_Mo_count_72 : decode b_Mo_count 72 = .ok (.aload_n 0, 1) := by decide +kernel
theorem d_Mo_count_73 : decode b_Mo_count 73 = .ok (.getfield 113, 3) := by decide +kernel
theorem d_Mo_count_76 : decode b_Mo_count 76 = .ok (.ireturn, 1) := by decide +kernel
theorem d_Mo_count_77 : decode b_Mo_count 77 = .ok (.aload_n 0, 1) := by decide +kernel
theorem d_Mo_count_78 : decode b_Mo_count 78 = .ok (.getfield 219, 3) := by decide +kernel
theorem d_Mo_count_81 : decode b_Mo_count 81 = .ok (.ireturn, 1) := by decide +kernel
theorem d_Mo_count_82 : decode b_Mo_count 82 = .ok (.aload_n 0, 1) := by decide +kernel
theorem d_Mo_count_83 : decode b_Mo_count 83 = .ok (.getfield 228, 3) := by decide +kernel
theorem d_Mo_count_86 : decode b_Mo_count 86 = .ok (.ireturn, 1) := by decide +kernel
theorem d_Mo_count_87 : decode b_Mo_count 87 = .ok (.aload_n 0, 1) := by decide +kernel
theorem d_Mo_count_88 : decode b_Mo_count 88 = .ok (.getfield 254, 3) := by decide +kernel
theorem d_Mo_count_91 : decode b_Mo_count 91 = .ok (.ireturn, 1) := by decide +kernel
theorem d_Mo_count_92 : decode b_Mo_count 92 = .ok (.aload_n 0, 1) := by decide +kernel
theorem d_Mo_count_93 : decode b_Mo_count 93 = .ok (.getfield 116, 3) := by decide +kernel
theorem d_Mo_count_96 : decode b_Mo_count 96 = .ok (.ireturn, 1) := by decide +kernel
theorem d_Mo_count_97 : decode b_Mo_count 97 = .ok (.aload_n 0, 1) := by decide +kernel
theorem d_Mo_count_98 : decode b_Mo_count 98 = .ok (.getfield 212, 3) := by decide +kernel
theorem d_Mo_count_101 : decode b_Mo_count 101 = .ok (.ireturn, 1) := by decide +kernel
theorem d_Mo_count_102 : decode b_Mo_count 102 = .ok (.aload_n 0, 1) := by decide +kernel
theorem d_Mo_count_103 : decode b_Mo_count 103 = .ok (.getfield 455, 3) := by decide +kernel
theorem d_Mo_count_106 : decode b_Mo_count 106 = .ok (.ireturn, 1) := by decide +kernel
theorem d_Mo_count_107 : decode b_Mo_count 107 = .ok (.aload_n 0, 1) := by decide +kernel
theorem d_Mo_count_108 : decode b_Mo_count 108 = .ok (.getfield 131, 3) := by decide +kernel
theorem d_Mo_count_111 : decode b_Mo_count 111 = .ok (.ireturn, 1) := by decide +kernel
abbrev b_Mo_connection : ByteArray := prog_14_method_62_code
abbrev y_Mo_connection : MethodName := ⟨"UnikernelHttpModel", "connection", "(III)I"⟩
theorem d_Mo_connection_0 : decode b_Mo_connection 0 = .ok (.aload_n 0, 1) := by decide +kernel
theorem d_Mo_connection_1 : decode b_Mo_connection 1 = .ok (.iload_n 1, 1) := by decide +kernel
theorem d_Mo_connection_2 : decode b_Mo_connection 2 = .ok (.iload_n 2, 1) := by decide +kernel
theorem d_Mo_connection_3 : decode b_Mo_connection 3 = .ok (.invokevirtual 240, 3) := by decide +kernel
theorem d_Mo_connection_6 : decode b_Mo_connection 6 = .ok (.istore 4, 2) := by decide +kernel
theorem d_Mo_connection_8 : decode b_Mo_connection 8 = .ok (.aload_n 0, 1) := by decide +kernel
theorem d_Mo_connection_9 : decode b_Mo_connection 9 = .ok (.iload 4, 2) := by decide +kernel
theorem d_Mo_connection_11 : decode b_Mo_connection 11 = .ok (.ifCond .ge 7, 3) := by decide +kernel
theorem d_Mo_connection_14 : decode b_Mo_connection 14 = .ok (.iconst 1, 1) := by decide +kernel
theorem d_Mo_connection_15 : decode b_Mo_connection 15 = .ok (.goto 18, 3) := by decide +kernel
theorem d_Mo_connection_33 : decode b_Mo_connection 33 = .ok (.putfield 88, 3) := by decide +kernel
theorem d_Mo_connection_36 : decode b_Mo_connection 36 = .ok (.aload_n 0, 1) := by decide +kernel
theorem d_Mo_connection_37 : decode b_Mo_connection 37 = .ok (.getfield 88, 3) := by decide +kernel
theorem d_Mo_connection_40 : decode b_Mo_connection 40 = .ok (.ifCond .le 5, 3) := by decide +kernel
theorem d_Mo_connection_43 : decode b_Mo_connection 43 = .ok (.iconst 0, 1) := by decide +kernel
theorem d_Mo_connection_44 : decode b_Mo_connection 44 = .ok (.ireturn, 1) := by decide +kernel
theorem ux_l7 : (7 : Int32).toInt = 7 := by decide
theorem ux_tk {n x y : Int32} (hn : 0 ≤ n.toInt ∧ n.toInt ≤ 100000) (hx : x = 0 + n) (hy : y = x + 1) : ¬ y ≤ x := by
  have h0 : (0 + n).toInt = n.toInt := by rw [Int32.zero_add]
  have h1 : (0 + n + 1).toInt = n.toInt + 1 := by
    rw [Int32.toInt_add, h0, show (1 : Int32).toInt = 1 by decide]
    rw [Int.bmod_def]
    omega
  rw [Int32.le_iff_toInt_le, hy, hx, h1, h0]
  omega
set_option maxHeartbeats 4000000 in
set_option maxRecDepth 100000 in
theorem c_Mo_four4_0 (l : Launch) (dC : Nat → ClassId) (dI : Nat → Nat → Nat) (h0 : Nat) (m_row : Nat) (m_in : Nat) (m_out : Nat) (m_kept : Nat) (m_keptSize : Nat) (m_nIp : Nat) (m_nHeard : Nat) (m_nHard : Nat) (m_gIp : Nat) (m_gNumber : Nat) (m_gProtocol : Nat) (m_gTold : Nat) (m_gBegun : Nat) (m_gOrder : Nat) (m_gBytes : Nat) (m_gThere : Nat) (m_pTarget : Nat) (m_pBytes : Nat) (m_pLong : Nat) (m_pSize : Nat) (m_pSum : Nat) (m_peer : Nat) (m_answer : Nat) (cM : ClassId) (v : Int32) (f : Nat → Int32) (sz : Nat) : Met l y_Mo_four4 [Cond.code y_Mo_four4 b_Mo_four4 3 (none)] ({ frames := 20, cells := 0, slots := 0, locals := 300 }) (ux_Pc [.ref h0, .int v] (dC, dI) cls [(h0, .inr (12, [.ref m_row, .ref m_in, .ref m_out, .int 0, .int 0, .int 0, .int 0, .int 0, .ref m_kept, .ref m_keptSize, .ref m_nIp, .ref m_nHeard, .ref m_nHard, .int 0, .int 0, .ref m_gIp, .ref m_gNumber, .ref m_gProtocol, .ref m_gTold, .ref m_gBegun, .ref m_gOrder, .ref m_gBytes, .ref m_gThere, .int 0, .int 0, .ref m_pTarget, .ref m_pBytes, .ref m_pLong, .ref m_pSize, .ref m_pSum, .int 0, .ref m_peer, .int 0, .int 0, .int 0, .int 0, .ref m_answer, .int 0, .int 0])), (m_row, .inl (cM, 2000, .inl f))] [(cM, .byte)] sz) (va_Qv (fun _ : Unit => True) (fun (_ : Unit) (t : State) => ∃ (f2 : Nat → Int32), ux_B (dC, dI) cls (va_A [(h0, .inr (12, [.ref m_row, .ref m_in, .ref m_out, .int 0, .int 0, .int 0, .int 0, .int 0, .ref m_kept, .ref m_keptSize, .ref m_nIp, .ref m_nHeard, .ref m_nHard, .int 0, .int 0, .ref m_gIp, .ref m_gNumber, .ref m_gProtocol, .ref m_gTold, .ref m_gBegun, .ref m_gOrder, .ref m_gBytes, .ref m_gThere, .int 0, .int 0, .ref m_pTarget, .ref m_pBytes, .ref m_pLong, .ref m_pSize, .ref m_pSum, .int 0, .ref m_peer, .int 0, .int 0, .int 0, .int 0, .ref m_answer, .int 0, .int 0])), (m_row, .inl (cM, 2000, .inl f))] sz) [(h0, .inr (12, [.ref m_row, .ref m_in, .ref m_out, .int 4, .int 0, .int 0, .int 0, .int 0, .ref m_kept, .ref m_keptSize, .ref m_nIp, .ref m_nHeard, .ref m_nHard, .int 0, .int 0, .ref m_gIp, .ref m_gNumber, .ref m_gProtocol, .ref m_gTold, .ref m_gBegun, .ref m_gOrder, .ref m_gBytes, .ref m_gThere, .int 0, .int 0, .ref m_pTarget, .ref m_pBytes, .ref m_pLong, .ref m_pSize, .ref m_pSum, .int 0, .ref m_peer, .int 0, .int 0, .int 0, .int 0, .ref m_answer, .int 0, .int 0])), (m_row, .inl (cM, 2000, .inl f2))] [(cM, .byte)] t) (va_A [(h0, .inr (12, [.ref m_row, .ref m_in, .ref m_out, .int 0, .int 0, .int 0, .int 0, .int 0, .ref m_kept, .ref m_keptSize, .ref m_nIp, .ref m_nHeard, .ref m_nHard, .int 0, .int 0, .ref m_gIp, .ref m_gNumber, .ref m_gProtocol, .ref m_gTold, .ref m_gBegun, .ref m_gOrder, .ref m_gBytes, .ref m_gThere, .int 0, .int 0, .ref m_pTarget, .ref m_pBytes, .ref m_pLong, .ref m_pSize, .ref m_pSum, .int 0, .ref m_peer, .int 0, .int 0, .int 0, .int 0, .ref m_answer, .int 0, .int 0])), (m_row, .inl (cM, 2000, .inl f))] sz)) 0 0 (va_A [(h0, .inr (12, [.ref m_row, .ref m_in, .ref m_out, .int 0, .int 0, .int 0, .int 0, .int 0, .ref m_kept, .ref m_keptSize, .ref m_nIp, .ref m_nHeard, .ref m_nHard, .int 0, .int 0, .ref m_gIp, .ref m_gNumber, .ref m_gProtocol, .ref m_gTold, .ref m_gBegun, .ref m_gOrder, .ref m_gBytes, .ref m_gThere, .int 0, .int 0, .ref m_pTarget, .ref m_pBytes, .ref m_pLong, .ref m_pSize, .ref m_pSum, .int 0, .ref m_peer, .int 0, .int 0, .int 0, .int 0, .ref m_answer, .int 0, .int 0])), (m_row, .inl (cM, 2000, .inl f))] sz) := by
  refine Met.ofW (cc := b_Mo_four4) (maxL := 3) (ret := none) (by decide) rfl ?_
  intro p e s m args below meth c s₁ B hml hv
  obtain ⟨rfl, hsz, hP, hK, hD0, hT⟩ := hv
  have hx := B.exec
  have hb := B.bytes
  have hr := B.returns
  have hown : s.vm.findClass "UnikernelHttpModel" = some m.cls := findClass_of_methodNamed B.named
  have hlocks := B.notSynchronized
  subst hsz
  have hD := hD0.self (sz := s.heap.size)
  have hns := ux_ns hP
  generalize hAe : va_A [(h0, .inr (12, [.ref m_row, .ref m_in, .ref m_out, .int 0, .int 0, .int 0, .int 0, .int 0, .ref m_kept, .ref m_keptSize, .ref m_nIp, .ref m_nHeard, .ref m_nHard, .int 0, .int 0, .ref m_gIp, .ref m_gNumber, .ref m_gProtocol, .ref m_gTold, .ref m_gBegun, .ref m_gOrder, .ref m_gBytes, .ref m_gThere, .int 0, .int 0, .ref m_pTarget, .ref m_pBytes, .ref m_pLong, .ref m_pSize, .ref m_pSum, .int 0, .ref m_peer, .int 0, .int 0, .int 0, .int 0, .ref m_answer, .int 0, .int 0])), (m_row, .inl (cM, 2000, .inl f))] s.heap.size = A at hD hns ⊢
  have hA : ∀ q : Nat, s.heap.size ≤ q → A q := fun q h => by rw [← hAe]; exact Or.inr h
  have hS : va_S A s.heap s.heap [] := va_S.rf
  have hl := lv_entry ([.ref h0, .int v]) (n := 3) (Nat.le_of_ble_eq_true rfl)
  rw [lg_entry_eq]
  generalize (lg_sl ([.ref h0, .int v]) ++ List.replicate (3 - (lg_sl ([.ref h0, .int v])).length) Slot.unset).toArray = ls at hl ⊢
  have hl : lv_has ls 3 [(0, .ref h0), (1, .int v)] := hl
  have hfx : CallFix p m c b_Mo_four4 3 s ([.ref h0, .int v] : List Value).toArray [] "UnikernelHttpModel" := ⟨hx, hb, hml, hown, fun _ h => by cases h⟩
  refine lv_bipush (v := 24) hx hb d_Mo_four4_0 (by decide) ?_
  refine lv_istore_n hx hb d_Mo_four4_2 rfl hl (by decide) rfl (fun ls hl => ?_)
  have hl : lv_has ls 3 [(2, .int 24), (0, .ref h0), (1, .int v)] := hl
  refine lv_iload_n hx hb d_Mo_four4_3 rfl (lv_at hl 0 rfl) ?_
  refine lv_if_lt (tgt := 33) hx hb d_Mo_four4_4 (by decide) (fun hc => absurd hc (by decide)) (fun _ => ?_)
  refine lv_aload_n hx hb d_Mo_four4_7 rfl (lv_at hl 1 rfl) ?_
  refine va_get (D := (dC, dI)) (ci := 12) (v := .ref m_row) (C := R_Mo) (T := F_Mo) (N := 39) hx hb (u_Mo hT) (fun _ h => h) hown hK hP 0 rfl rfl 0 (by decide) (ux_T_at hT tw_1594 rfl) (fun _ h9 => h9) rfl d_Mo_four4_8 ?_
  refine lv_aload_n hx hb d_Mo_four4_11 rfl (lv_at hl 1 rfl) ?_
  refine lv_dup hx hb d_Mo_four4_12 rfl ?_
  refine va_get (D := (dC, dI)) (ci := 12) (v := .int 0) (C := R_Mo) (T := F_Mo) (N := 39) hx hb (u_Mo hT) (fun _ h => h) hown hK hP 0 rfl rfl 3 (by decide) (ux_T_at hT tw_1597 rfl) (fun _ h9 => h9) rfl d_Mo_four4_13 ?_
  refine lv_dup_x1 hx hb d_Mo_four4_16 rfl rfl ?_
  refine lv_iconst (v := 1) hx hb d_Mo_four4_17 (by decide) ?_
  refine lv_iadd hx hb d_Mo_four4_18 ?_
  refine lv_topi (fun x1 ex1 => ?_)
  obtain rfl : x1 = 1 := ex1.trans (by decide)
  refine va_put (D := (dC, dI)) (ci := 12) (v := .int 1) (ty := .int) (C := R_Mo) (T := F_Mo) (N := 39) hx hb (u_Mo hT) (fun _ h => h) t_Mo k_Mo n_Mo hown hK hP hD hS 0 rfl rfl 3 (by decide) (ux_T_at hT tw_1597 rfl) (fun _ h9 => h9) rfl (by decide +kernel) rfl rfl (Nat.le_of_ble_eq_true rfl) d_Mo_four4_19 (fun H locs hP hD hS => ?_)
  have hP : va_P (dC, dI) cls [(h0, .inr (12, [.ref m_row, .ref m_in, .ref m_out, .int 1, .int 0, .int 0, .int 0, .int 0, .ref m_kept, .ref m_keptSize, .ref m_nIp, .ref m_nHeard, .ref m_nHard, .int 0, .int 0, .ref m_gIp, .ref m_gNumber, .ref m_gProtocol, .ref m_gTold, .ref m_gBegun, .ref m_gOrder, .ref m_gBytes, .ref m_gThere, .int 0, .int 0, .ref m_pTarget, .ref m_pBytes, .ref m_pLong, .ref m_pSize, .ref m_pSum, .int 0, .ref m_peer, .int 0, .int 0, .int 0, .int 0, .ref m_answer, .int 0, .int 0])), (m_row, .inl (cM, 2000, .inl f))] H := hP
  have hD : va_D A [(h0, .inr (12, [.ref m_row, .ref m_in, .ref m_out, .int 1, .int 0, .int 0, .int 0, .int 0, .ref m_kept, .ref m_keptSize, .ref m_nIp, .ref m_nHeard, .ref m_nHard, .int 0, .int 0, .ref m_gIp, .ref m_gNumber, .ref m_gProtocol, .ref m_gTold, .ref m_gBegun, .ref m_gOrder, .ref m_gBytes, .ref m_gThere, .int 0, .int 0, .ref m_pTarget, .ref m_pBytes, .ref m_pLong, .ref m_pSize, .ref m_pSum, .int 0, .ref m_peer, .int 0, .int 0, .int 0, .int 0, .ref m_answer, .int 0, .int 0])), (m_row, .inl (cM, 2000, .inl f))] := hD
  refine lv_iload_n hx hb d_Mo_four4_22 rfl (lv_at hl 2 rfl) ?_
  refine lv_iload_n hx hb d_Mo_four4_23 rfl (lv_at hl 0 rfl) ?_
  refine lv_ishr hx hb d_Mo_four4_24 ?_
  refine lv_topi (fun x2 ex2 => ?_)
  refine lv_i2b hx hb d_Mo_four4_25 rfl ?_
  refine lv_topi (fun x3 ex3 => ?_)
  refine va_bast hx hb hK hP hD hS 1 0 rfl rfl (i := 0) (show ¬ ((0 : Int32) < 0 ∨ 2000 ≤ (0 : Int32).toNatClampNeg) by decide) d_Mo_four4_26 (fun H locs hP hD hS => ?_)
  have hP : va_P (dC, dI) cls [(h0, .inr (12, [.ref m_row, .ref m_in, .ref m_out, .int 1, .int 0, .int 0, .int 0, .int 0, .ref m_kept, .ref m_keptSize, .ref m_nIp, .ref m_nHeard, .ref m_nHard, .int 0, .int 0, .ref m_gIp, .ref m_gNumber, .ref m_gProtocol, .ref m_gTold, .ref m_gBegun, .ref m_gOrder, .ref m_gBytes, .ref m_gThere, .int 0, .int 0, .ref m_pTarget, .ref m_pBytes, .ref m_pLong, .ref m_pSize, .ref m_pSum, .int 0, .ref m_peer, .int 0, .int 0, .int 0, .int 0, .ref m_answer, .int 0, .int 0])), (m_row, .inl (cM, 2000, .inl (upd f (0 : Int32).toNatClampNeg (vp_nar .byte x3))))] H := hP
  have hD : va_D A [(h0, .inr (12, [.ref m_row, .ref m_in, .ref m_out, .int 1, .int 0, .int 0, .int 0, .int 0, .ref m_kept, .ref m_keptSize, .ref m_nIp, .ref m_nHeard, .ref m_nHard, .int 0, .int 0, .ref m_gIp, .ref m_gNumber, .ref m_gProtocol, .ref m_gTold, .ref m_gBegun, .ref m_gOrder, .ref m_gBytes, .ref m_gThere, .int 0, .int 0, .ref m_pTarget, .ref m_pBytes, .ref m_pLong, .ref m_pSize, .ref m_pSum, .int 0, .ref m_peer, .int 0, .int 0, .int 0, .int 0, .ref m_answer, .int 0, .int 0])), (m_row, .inl (cM, 2000, .inl (upd f (0 : Int32).toNatClampNeg (vp_nar .byte x3))))] := hD
  generalize upd f (0 : Int32).toNatClampNeg (vp_nar .byte x3) = f4 at hP hD
  refine lv_iinc (v := 16) hx hb d_Mo_four4_27 hl (k := 0) rfl (by decide) (by decide) rfl (fun ls hl => ?_)
  have hl : lv_has ls 3 [(2, .int 16), (0, .ref h0), (1, .int v)] := hl
  refine lv_goto hx hb d_Mo_four4_30 (tgt := 3) (by decide) ?_
  refine lv_iload_n hx hb d_Mo_four4_3 rfl (lv_at hl 0 rfl) ?_
  refine lv_if_lt (tgt := 33) hx hb d_Mo_four4_4 (by decide) (fun hc => absurd hc (by decide)) (fun _ => ?_)
  refine lv_aload_n hx hb d_Mo_four4_7 rfl (lv_at hl 1 rfl) ?_
  refine va_get (D := (dC, dI)) (ci := 12) (v := .ref m_row) (C := R_Mo) (T := F_Mo) (N := 39) hx hb (u_Mo hT) (fun _ h => h) hown hK hP 0 rfl rfl 0 (by decide) (ux_T_at hT tw_1594 rfl) (fun _ h9 => h9) rfl d_Mo_four4_8 ?_
  refine lv_aload_n hx hb d_Mo_four4_11 rfl (lv_at hl 1 rfl) ?_
  refine lv_dup hx hb d_Mo_four4_12 rfl ?_
  refine va_get (D := (dC, dI)) (ci := 12) (v := .int 1) (C := R_Mo) (T := F_Mo) (N := 39) hx hb (u_Mo hT) (fun _ h => h) hown hK hP 0 rfl rfl 3 (by decide) (ux_T_at hT tw_1597 rfl) (fun _ h9 => h9) rfl d_Mo_four4_13 ?_
  refine lv_dup_x1 hx hb d_Mo_four4_16 rfl rfl ?_
  refine lv_iconst (v := 1) hx hb d_Mo_four4_17 (by decide) ?_
  refine lv_iadd hx hb d_Mo_four4_18 ?_
  refine lv_topi (fun x5 ex5 => ?_)
  obtain rfl : x5 = 2 := ex5.trans (by decide)
  refine va_put (D := (dC, dI)) (ci := 12) (v := .int 2) (ty := .int) (C := R_Mo) (T := F_Mo) (N := 39) hx hb (u_Mo hT) (fun _ h => h) t_Mo k_Mo n_Mo hown hK hP hD hS 0 rfl rfl 3 (by decide) (ux_T_at hT tw_1597 rfl) (fun _ h9 => h9) rfl (by decide +kernel) rfl rfl (Nat.le_of_ble_eq_true rfl) d_Mo_four4_19 (fun H locs hP hD hS => ?_)
  have hP : va_P (dC, dI) cls [(h0, .inr (12, [.ref m_row, .ref m_in, .ref m_out, .int 2, .int 0, .int 0, .int 0, .int 0, .ref m_kept, .ref m_keptSize, .ref m_nIp, .ref m_nHeard, .ref m_nHard, .int 0, .int 0, .ref m_gIp, .ref m_gNumber, .ref m_gProtocol, .ref m_gTold, .ref m_gBegun, .ref m_gOrder, .ref m_gBytes, .ref m_gThere, .int 0, .int 0, .ref m_pTarget, .ref m_pBytes, .ref m_pLong, .ref m_pSize, .ref m_pSum, .int 0, .ref m_peer, .int 0, .int 0, .int 0, .int 0, .ref m_answer, .int 0, .int 0])), (m_row, .inl (cM, 2000, .inl f4))] H := hP
  have hD : va_D A [(h0, .inr (12, [.ref m_row, .ref m_in, .ref m_out, .int 2, .int 0, .int 0, .int 0, .int 0, .ref m_kept, .ref m_keptSize, .ref m_nIp, .ref m_nHeard, .ref m_nHard, .int 0, .int 0, .ref m_gIp, .ref m_gNumber, .ref m_gProtocol, .ref m_gTold, .ref m_gBegun, .ref m_gOrder, .ref m_gBytes, .ref m_gThere, .int 0, .int 0, .ref m_pTarget, .ref m_pBytes, .ref m_pLong, .ref m_pSize, .ref m_pSum, .int 0, .ref m_peer, .int 0, .int 0, .int 0, .int 0, .ref m_answer, .int 0, .int 0])), (m_row, .inl (cM, 2000, .inl f4))] := hD
  refine lv_iload_n hx hb d_Mo_four4_22 rfl (lv_at hl 2 rfl) ?_
  refine lv_iload_n hx hb d_Mo_four4_23 rfl (lv_at hl 0 rfl) ?_
  refine lv_ishr hx hb d_Mo_four4_24 ?_
  refine lv_topi (fun x6 ex6 => ?_)
  refine lv_i2b hx hb d_Mo_four4_25 rfl ?_
  refine lv_topi (fun x7 ex7 => ?_)
  refine va_bast hx hb hK hP hD hS 1 0 rfl rfl (i := 1) (show ¬ ((1 : Int32) < 0 ∨ 2000 ≤ (1 : Int32).toNatClampNeg) by decide) d_Mo_four4_26 (fun H locs hP hD hS => ?_)
  have hP : va_P (dC, dI) cls [(h0, .inr (12, [.ref m_row, .ref m_in, .ref m_out, .int 2, .int 0, .int 0, .int 0, .int 0, .ref m_kept, .ref m_keptSize, .ref m_nIp, .ref m_nHeard, .ref m_nHard, .int 0, .int 0, .ref m_gIp, .ref m_gNumber, .ref m_gProtocol, .ref m_gTold, .ref m_gBegun, .ref m_gOrder, .ref m_gBytes, .ref m_gThere, .int 0, .int 0, .ref m_pTarget, .ref m_pBytes, .ref m_pLong, .ref m_pSize, .ref m_pSum, .int 0, .ref m_peer, .int 0, .int 0, .int 0, .int 0, .ref m_answer, .int 0, .int 0])), (m_row, .inl (cM, 2000, .inl (upd f4 (1 : Int32).toNatClampNeg (vp_nar .byte x7))))] H := hP
  have hD : va_D A [(h0, .inr (12, [.ref m_row, .ref m_in, .ref m_out, .int 2, .int 0, .int 0, .int 0, .int 0, .ref m_kept, .ref m_keptSize, .ref m_nIp, .ref m_nHeard, .ref m_nHard, .int 0, .int 0, .ref m_gIp, .ref m_gNumber, .ref m_gProtocol, .ref m_gTold, .ref m_gBegun, .ref m_gOrder, .ref m_gBytes, .ref m_gThere, .int 0, .int 0, .ref m_pTarget, .ref m_pBytes, .ref m_pLong, .ref m_pSize, .ref m_pSum, .int 0, .ref m_peer, .int 0, .int 0, .int 0, .int 0, .ref m_answer, .int 0, .int 0])), (m_row, .inl (cM, 2000, .inl (upd f4 (1 : Int32).toNatClampNeg (vp_nar .byte x7))))] := hD
  generalize upd f4 (1 : Int32).toNatClampNeg (vp_nar .byte x7) = f8 at hP hD
  refine lv_iinc (v := 8) hx hb d_Mo_four4_27 hl (k := 0) rfl (by decide) (by decide) rfl (fun ls hl => ?_)
  have hl : lv_has ls 3 [(2, .int 8), (0, .ref h0), (1, .int v)] := hl
  refine lv_goto hx hb d_Mo_four4_30 (tgt := 3) (by decide) ?_
  refine lv_iload_n hx hb d_Mo_four4_3 rfl (lv_at hl 0 rfl) ?_
  refine lv_if_lt (tgt := 33) hx hb d_Mo_four4_4 (by decide) (fun hc => absurd hc (by decide)) (fun _ => ?_)
  refine lv_aload_n hx hb d_Mo_four4_7 rfl (lv_at hl 1 rfl) ?_
  refine va_get (D := (dC, dI)) (ci := 12) (v := .ref m_row) (C := R_Mo) (T := F_Mo) (N := 39) hx hb (u_Mo hT) (fun _ h => h) hown hK hP 0 rfl rfl 0 (by decide) (ux_T_at hT tw_1594 rfl) (fun _ h9 => h9) rfl d_Mo_four4_8 ?_
  refine lv_aload_n hx hb d_Mo_four4_11 rfl (lv_at hl 1 rfl) ?_
  refine lv_dup hx hb d_Mo_four4_12 rfl ?_
  refine va_get (D := (dC, dI)) (ci := 12) (v := .int 2) (C := R_Mo) (T := F_Mo) (N := 39) hx hb (u_Mo hT) (fun _ h => h) hown hK hP 0 rfl rfl 3 (by decide) (ux_T_at hT tw_1597 rfl) (fun _ h9 => h9) rfl d_Mo_four4_13 ?_
  refine lv_dup_x1 hx hb d_Mo_four4_16 rfl rfl ?_
  refine lv_iconst (v := 1) hx hb d_Mo_four4_17 (by decide) ?_
  refine lv_iadd hx hb d_Mo_four4_18 ?_
  refine lv_topi (fun x9 ex9 => ?_)
  obtain rfl : x9 = 3 := ex9.trans (by decide)
  refine va_put (D := (dC, dI)) (ci := 12) (v := .int 3) (ty := .int) (C := R_Mo) (T := F_Mo) (N := 39) hx hb (u_Mo hT) (fun _ h => h) t_Mo k_Mo n_Mo hown hK hP hD hS 0 rfl rfl 3 (by decide) (ux_T_at hT tw_1597 rfl) (fun _ h9 => h9) rfl (by decide +kernel) rfl rfl (Nat.le_of_ble_eq_true rfl) d_Mo_four4_19 (fun H locs hP hD hS => ?_)
  have hP : va_P (dC, dI) cls [(h0, .inr (12, [.ref m_row, .ref m_in, .ref m_out, .int 3, .int 0, .int 0, .int 0, .int 0, .ref m_kept, .ref m_keptSize, .ref m_nIp, .ref m_nHeard, .ref m_nHard, .int 0, .int 0, .ref m_gIp, .ref m_gNumber, .ref m_gProtocol, .ref m_gTold, .ref m_gBegun, .ref m_gOrder, .ref m_gBytes, .ref m_gThere, .int 0, .int 0, .ref m_pTarget, .ref m_pBytes, .ref m_pLong, .ref m_pSize, .ref m_pSum, .int 0, .ref m_peer, .int 0, .int 0, .int 0, .int 0, .ref m_answer, .int 0, .int 0])), (m_row, .inl (cM, 2000, .inl f8))] H := hP
  have hD : va_D A [(h0, .inr (12, [.ref m_row, .ref m_in, .ref m_out, .int 3, .int 0, .int 0, .int 0, .int 0, .ref m_kept, .ref m_keptSize, .ref m_nIp, .ref m_nHeard, .ref m_nHard, .int 0, .int 0, .ref m_gIp, .ref m_gNumber, .ref m_gProtocol, .ref m_gTold, .ref m_gBegun, .ref m_gOrder, .ref m_gBytes, .ref m_gThere, .int 0, .int 0, .ref m_pTarget, .ref m_pBytes, .ref m_pLong, .ref m_pSize, .ref m_pSum, .int 0, .ref m_peer, .int 0, .int 0, .int 0, .int 0, .ref m_answer, .int 0, .int 0])), (m_row, .inl (cM, 2000, .inl f8))] := hD
  refine lv_iload_n hx hb d_Mo_four4_22 rfl (lv_at hl 2 rfl) ?_
  refine lv_iload_n hx hb d_Mo_four4_23 rfl (lv_at hl 0 rfl) ?_
  refine lv_ishr hx hb d_Mo_four4_24 ?_
  refine lv_topi (fun x10 ex10 => ?_)
  refine lv_i2b hx hb d_Mo_four4_25 rfl ?_
  refine lv_topi (fun x11 ex11 => ?_)
  refine va_bast hx hb hK hP hD hS 1 0 rfl rfl (i := 2) (show ¬ ((2 : Int32) < 0 ∨ 2000 ≤ (2 : Int32).toNatClampNeg) by decide) d_Mo_four4_26 (fun H locs hP hD hS => ?_)
  have hP : va_P (dC, dI) cls [(h0, .inr (12, [.ref m_row, .ref m_in, .ref m_out, .int 3, .int 0, .int 0, .int 0, .int 0, .ref m_kept, .ref m_keptSize, .ref m_nIp, .ref m_nHeard, .ref m_nHard, .int 0, .int 0, .ref m_gIp, .ref m_gNumber, .ref m_gProtocol, .ref m_gTold, .ref m_gBegun, .ref m_gOrder, .ref m_gBytes, .ref m_gThere, .int 0, .int 0, .ref m_pTarget, .ref m_pBytes, .ref m_pLong, .ref m_pSize, .ref m_pSum, .int 0, .ref m_peer, .int 0, .int 0, .int 0, .int 0, .ref m_answer, .int 0, .int 0])), (m_row, .inl (cM, 2000, .inl (upd f8 (2 : Int32).toNatClampNeg (vp_nar .byte x11))))] H := hP
  have hD : va_D A [(h0, .inr (12, [.ref m_row, .ref m_in, .ref m_out, .int 3, .int 0, .int 0, .int 0, .int 0, .ref m_kept, .ref m_keptSize, .ref m_nIp, .ref m_nHeard, .ref m_nHard, .int 0, .int 0, .ref m_gIp, .ref m_gNumber, .ref m_gProtocol, .ref m_gTold, .ref m_gBegun, .ref m_gOrder, .ref m_gBytes, .ref m_gThere, .int 0, .int 0, .ref m_pTarget, .ref m_pBytes, .ref m_pLong, .ref m_pSize, .ref m_pSum, .int 0, .ref m_peer, .int 0, .int 0, .int 0, .int 0, .ref m_answer, .int 0, .int 0])), (m_row, .inl (cM, 2000, .inl (upd f8 (2 : Int32).toNatClampNeg (vp_nar .byte x11))))] := hD
  generalize upd f8 (2 : Int32).toNatClampNeg (vp_nar .byte x11) = f12 at hP hD
  refine lv_iinc (v := 0) hx hb d_Mo_four4_27 hl (k := 0) rfl (by decide) (by decide) rfl (fun ls hl => ?_)
  have hl : lv_has ls 3 [(2, .int 0), (0, .ref h0), (1, .int v)] := hl
  refine lv_goto hx hb d_Mo_four4_30 (tgt := 3) (by decide) ?_
  refine lv_iload_n hx hb d_Mo_four4_3 rfl (lv_at hl 0 rfl) ?_
  refine lv_if_lt (tgt := 33) hx hb d_Mo_four4_4 (by decide) (fun hc => absurd hc (by decide)) (fun _ => ?_)
  refine lv_aload_n hx hb d_Mo_four4_7 rfl (lv_at hl 1 rfl) ?_
  refine va_get (D := (dC, dI)) (ci := 12) (v := .ref m_row) (C := R_Mo) (T := F_Mo) (N := 39) hx hb (u_Mo hT) (fun _ h => h) hown hK hP 0 rfl rfl 0 (by decide) (ux_T_at hT tw_1594 rfl) (fun _ h9 => h9) rfl d_Mo_four4_8 ?_
  refine lv_aload_n hx hb d_Mo_four4_11 rfl (lv_at hl 1 rfl) ?_
  refine lv_dup hx hb d_Mo_four4_12 rfl ?_
  refine va_get (D := (dC, dI)) (ci := 12) (v := .int 3) (C := R_Mo) (T := F_Mo) (N := 39) hx hb (u_Mo hT) (fun _ h => h) hown hK hP 0 rfl rfl 3 (by decide) (ux_T_at hT tw_1597 rfl) (fun _ h9 => h9) rfl d_Mo_four4_13 ?_
  refine lv_dup_x1 hx hb d_Mo_four4_16 rfl rfl ?_
  refine lv_iconst (v := 1) hx hb d_Mo_four4_17 (by decide) ?_
  refine lv_iadd hx hb d_Mo_four4_18 ?_
  refine lv_topi (fun x13 ex13 => ?_)
  obtain rfl : x13 = 4 := ex13.trans (by decide)
  refine va_put (D := (dC, dI)) (ci := 12) (v := .int 4) (ty := .int) (C := R_Mo) (T := F_Mo) (N := 39) hx hb (u_Mo hT) (fun _ h => h) t_Mo k_Mo n_Mo hown hK hP hD hS 0 rfl rfl 3 (by decide) (ux_T_at hT tw_1597 rfl) (fun _ h9 => h9) rfl (by decide +kernel) rfl rfl (Nat.le_of_ble_eq_true rfl) d_Mo_four4_19 (fun H locs hP hD hS => ?_)
  have hP : va_P (dC, dI) cls [(h0, .inr (12, [.ref m_row, .ref m_in, .ref m_out, .int 4, .int 0, .int 0, .int 0, .int 0, .ref m_kept, .ref m_keptSize, .ref m_nIp, .ref m_nHeard, .ref m_nHard, .int 0, .int 0, .ref m_gIp, .ref m_gNumber, .ref m_gProtocol, .ref m_gTold, .ref m_gBegun, .ref m_gOrder, .ref m_gBytes, .ref m_gThere, .int 0, .int 0, .ref m_pTarget, .ref m_pBytes, .ref m_pLong, .ref m_pSize, .ref m_pSum, .int 0, .ref m_peer, .int 0, .int 0, .int 0, .int 0, .ref m_answer, .int 0, .int 0])), (m_row, .inl (cM, 2000, .inl f12))] H := hP
  have hD : va_D A [(h0, .inr (12, [.ref m_row, .ref m_in, .ref m_out, .int 4, .int 0, .int 0, .int 0, .int 0, .ref m_kept, .ref m_keptSize, .ref m_nIp, .ref m_nHeard, .ref m_nHard, .int 0, .int 0, .ref m_gIp, .ref m_gNumber, .ref m_gProtocol, .ref m_gTold, .ref m_gBegun, .ref m_gOrder, .ref m_gBytes, .ref m_gThere, .int 0, .int 0, .ref m_pTarget, .ref m_pBytes, .ref m_pLong, .ref m_pSize, .ref m_pSum, .int 0, .ref m_peer, .int 0, .int 0, .int 0, .int 0, .ref m_answer, .int 0, .int 0])), (m_row, .inl (cM, 2000, .inl f12))] := hD
  refine lv_iload_n hx hb d_Mo_four4_22 rfl (lv_at hl 2 rfl) ?_
  refine lv_iload_n hx hb d_Mo_four4_23 rfl (lv_at hl 0 rfl) ?_
  refine lv_ishr hx hb d_Mo_four4_24 ?_
  refine lv_topi (fun x14 ex14 => ?_)
  refine lv_i2b hx hb d_Mo_four4_25 rfl ?_
  refine lv_topi (fun x15 ex15 => ?_)
  refine va_bast hx hb hK hP hD hS 1 0 rfl rfl (i := 3) (show ¬ ((3 : Int32) < 0 ∨ 2000 ≤ (3 : Int32).toNatClampNeg) by decide) d_Mo_four4_26 (fun H locs hP hD hS => ?_)
  have hP : va_P (dC, dI) cls [(h0, .inr (12, [.ref m_row, .ref m_in, .ref m_out, .int 4, .int 0, .int 0, .int 0, .int 0, .ref m_kept, .ref m_keptSize, .ref m_nIp, .ref m_nHeard, .ref m_nHard, .int 0, .int 0, .ref m_gIp, .ref m_gNumber, .ref m_gProtocol, .ref m_gTold, .ref m_gBegun, .ref m_gOrder, .ref m_gBytes, .ref m_gThere, .int 0, .int 0, .ref m_pTarget, .ref m_pBytes, .ref m_pLong, .ref m_pSize, .ref m_pSum, .int 0, .ref m_peer, .int 0, .int 0, .int 0, .int 0, .ref m_answer, .int 0, .int 0])), (m_row, .inl (cM, 2000, .inl (upd f12 (3 : Int32).toNatClampNeg (vp_nar .byte x15))))] H := hP
  have hD : va_D A [(h0, .inr (12, [.ref m_row, .ref m_in, .ref m_out, .int 4, .int 0, .int 0, .int 0, .int 0, .ref m_kept, .ref m_keptSize, .ref m_nIp, .ref m_nHeard, .ref m_nHard, .int 0, .int 0, .ref m_gIp, .ref m_gNumber, .ref m_gProtocol, .ref m_gTold, .ref m_gBegun, .ref m_gOrder, .ref m_gBytes, .ref m_gThere, .int 0, .int 0, .ref m_pTarget, .ref m_pBytes, .ref m_pLong, .ref m_pSize, .ref m_pSum, .int 0, .ref m_peer, .int 0, .int 0, .int 0, .int 0, .ref m_answer, .int 0, .int 0])), (m_row, .inl (cM, 2000, .inl (upd f12 (3 : Int32).toNatClampNeg (vp_nar .byte x15))))] := hD
  generalize upd f12 (3 : Int32).toNatClampNeg (vp_nar .byte x15) = f16 at hP hD
  refine lv_iinc (v := (-8)) hx hb d_Mo_four4_27 hl (k := 0) rfl (by decide) (by decide) rfl (fun ls hl => ?_)
  have hl : lv_has ls 3 [(2, .int (-8)), (0, .ref h0), (1, .int v)] := hl
  refine lv_goto hx hb d_Mo_four4_30 (tgt := 3) (by decide) ?_
  refine lv_iload_n hx hb d_Mo_four4_3 rfl (lv_at hl 0 rfl) ?_
  refine lv_if_lt (tgt := 33) hx hb d_Mo_four4_4 (by decide) (fun _ => ?_) (fun hc => absurd (by decide) hc)
  have hP9 := hP.sub (ws' := [(h0, .inr (12, [.ref m_row, .ref m_in, .ref m_out, .int 4, .int 0, .int 0, .int 0, .int 0, .ref m_kept, .ref m_keptSize, .ref m_nIp, .ref m_nHeard, .ref m_nHard, .int 0, .int 0, .ref m_gIp, .ref m_gNumber, .ref m_gProtocol, .ref m_gTold, .ref m_gBegun, .ref m_gOrder, .ref m_gBytes, .ref m_gThere, .int 0, .int 0, .ref m_pTarget, .ref m_pBytes, .ref m_pLong, .ref m_pSize, .ref m_pSum, .int 0, .ref m_peer, .int 0, .int 0, .int 0, .int 0, .ref m_answer, .int 0, .int 0])), (m_row, .inl (cM, 2000, .inl f16))]) [0, 1] rfl
  have hD9 := hD.sub (ws' := [(h0, .inr (12, [.ref m_row, .ref m_in, .ref m_out, .int 4, .int 0, .int 0, .int 0, .int 0, .ref m_kept, .ref m_keptSize, .ref m_nIp, .ref m_nHeard, .ref m_nHard, .int 0, .int 0, .ref m_gIp, .ref m_gNumber, .ref m_gProtocol, .ref m_gTold, .ref m_gBegun, .ref m_gOrder, .ref m_gBytes, .ref m_gThere, .int 0, .int 0, .ref m_pTarget, .ref m_pBytes, .ref m_pLong, .ref m_pSize, .ref m_pSum, .int 0, .ref m_peer, .int 0, .int 0, .int 0, .int 0, .ref m_answer, .int 0, .int 0])), (m_row, .inl (cM, 2000, .inl f16))]) [0, 1] (by decide) rfl
  have hK9 := hK.sub (tys' := [(cM, .byte)]) [0] rfl
  refine W.widen (k := 0) (n := 0) (Nat.le_of_ble_eq_true rfl) (Nat.le_of_ble_eq_true rfl) ?_
  exact W.vret hx hb hr (fun t ht hW => ⟨⟨(), rfl, trivial, f16, by rw [ht]; exact hP9, va_K.moved hW.alike hK9, hD9⟩, hS.F ht⟩) hS.2.2 d_Mo_four4_33
set_option maxHeartbeats 4000000 in
set_option maxRecDepth 100000 in
theorem c_Mo_four4_4 (l : Launch) (dC : Nat → ClassId) (dI : Nat → Nat → Nat) (h0 : Nat) (m_row : Nat) (m_in : Nat) (m_out : Nat) (m_kept : Nat) (m_keptSize : Nat) (m_nIp : Nat) (m_nHeard : Nat) (m_nHard : Nat) (m_gIp : Nat) (m_gNumber : Nat) (m_gProtocol : Nat) (m_gTold : Nat) (m_gBegun : Nat) (m_gOrder : Nat) (m_gBytes : Nat) (m_gThere : Nat) (m_pTarget : Nat) (m_pBytes : Nat) (m_pLong : Nat) (m_pSize : Nat) (m_pSum : Nat) (m_peer : Nat) (m_answer : Nat) (cM : ClassId) (v : Int32) (f : Nat → Int32) (sz : Nat) : Met l y_Mo_four4 [Cond.code y_Mo_four4 b_Mo_four4 3 (none)] ({ frames := 20, cells := 0, slots := 0, locals := 300 }) (ux_Pc [.ref h0, .int v] (dC, dI) cls [(h0, .inr (12, [.ref m_row, .ref m_in, .ref m_out, .int 4, .int 0, .int 0, .int 0, .int 0, .ref m_kept, .ref m_keptSize, .ref m_nIp, .ref m_nHeard, .ref m_nHard, .int 0, .int 0, .ref m_gIp, .ref m_gNumber, .ref m_gProtocol, .ref m_gTold, .ref m_gBegun, .ref m_gOrder, .ref m_gBytes, .ref m_gThere, .int 0, .int 0, .ref m_pTarget, .ref m_pBytes, .ref m_pLong, .ref m_pSize, .ref m_pSum, .int 0, .ref m_peer, .int 0, .int 0, .int 0, .int 0, .ref m_answer, .int 0, .int 0])), (m_row, .inl (cM, 2000, .inl f))] [(cM, .byte)] sz) (va_Qv (fun _ : Unit => True) (fun (_ : Unit) (t : State) => ∃ (f2 : Nat → Int32), ux_B (dC, dI) cls (va_A [(h0, .inr (12, [.ref m_row, .ref m_in, .ref m_out, .int 4, .int 0, .int 0, .int 0, .int 0, .ref m_kept, .ref m_keptSize, .ref m_nIp, .ref m_nHeard, .ref m_nHard, .int 0, .int 0, .ref m_gIp, .ref m_gNumber, .ref m_gProtocol, .ref m_gTold, .ref m_gBegun, .ref m_gOrder, .ref m_gBytes, .ref m_gThere, .int 0, .int 0, .ref m_pTarget, .ref m_pBytes, .ref m_pLong, .ref m_pSize, .ref m_pSum, .int 0, .ref m_peer, .int 0, .int 0, .int 0, .int 0, .ref m_answer, .int 0, .int 0])), (m_row, .inl (cM, 2000, .inl f))] sz) [(h0, .inr (12, [.ref m_row, .ref m_in, .ref m_out, .int 8, .int 0, .int 0, .int 0, .int 0, .ref m_kept, .ref m_keptSize, .ref m_nIp, .ref m_nHeard, .ref m_nHard, .int 0, .int 0, .ref m_gIp, .ref m_gNumber, .ref m_gProtocol, .ref m_gTold, .ref m_gBegun, .ref m_gOrder, .ref m_gBytes, .ref m_gThere, .int 0, .int 0, .ref m_pTarget, .ref m_pBytes, .ref m_pLong, .ref m_pSize, .ref m_pSum, .int 0, .ref m_peer, .int 0, .int 0, .int 0, .int 0, .ref m_answer, .int 0, .int 0])), (m_row, .inl (cM, 2000, .inl f2))] [(cM, .byte)] t) (va_A [(h0, .inr (12, [.ref m_row, .ref m_in, .ref m_out, .int 4, .int 0, .int 0, .int 0, .int 0, .ref m_kept, .ref m_keptSize, .ref m_nIp, .ref m_nHeard, .ref m_nHard, .int 0, .int 0, .ref m_gIp, .ref m_gNumber, .ref m_gProtocol, .ref m_gTold, .ref m_gBegun, .ref m_gOrder, .ref m_gBytes, .ref m_gThere, .int 0, .int 0, .ref m_pTarget, .ref m_pBytes, .ref m_pLong, .ref m_pSize, .ref m_pSum, .int 0, .ref m_peer, .int 0, .int 0, .int 0, .int 0, .ref m_answer, .int 0, .int 0])), (m_row, .inl (cM, 2000, .inl f))] sz)) 0 0 (va_A [(h0, .inr (12, [.ref m_row, .ref m_in, .ref m_out, .int 4, .int 0, .int 0, .int 0, .int 0, .ref m_kept, .ref m_keptSize, .ref m_nIp, .ref m_nHeard, .ref m_nHard, .int 0, .int 0, .ref m_gIp, .ref m_gNumber, .ref m_gProtocol, .ref m_gTold, .ref m_gBegun, .ref m_gOrder, .ref m_gBytes, .ref m_gThere, .int 0, .int 0, .ref m_pTarget, .ref m_pBytes, .ref m_pLong, .ref m_pSize, .ref m_pSum, .int 0, .ref m_peer, .int 0, .int 0, .int 0, .int 0, .ref m_answer, .int 0, .int 0])), (m_row, .inl (cM, 2000, .inl f))] sz) := by
  refine Met.ofW (cc := b_Mo_four4) (maxL := 3) (ret := none) (by decide) rfl ?_
  intro p e s m args below meth c s₁ B hml hv
  obtain ⟨rfl, hsz, hP, hK, hD0, hT⟩ := hv
  have hx := B.exec
  have hb := B.bytes
  have hr := B.returns
  have hown : s.vm.findClass "UnikernelHttpModel" = some m.cls := findClass_of_methodNamed B.named
  have hlocks := B.notSynchronized
  subst hsz
  have hD := hD0.self (sz := s.heap.size)
  have hns := ux_ns hP
  generalize hAe : va_A [(h0, .inr (12, [.ref m_row, .ref m_in, .ref m_out, .int 4, .int 0, .int 0, .int 0, .int 0, .ref m_kept, .ref m_keptSize, .ref m_nIp, .ref m_nHeard, .ref m_nHard, .int 0, .int 0, .ref m_gIp, .ref m_gNumber, .ref m_gProtocol, .ref m_gTold, .ref m_gBegun, .ref m_gOrder, .ref m_gBytes, .ref m_gThere, .int 0, .int 0, .ref m_pTarget, .ref m_pBytes, .ref m_pLong, .ref m_pSize, .ref m_pSum, .int 0, .ref m_peer, .int 0, .int 0, .int 0, .int 0, .ref m_answer, .int 0, .int 0])), (m_row, .inl (cM, 2000, .inl f))] s.heap.size = A at hD hns ⊢
  have hA : ∀ q : Nat, s.heap.size ≤ q → A q := fun q h => by rw [← hAe]; exact Or.inr h
  have hS : va_S A s.heap s.heap [] := va_S.rf
  have hl := lv_entry ([.ref h0, .int v]) (n := 3) (Nat.le_of_ble_eq_true rfl)
  rw [lg_entry_eq]
  generalize (lg_sl ([.ref h0, .int v]) ++ List.replicate (3 - (lg_sl ([.ref h0, .int v])).length) Slot.unset).toArray = ls at hl ⊢
  have hl : lv_has ls 3 [(0, .ref h0), (1, .int v)] := hl
  have hfx : CallFix p m c b_Mo_four4 3 s ([.ref h0, .int v] : List Value).toArray [] "UnikernelHttpModel" := ⟨hx, hb, hml, hown, fun _ h => by cases h⟩
  refine lv_bipush (v := 24) hx hb d_Mo_four4_0 (by decide) ?_
  refine lv_istore_n hx hb d_Mo_four4_2 rfl hl (by decide) rfl (fun ls hl => ?_)
  have hl : lv_has ls 3 [(2, .int 24), (0, .ref h0), (1, .int v)] := hl
  refine lv_iload_n hx hb d_Mo_four4_3 rfl (lv_at hl 0 rfl) ?_
  refine lv_if_lt (tgt := 33) hx hb d_Mo_four4_4 (by decide) (fun hc => absurd hc (by decide)) (fun _ => ?_)
  refine lv_aload_n hx hb d_Mo_four4_7 rfl (lv_at hl 1 rfl) ?_
  refine va_get (D := (dC, dI)) (ci := 12) (v := .ref m_row) (C := R_Mo) (T := F_Mo) (N := 39) hx hb (u_Mo hT) (fun _ h => h) hown hK hP 0 rfl rfl 0 (by decide) (ux_T_at hT tw_1594 rfl) (fun _ h9 => h9) rfl d_Mo_four4_8 ?_
  refine lv_aload_n hx hb d_Mo_four4_11 rfl (lv_at hl 1 rfl) ?_
  refine lv_dup hx hb d_Mo_four4_12 rfl ?_
  refine va_get (D := (dC, dI)) (ci := 12) (v := .int 4) (C := R_Mo) (T := F_Mo) (N := 39) hx hb (u_Mo hT) (fun _ h => h) hown hK hP 0 rfl rfl 3 (by decide) (ux_T_at hT tw_1597 rfl) (fun _ h9 => h9) rfl d_Mo_four4_13 ?_
  refine lv_dup_x1 hx hb d_Mo_four4_16 rfl rfl ?_
  refine lv_iconst (v := 1) hx hb d_Mo_four4_17 (by decide) ?_
  refine lv_iadd hx hb d_Mo_four4_18 ?_
  refine lv_topi (fun x1 ex1 => ?_)
  obtain rfl : x1 = 5 := ex1.trans (by decide)
  refine va_put (D := (dC, dI)) (ci := 12) (v := .int 5) (ty := .int) (C := R_Mo) (T := F_Mo) (N := 39) hx hb (u_Mo hT) (fun _ h => h) t_Mo k_Mo n_Mo hown hK hP hD hS 0 rfl rfl 3 (by decide) (ux_T_at hT tw_1597 rfl) (fun _ h9 => h9) rfl (by decide +kernel) rfl rfl (Nat.le_of_ble_eq_true rfl) d_Mo_four4_19 (fun H locs hP hD hS => ?_)
  have hP : va_P (dC, dI) cls [(h0, .inr (12, [.ref m_row, .ref m_in, .ref m_out, .int 5, .int 0, .int 0, .int 0, .int 0, .ref m_kept, .ref m_keptSize, .ref m_nIp, .ref m_nHeard, .ref m_nHard, .int 0, .int 0, .ref m_gIp, .ref m_gNumber, .ref m_gProtocol, .ref m_gTold, .ref m_gBegun, .ref m_gOrder, .ref m_gBytes, .ref m_gThere, .int 0, .int 0, .ref m_pTarget, .ref m_pBytes, .ref m_pLong, .ref m_pSize, .ref m_pSum, .int 0, .ref m_peer, .int 0, .int 0, .int 0, .int 0, .ref m_answer, .int 0, .int 0])), (m_row, .inl (cM, 2000, .inl f))] H := hP
  have hD : va_D A [(h0, .inr (12, [.ref m_row, .ref m_in, .ref m_out, .int 5, .int 0, .int 0, .int 0, .int 0, .ref m_kept, .ref m_keptSize, .ref m_nIp, .ref m_nHeard, .ref m_nHard, .int 0, .int 0, .ref m_gIp, .ref m_gNumber, .ref m_gProtocol, .ref m_gTold, .ref m_gBegun, .ref m_gOrder, .ref m_gBytes, .ref m_gThere, .int 0, .int 0, .ref m_pTarget, .ref m_pBytes, .ref m_pLong, .ref m_pSize, .ref m_pSum, .int 0, .ref m_peer, .int 0, .int 0, .int 0, .int 0, .ref m_answer, .int 0, .int 0])), (m_row, .inl (cM, 2000, .inl f))] := hD
  refine lv_iload_n hx hb d_Mo_four4_22 rfl (lv_at hl 2 rfl) ?_
  refine lv_iload_n hx hb d_Mo_four4_23 rfl (lv_at hl 0 rfl) ?_
  refine lv_ishr hx hb d_Mo_four4_24 ?_
  refine lv_topi (fun x2 ex2 => ?_)
  refine lv_i2b hx hb d_Mo_four4_25 rfl ?_
  refine lv_topi (fun x3 ex3 => ?_)
  refine va_bast hx hb hK hP hD hS 1 0 rfl rfl (i := 4) (show ¬ ((4 : Int32) < 0 ∨ 2000 ≤ (4 : Int32).toNatClampNeg) by decide) d_Mo_four4_26 (fun H locs hP hD hS => ?_)
  have hP : va_P (dC, dI) cls [(h0, .inr (12, [.ref m_row, .ref m_in, .ref m_out, .int 5, .int 0, .int 0, .int 0, .int 0, .ref m_kept, .ref m_keptSize, .ref m_nIp, .ref m_nHeard, .ref m_nHard, .int 0, .int 0, .ref m_gIp, .ref m_gNumber, .ref m_gProtocol, .ref m_gTold, .ref m_gBegun, .ref m_gOrder, .ref m_gBytes, .ref m_gThere, .int 0, .int 0, .ref m_pTarget, .ref m_pBytes, .ref m_pLong, .ref m_pSize, .ref m_pSum, .int 0, .ref m_peer, .int 0, .int 0, .int 0, .int 0, .ref m_answer, .int 0, .int 0])), (m_row, .inl (cM, 2000, .inl (upd f (4 : Int32).toNatClampNeg (vp_nar .byte x3))))] H := hP
  have hD : va_D A [(h0, .inr (12, [.ref m_row, .ref m_in, .ref m_out, .int 5, .int 0, .int 0, .int 0, .int 0, .ref m_kept, .ref m_keptSize, .ref m_nIp, .ref m_nHeard, .ref m_nHard, .int 0, .int 0, .ref m_gIp, .ref m_gNumber, .ref m_gProtocol, .ref m_gTold, .ref m_gBegun, .ref m_gOrder, .ref m_gBytes, .ref m_gThere, .int 0, .int 0, .ref m_pTarget, .ref m_pBytes, .ref m_pLong, .ref m_pSize, .ref m_pSum, .int 0, .ref m_peer, .int 0, .int 0, .int 0, .int 0, .ref m_answer, .int 0, .int 0])), (m_row, .inl (cM, 2000, .inl (upd f (4 : Int32).toNatClampNeg (vp_nar .byte x3))))] := hD
  generalize upd f (4 : Int32).toNatClampNeg (vp_nar .byte x3) = f4 at hP hD
  refine lv_iinc (v := 16) hx hb d_Mo_four4_27 hl (k := 0) rfl (by decide) (by decide) rfl (fun ls hl => ?_)
  have hl : lv_has ls 3 [(2, .int 16), (0, .ref h0), (1, .int v)] := hl
  refine lv_goto hx hb d_Mo_four4_30 (tgt := 3) (by decide) ?_
  refine lv_iload_n hx hb d_Mo_four4_3 rfl (lv_at hl 0 rfl) ?_
  refine lv_if_lt (tgt := 33) hx hb d_Mo_four4_4 (by decide) (fun hc => absurd hc (by decide)) (fun _ => ?_)
  refine lv_aload_n hx hb d_Mo_four4_7 rfl (lv_at hl 1 rfl) ?_
  refine va_get (D := (dC, dI)) (ci := 12) (v := .ref m_row) (C := R_Mo) (T := F_Mo) (N := 39) hx hb (u_Mo hT) (fun _ h => h) hown hK hP 0 rfl rfl 0 (by decide) (ux_T_at hT tw_1594 rfl) (fun _ h9 => h9) rfl d_Mo_four4_8 ?_
  refine lv_aload_n hx hb d_Mo_four4_11 rfl (lv_at hl 1 rfl) ?_
  refine lv_dup hx hb d_Mo_four4_12 rfl ?_
  refine va_get (D := (dC, dI)) (ci := 12) (v := .int 5) (C := R_Mo) (T := F_Mo) (N := 39) hx hb (u_Mo hT) (fun _ h => h) hown hK hP 0 rfl rfl 3 (by decide) (ux_T_at hT tw_1597 rfl) (fun _ h9 => h9) rfl d_Mo_four4_13 ?_
  refine lv_dup_x1 hx hb d_Mo_four4_16 rfl rfl ?_
  refine lv_iconst (v := 1) hx hb d_Mo_four4_17 (by decide) ?_
  refine lv_iadd hx hb d_Mo_four4_18 ?_
  refine lv_topi (fun x5 ex5 => ?_)
  obtain rfl : x5 = 6 := ex5.trans (by decide)
  refine va_put (D := (dC, dI)) (ci := 12) (v := .int 6) (ty := .int) (C := R_Mo) (T := F_Mo) (N := 39) hx hb (u_Mo hT) (fun _ h => h) t_Mo k_Mo n_Mo hown hK hP hD hS 0 rfl rfl 3 (by decide) (ux_T_at hT tw_1597 rfl) (fun _ h9 => h9) rfl (by decide +kernel) rfl rfl (Nat.le_of_ble_eq_true rfl) d_Mo_four4_19 (fun H locs hP hD hS => ?_)
  have hP : va_P (dC, dI) cls [(h0, .inr (12, [.ref m_row, .ref m_in, .ref m_out, .int 6, .int 0, .int 0, .int 0, .int 0, .ref m_kept, .ref m_keptSize, .ref m_nIp, .ref m_nHeard, .ref m_nHard, .int 0, .int 0, .ref m_gIp, .ref m_gNumber, .ref m_gProtocol, .ref m_gTold, .ref m_gBegun, .ref m_gOrder, .ref m_gBytes, .ref m_gThere, .int 0, .int 0, .ref m_pTarget, .ref m_pBytes, .ref m_pLong, .ref m_pSize, .ref m_pSum, .int 0, .ref m_peer, .int 0, .int 0, .int 0, .int 0, .ref m_answer, .int 0, .int 0])), (m_row, .inl (cM, 2000, .inl f4))] H := hP
  have hD : va_D A [(h0, .inr (12, [.ref m_row, .ref m_in, .ref m_out, .int 6, .int 0, .int 0, .int 0, .int 0, .ref m_kept, .ref m_keptSize, .ref m_nIp, .ref m_nHeard, .ref m_nHard, .int 0, .int 0, .ref m_gIp, .ref m_gNumber, .ref m_gProtocol, .ref m_gTold, .ref m_gBegun, .ref m_gOrder, .ref m_gBytes, .ref m_gThere, .int 0, .int 0, .ref m_pTarget, .ref m_pBytes, .ref m_pLong, .ref m_pSize, .ref m_pSum, .int 0, .ref m_peer, .int 0, .int 0, .int 0, .int 0, .ref m_answer, .int 0, .int 0])), (m_row, .inl (cM, 2000, .inl f4))] := hD
  refine lv_iload_n hx hb d_Mo_four4_22 rfl (lv_at hl 2 rfl) ?_
  refine lv_iload_n hx hb d_Mo_four4_23 rfl (lv_at hl 0 rfl) ?_
  refine lv_ishr hx hb d_Mo_four4_24 ?_
  refine lv_topi (fun x6 ex6 => ?_)
  refine lv_i2b hx hb d_Mo_four4_25 rfl ?_
  refine lv_topi (fun x7 ex7 => ?_)
  refine va_bast hx hb hK hP hD hS 1 0 rfl rfl (i := 5) (show ¬ ((5 : Int32) < 0 ∨ 2000 ≤ (5 : Int32).toNatClampNeg) by decide) d_Mo_four4_26 (fun H locs hP hD hS => ?_)
  have hP : va_P (dC, dI) cls [(h0, .inr (12, [.ref m_row, .ref m_in, .ref m_out, .int 6, .int 0, .int 0, .int 0, .int 0, .ref m_kept, .ref m_keptSize, .ref m_nIp, .ref m_nHeard, .ref m_nHard, .int 0, .int 0, .ref m_gIp, .ref m_gNumber, .ref m_gProtocol, .ref m_gTold, .ref m_gBegun, .ref m_gOrder, .ref m_gBytes, .ref m_gThere, .int 0, .int 0, .ref m_pTarget, .ref m_pBytes, .ref m_pLong, .ref m_pSize, .ref m_pSum, .int 0, .ref m_peer, .int 0, .int 0, .int 0, .int 0, .ref m_answer, .int 0, .int 0])), (m_row, .inl (cM, 2000, .inl (upd f4 (5 : Int32).toNatClampNeg (vp_nar .byte x7))))] H := hP
  have hD : va_D A [(h0, .inr (12, [.ref m_row, .ref m_in, .ref m_out, .int 6, .int 0, .int 0, .int 0, .int 0, .ref m_kept, .ref m_keptSize, .ref m_nIp, .ref m_nHeard, .ref m_nHard, .int 0, .int 0, .ref m_gIp, .ref m_gNumber, .ref m_gProtocol, .ref m_gTold, .ref m_gBegun, .ref m_gOrder, .ref m_gBytes, .ref m_gThere, .int 0, .int 0, .ref m_pTarget, .ref m_pBytes, .ref m_pLong, .ref m_pSize, .ref m_pSum, .int 0, .ref m_peer, .int 0, .int 0, .int 0, .int 0, .ref m_answer, .int 0, .int 0])), (m_row, .inl (cM, 2000, .inl (upd f4 (5 : Int32).toNatClampNeg (vp_nar .byte x7))))] := hD
  generalize upd f4 (5 : Int32).toNatClampNeg (vp_nar .byte x7) = f8 at hP hD
  refine lv_iinc (v := 8) hx hb d_Mo_four4_27 hl (k := 0) rfl (by decide) (by decide) rfl (fun ls hl => ?_)
  have hl : lv_has ls 3 [(2, .int 8), (0, .ref h0), (1, .int v)] := hl
  refine lv_goto hx hb d_Mo_four4_30 (tgt := 3) (by decide) ?_
  refine lv_iload_n hx hb d_Mo_four4_3 rfl (lv_at hl 0 rfl) ?_
  refine lv_if_lt (tgt := 33) hx hb d_Mo_four4_4 (by decide) (fun hc => absurd hc (by decide)) (fun _ => ?_)
  refine lv_aload_n hx hb d_Mo_four4_7 rfl (lv_at hl 1 rfl) ?_
  refine va_get (D := (dC, dI)) (ci := 12) (v := .ref m_row) (C := R_Mo) (T := F_Mo) (N := 39) hx hb (u_Mo hT) (fun _ h => h) hown hK hP 0 rfl rfl 0 (by decide) (ux_T_at hT tw_1594 rfl) (fun _ h9 => h9) rfl d_Mo_four4_8 ?_
  refine lv_aload_n hx hb d_Mo_four4_11 rfl (lv_at hl 1 rfl) ?_
  refine lv_dup hx hb d_Mo_four4_12 rfl ?_
  refine va_get (D := (dC, dI)) (ci := 12) (v := .int 6) (C := R_Mo) (T := F_Mo) (N := 39) hx hb (u_Mo hT) (fun _ h => h) hown hK hP 0 rfl rfl 3 (by decide) (ux_T_at hT tw_1597 rfl) (fun _ h9 => h9) rfl d_Mo_four4_13 ?_
  refine lv_dup_x1 hx hb d_Mo_four4_16 rfl rfl ?_
  refine lv_iconst (v := 1) hx hb d_Mo_four4_17 (by decide) ?_
  refine lv_iadd hx hb d_Mo_four4_18 ?_
  refine lv_topi (fun x9 ex9 => ?_)
  obtain rfl : x9 = 7 := ex9.trans (by decide)
  refine va_put (D := (dC, dI)) (ci := 12) (v := .int 7) (ty := .int) (C := R_Mo) (T := F_Mo) (N := 39) hx hb (u_Mo hT) (fun _ h => h) t_Mo k_Mo n_Mo hown hK hP hD hS 0 rfl rfl 3 (by decide) (ux_T_at hT tw_1597 rfl) (fun _ h9 => h9) rfl (by decide +kernel) rfl rfl (Nat.le_of_ble_eq_true rfl) d_Mo_four4_19 (fun H locs hP hD hS => ?_)
  have hP : va_P (dC, dI) cls [(h0, .inr (12, [.ref m_row, .ref m_in, .ref m_out, .int 7, .int 0, .int 0, .int 0, .int 0, .ref m_kept, .ref m_keptSize, .ref m_nIp, .ref m_nHeard, .ref m_nHard, .int 0, .int 0, .ref m_gIp, .ref m_gNumber, .ref m_gProtocol, .ref m_gTold, .ref m_gBegun, .ref m_gOrder, .ref m_gBytes, .ref m_gThere, .int 0, .int 0, .ref m_pTarget, .ref m_pBytes, .ref m_pLong, .ref m_pSize, .ref m_pSum, .int 0, .ref m_peer, .int 0, .int 0, .int 0, .int 0, .ref m_answer, .int 0, .int 0])), (m_row, .inl (cM, 2000, .inl f8))] H := hP
  have hD : va_D A [(h0, .inr (12, [.ref m_row, .ref m_in, .ref m_out, .int 7, .int 0, .int 0, .int 0, .int 0, .ref m_kept, .ref m_keptSize, .ref m_nIp, .ref m_nHeard, .ref m_nHard, .int 0, .int 0, .ref m_gIp, .ref m_gNumber, .ref m_gProtocol, .ref m_gTold, .ref m_gBegun, .ref m_gOrder, .ref m_gBytes, .ref m_gThere, .int 0, .int 0, .ref m_pTarget, .ref m_pBytes, .ref m_pLong, .ref m_pSize, .ref m_pSum, .int 0, .ref m_peer, .int 0, .int 0, .int 0, .int 0, .ref m_answer, .int 0, .int 0])), (m_row, .inl (cM, 2000, .inl f8))] := hD
  refine lv_iload_n hx hb d_Mo_four4_22 rfl (lv_at hl 2 rfl) ?_
  refine lv_iload_n hx hb d_Mo_four4_23 rfl (lv_at hl 0 rfl) ?_
  refine lv_ishr hx hb d_Mo_four4_24 ?_
  refine lv_topi (fun x10 ex10 => ?_)
  refine lv_i2b hx hb d_Mo_four4_25 rfl ?_
  refine lv_topi (fun x11 ex11 => ?_)
  refine va_bast hx hb hK hP hD hS 1 0 rfl rfl (i := 6) (show ¬ ((6 : Int32) < 0 ∨ 2000 ≤ (6 : Int32).toNatClampNeg) by decide) d_Mo_four4_26 (fun H locs hP hD hS => ?_)
  have hP : va_P (dC, dI) cls [(h0, .inr (12, [.ref m_row, .ref m_in, .ref m_out, .int 7, .int 0, .int 0, .int 0, .int 0, .ref m_kept, .ref m_keptSize, .ref m_nIp, .ref m_nHeard, .ref m_nHard, .int 0, .int 0, .ref m_gIp, .ref m_gNumber, .ref m_gProtocol, .ref m_gTold, .ref m_gBegun, .ref m_gOrder, .ref m_gBytes, .ref m_gThere, .int 0, .int 0, .ref m_pTarget, .ref m_pBytes, .ref m_pLong, .ref m_pSize, .ref m_pSum, .int 0, .ref m_peer, .int 0, .int 0, .int 0, .int 0, .ref m_answer, .int 0, .int 0])), (m_row, .inl (cM, 2000, .inl (upd f8 (6 : Int32).toNatClampNeg (vp_nar .byte x11))))] H := hP
  have hD : va_D A [(h0, .inr (12, [.ref m_row, .ref m_in, .ref m_out, .int 7, .int 0, .int 0, .int 0, .int 0, .ref m_kept, .ref m_keptSize, .ref m_nIp, .ref m_nHeard, .ref m_nHard, .int 0, .int 0, .ref m_gIp, .ref m_gNumber, .ref m_gProtocol, .ref m_gTold, .ref m_gBegun, .ref m_gOrder, .ref m_gBytes, .ref m_gThere, .int 0, .int 0, .ref m_pTarget, .ref m_pBytes, .ref m_pLong, .ref m_pSize, .ref m_pSum, .int 0, .ref m_peer, .int 0, .int 0, .int 0, .int 0, .ref m_answer, .int 0, .int 0])), (m_row, .inl (cM, 2000, .inl (upd f8 (6 : Int32).toNatClampNeg (vp_nar .byte x11))))] := hD
  generalize upd f8 (6 : Int32).toNatClampNeg (vp_nar .byte x11) = f12 at hP hD
  refine lv_iinc (v := 0) hx hb d_Mo_four4_27 hl (k := 0) rfl (by decide) (by decide) rfl (fun ls hl => ?_)
  have hl : lv_has ls 3 [(2, .int 0), (0, .ref h0), (1, .int v)] := hl
  refine lv_goto hx hb d_Mo_four4_30 (tgt := 3) (by decide) ?_
  refine lv_iload_n hx hb d_Mo_four4_3 rfl (lv_at hl 0 rfl) ?_
  refine lv_if_lt (tgt := 33) hx hb d_Mo_four4_4 (by decide) (fun hc => absurd hc (by decide)) (fun _ => ?_)
  refine lv_aload_n hx hb d_Mo_four4_7 rfl (lv_at hl 1 rfl) ?_
  refine va_get (D := (dC, dI)) (ci := 12) (v := .ref m_row) (C := R_Mo) (T := F_Mo) (N := 39) hx hb (u_Mo hT) (fun _ h => h) hown hK hP 0 rfl rfl 0 (by decide) (ux_T_at hT tw_1594 rfl) (fun _ h9 => h9) rfl d_Mo_four4_8 ?_
  refine lv_aload_n hx hb d_Mo_four4_11 rfl (lv_at hl 1 rfl) ?_
  refine lv_dup hx hb d_Mo_four4_12 rfl ?_
  refine va_get (D := (dC, dI)) (ci := 12) (v := .int 7) (C := R_Mo) (T := F_Mo) (N := 39) hx hb (u_Mo hT) (fun _ h => h) hown hK hP 0 rfl rfl 3 (by decide) (ux_T_at hT tw_1597 rfl) (fun _ h9 => h9) rfl d_Mo_four4_13 ?_
  refine lv_dup_x1 hx hb d_Mo_four4_16 rfl rfl ?_
  refine lv_iconst (v := 1) hx hb d_Mo_four4_17 (by decide) ?_
  refine lv_iadd hx hb d_Mo_four4_18 ?_
  refine lv_topi (fun x13 ex13 => ?_)
  obtain rfl : x13 = 8 := ex13.trans (by decide)
  refine va_put (D := (dC, dI)) (ci := 12) (v := .int 8) (ty := .int) (C := R_Mo) (T := F_Mo) (N := 39) hx hb (u_Mo hT) (fun _ h => h) t_Mo k_Mo n_Mo hown hK hP hD hS 0 rfl rfl 3 (by decide) (ux_T_at hT tw_1597 rfl) (fun _ h9 => h9) rfl (by decide +kernel) rfl rfl (Nat.le_of_ble_eq_true rfl) d_Mo_four4_19 (fun H locs hP hD hS => ?_)
  have hP : va_P (dC, dI) cls [(h0, .inr (12, [.ref m_row, .ref m_in, .ref m_out, .int 8, .int 0, .int 0, .int 0, .int 0, .ref m_kept, .ref m_keptSize, .ref m_nIp, .ref m_nHeard, .ref m_nHard, .int 0, .int 0, .ref m_gIp, .ref m_gNumber, .ref m_gProtocol, .ref m_gTold, .ref m_gBegun, .ref m_gOrder, .ref m_gBytes, .ref m_gThere, .int 0, .int 0, .ref m_pTarget, .ref m_pBytes, .ref m_pLong, .ref m_pSize, .ref m_pSum, .int 0, .ref m_peer, .int 0, .int 0, .int 0, .int 0, .ref m_answer, .int 0, .int 0])), (m_row, .inl (cM, 2000, .inl f12))] H := hP
  have hD : va_D A [(h0, .inr (12, [.ref m_row, .ref m_in, .ref m_out, .int 8, .int 0, .int 0, .int 0, .int 0, .ref m_kept, .ref m_keptSize, .ref m_nIp, .ref m_nHeard, .ref m_nHard, .int 0, .int 0, .ref m_gIp, .ref m_gNumber, .ref m_gProtocol, .ref m_gTold, .ref m_gBegun, .ref m_gOrder, .ref m_gBytes, .ref m_gThere, .int 0, .int 0, .ref m_pTarget, .ref m_pBytes, .ref m_pLong, .ref m_pSize, .ref m_pSum, .int 0, .ref m_peer, .int 0, .int 0, .int 0, .int 0, .ref m_answer, .int 0, .int 0])), (m_row, .inl (cM, 2000, .inl f12))] := hD
  refine lv_iload_n hx hb d_Mo_four4_22 rfl (lv_at hl 2 rfl) ?_
  refine lv_iload_n hx hb d_Mo_four4_23 rfl (lv_at hl 0 rfl) ?_
  refine lv_ishr hx hb d_Mo_four4_24 ?_
  refine lv_topi (fun x14 ex14 => ?_)
  refine lv_i2b hx hb d_Mo_four4_25 rfl ?_
  refine lv_topi (fun x15 ex15 => ?_)
  refine va_bast hx hb hK hP hD hS 1 0 rfl rfl (i := 7) (show ¬ ((7 : Int32) < 0 ∨ 2000 ≤ (7 : Int32).toNatClampNeg) by decide) d_Mo_four4_26 (fun H locs hP hD hS => ?_)
  have hP : va_P (dC, dI) cls [(h0, .inr (12, [.ref m_row, .ref m_in, .ref m_out, .int 8, .int 0, .int 0, .int 0, .int 0, .ref m_kept, .ref m_keptSize, .ref m_nIp, .ref m_nHeard, .ref m_nHard, .int 0, .int 0, .ref m_gIp, .ref m_gNumber, .ref m_gProtocol, .ref m_gTold, .ref m_gBegun, .ref m_gOrder, .ref m_gBytes, .ref m_gThere, .int 0, .int 0, .ref m_pTarget, .ref m_pBytes, .ref m_pLong, .ref m_pSize, .ref m_pSum, .int 0, .ref m_peer, .int 0, .int 0, .int 0, .int 0, .ref m_answer, .int 0, .int 0])), (m_row, .inl (cM, 2000, .inl (upd f12 (7 : Int32).toNatClampNeg (vp_nar .byte x15))))] H := hP
  have hD : va_D A [(h0, .inr (12, [.ref m_row, .ref m_in, .ref m_out, .int 8, .int 0, .int 0, .int 0, .int 0, .ref m_kept, .ref m_keptSize, .ref m_nIp, .ref m_nHeard, .ref m_nHard, .int 0, .int 0, .ref m_gIp, .ref m_gNumber, .ref m_gProtocol, .ref m_gTold, .ref m_gBegun, .ref m_gOrder, .ref m_gBytes, .ref m_gThere, .int 0, .int 0, .ref m_pTarget, .ref m_pBytes, .ref m_pLong, .ref m_pSize, .ref m_pSum, .int 0, .ref m_peer, .int 0, .int 0, .int 0, .int 0, .ref m_answer, .int 0, .int 0])), (m_row, .inl (cM, 2000, .inl (upd f12 (7 : Int32).toNatClampNeg (vp_nar .byte x15))))] := hD
  generalize upd f12 (7 : Int32).toNatClampNeg (vp_nar .byte x15) = f16 at hP hD
  refine lv_iinc (v := (-8)) hx hb d_Mo_four4_27 hl (k := 0) rfl (by decide) (by decide) rfl (fun ls hl => ?_)
  have hl : lv_has ls 3 [(2, .int (-8)), (0, .ref h0), (1, .int v)] := hl
  refine lv_goto hx hb d_Mo_four4_30 (tgt := 3) (by decide) ?_
  refine lv_iload_n hx hb d_Mo_four4_3 rfl (lv_at hl 0 rfl) ?_
  refine lv_if_lt (tgt := 33) hx hb d_Mo_four4_4 (by decide) (fun _ => ?_) (fun hc => absurd (by decide) hc)
  have hP9 := hP.sub (ws' := [(h0, .inr (12, [.ref m_row, .ref m_in, .ref m_out, .int 8, .int 0, .int 0, .int 0, .int 0, .ref m_kept, .ref m_keptSize, .ref m_nIp, .ref m_nHeard, .ref m_nHard, .int 0, .int 0, .ref m_gIp, .ref m_gNumber, .ref m_gProtocol, .ref m_gTold, .ref m_gBegun, .ref m_gOrder, .ref m_gBytes, .ref m_gThere, .int 0, .int 0, .ref m_pTarget, .ref m_pBytes, .ref m_pLong, .ref m_pSize, .ref m_pSum, .int 0, .ref m_peer, .int 0, .int 0, .int 0, .int 0, .ref m_answer, .int 0, .int 0])), (m_row, .inl (cM, 2000, .inl f16))]) [0, 1] rfl
  have hD9 := hD.sub (ws' := [(h0, .inr (12, [.ref m_row, .ref m_in, .ref m_out, .int 8, .int 0, .int 0, .int 0, .int 0, .ref m_kept, .ref m_keptSize, .ref m_nIp, .ref m_nHeard, .ref m_nHard, .int 0, .int 0, .ref m_gIp, .ref m_gNumber, .ref m_gProtocol, .ref m_gTold, .ref m_gBegun, .ref m_gOrder, .ref m_gBytes, .ref m_gThere, .int 0, .int 0, .ref m_pTarget, .ref m_pBytes, .ref m_pLong, .ref m_pSize, .ref m_pSum, .int 0, .ref m_peer, .int 0, .int 0, .int 0, .int 0, .ref m_answer, .int 0, .int 0])), (m_row, .inl (cM, 2000, .inl f16))]) [0, 1] (by decide) rfl
  have hK9 := hK.sub (tys' := [(cM, .byte)]) [0] rfl
  refine W.widen (k := 0) (n := 0) (Nat.le_of_ble_eq_true rfl) (Nat.le_of_ble_eq_true rfl) ?_
  exact W.vret hx hb hr (fun t ht hW => ⟨⟨(), rfl, trivial, f16, by rw [ht]; exact hP9, va_K.moved hW.alike hK9, hD9⟩, hS.F ht⟩) hS.2.2 d_Mo_four4_33
set_option maxHeartbeats 4000000 in
set_option maxRecDepth 100000 in
theorem c_Mo_four4_8 (l : Launch) (dC : Nat → ClassId) (dI : Nat → Nat → Nat) (h0 : Nat) (m_row : Nat) (m_in : Nat) (m_out : Nat) (m_kept : Nat) (m_keptSize : Nat) (m_nIp : Nat) (m_nHeard : Nat) (m_nHard : Nat) (m_gIp : Nat) (m_gNumber : Nat) (m_gProtocol : Nat) (m_gTold : Nat) (m_gBegun : Nat) (m_gOrder : Nat) (m_gBytes : Nat) (m_gThere : Nat) (m_pTarget : Nat) (m_pBytes : Nat) (m_pLong : Nat) (m_pSize : Nat) (m_pSum : Nat) (m_peer : Nat) (m_answer : Nat) (cM : ClassId) (v : Int32) (f : Nat → Int32) (sz : Nat) : Met l y_Mo_four4 [Cond.code y_Mo_four4 b_Mo_four4 3 (none)] ({ frames := 20, cells := 0, slots := 0, locals := 300 }) (ux_Pc [.ref h0, .int v] (dC, dI) cls [(h0, .inr (12, [.ref m_row, .ref m_in, .ref m_out, .int 8, .int 0, .int 0, .int 0, .int 0, .ref m_kept, .ref m_keptSize, .ref m_nIp, .ref m_nHeard, .ref m_nHard, .int 0, .int 0, .ref m_gIp, .ref m_gNumber, .ref m_gProtocol, .ref m_gTold, .ref m_gBegun, .ref m_gOrder, .ref m_gBytes, .ref m_gThere, .int 0, .int 0, .ref m_pTarget, .ref m_pBytes, .ref m_pLong, .ref m_pSize, .ref m_pSum, .int 0, .ref m_peer, .int 0, .int 0, .int 0, .int 0, .ref m_answer, .int 0, .int 0])), (m_row, .inl (cM, 2000, .inl f))] [(cM, .byte)] sz) (va_Qv (fun _ : Unit => True) (fun (_ : Unit) (t : State) => ∃ (f2 : Nat → Int32), ux_B (dC, dI) cls (va_A [(h0, .inr (12, [.ref m_row, .ref m_in, .ref m_out, .int 8, .int 0, .int 0, .int 0, .int 0, .ref m_kept, .ref m_keptSize, .ref m_nIp, .ref m_nHeard, .ref m_nHard, .int 0, .int 0, .ref m_gIp, .ref m_gNumber, .ref m_gProtocol, .ref m_gTold, .ref m_gBegun, .ref m_gOrder, .ref m_gBytes, .ref m_gThere, .int 0, .int 0, .ref m_pTarget, .ref m_pBytes, .ref m_pLong, .ref m_pSize, .ref m_pSum, .int 0, .ref m_peer, .int 0, .int 0, .int 0, .int 0, .ref m_answer, .int 0, .int 0])), (m_row, .inl (cM, 2000, .inl f))] sz) [(h0, .inr (12, [.ref m_row, .ref m_in, .ref m_out, .int 12, .int 0, .int 0, .int 0, .int 0, .ref m_kept, .ref m_keptSize, .ref m_nIp, .ref m_nHeard, .ref m_nHard, .int 0, .int 0, .ref m_gIp, .ref m_gNumber, .ref m_gProtocol, .ref m_gTold, .ref m_gBegun, .ref m_gOrder, .ref m_gBytes, .ref m_gThere, .int 0, .int 0, .ref m_pTarget, .ref m_pBytes, .ref m_pLong, .ref m_pSize, .ref m_pSum, .int 0, .ref m_peer, .int 0, .int 0, .int 0, .int 0, .ref m_answer, .int 0, .int 0])), (m_row, .inl (cM, 2000, .inl f2))] [(cM, .byte)] t) (va_A [(h0, .inr (12, [.ref m_row, .ref m_in, .ref m_out, .int 8, .int 0, .int 0, .int 0, .int 0, .ref m_kept, .ref m_keptSize, .ref m_nIp, .ref m_nHeard, .ref m_nHard, .int 0, .int 0, .ref m_gIp, .ref m_gNumber, .ref m_gProtocol, .ref m_gTold, .ref m_gBegun, .ref m_gOrder, .ref m_gBytes, .ref m_gThere, .int 0, .int 0, .ref m_pTarget, .ref m_pBytes, .ref m_pLong, .ref m_pSize, .ref m_pSum, .int 0, .ref m_peer, .int 0, .int 0, .int 0, .int 0, .ref m_answer, .int 0, .int 0])), (m_row, .inl (cM, 2000, .inl f))] sz)) 0 0 (va_A [(h0, .inr (12, [.ref m_row, .ref m_in, .ref m_out, .int 8, .int 0, .int 0, .int 0, .int 0, .ref m_kept, .ref m_keptSize, .ref m_nIp, .ref m_nHeard, .ref m_nHard, .int 0, .int 0, .ref m_gIp, .ref m_gNumber, .ref m_gProtocol, .ref m_gTold, .ref m_gBegun, .ref m_gOrder, .ref m_gBytes, .ref m_gThere, .int 0, .int 0, .ref m_pTarget, .ref m_pBytes, .ref m_pLong, .ref m_pSize, .ref m_pSum, .int 0, .ref m_peer, .int 0, .int 0, .int 0, .int 0, .ref m_answer, .int 0, .int 0])), (m_row, .inl (cM, 2000, .inl f))] sz) := by
  refine Met.ofW (cc := b_Mo_four4) (maxL := 3) (ret := none) (by decide) rfl ?_
  intro p e s m args below meth c s₁ B hml hv
  obtain ⟨rfl, hsz, hP, hK, hD0, hT⟩ := hv
  have hx := B.exec
  have hb := B.bytes
  have hr := B.returns
  have hown : s.vm.findClass "UnikernelHttpModel" = some m.cls := findClass_of_methodNamed B.named
  have hlocks := B.notSynchronized
  subst hsz
  have hD := hD0.self (sz := s.heap.size)
  have hns := ux_ns hP
  generalize hAe : va_A [(h0, .inr (12, [.ref m_row, .ref m_in, .ref m_out, .int 8, .int 0, .int 0, .int 0, .int 0, .ref m_kept, .ref m_keptSize, .ref m_nIp, .ref m_nHeard, .ref m_nHard, .int 0, .int 0, .ref m_gIp, .ref m_gNumber, .ref m_gProtocol, .ref m_gTold, .ref m_gBegun, .ref m_gOrder, .ref m_gBytes, .ref m_gThere, .int 0, .int 0, .ref m_pTarget, .ref m_pBytes, .ref m_pLong, .ref m_pSize, .ref m_pSum, .int 0, .ref m_peer, .int 0, .int 0, .int 0, .int 0, .ref m_answer, .int 0, .int 0])), (m_row, .inl (cM, 2000, .inl f))] s.heap.size = A at hD hns ⊢
  have hA : ∀ q : Nat, s.heap.size ≤ q → A q := fun q h => by rw [← hAe]; exact Or.inr h
  have hS : va_S A s.heap s.heap [] := va_S.rf
  have hl := lv_entry ([.ref h0, .int v]) (n := 3) (Nat.le_of_ble_eq_true rfl)
  rw [lg_entry_eq]
  generalize (lg_sl ([.ref h0, .int v]) ++ List.replicate (3 - (lg_sl ([.ref h0, .int v])).length) Slot.unset).toArray = ls at hl ⊢
  have hl : lv_has ls 3 [(0, .ref h0), (1, .int v)] := hl
  have hfx : CallFix p m c b_Mo_four4 3 s ([.ref h0, .int v] : List Value).toArray [] "UnikernelHttpModel" := ⟨hx, hb, hml, hown, fun _ h => by cases h⟩
  refine lv_bipush (v := 24) hx hb d_Mo_four4_0 (by decide) ?_
  refine lv_istore_n hx hb d_Mo_four4_2 rfl hl (by decide) rfl (fun ls hl => ?_)
  have hl : lv_has ls 3 [(2, .int 24), (0, .ref h0), (1, .int v)] := hl
  refine lv_iload_n hx hb d_Mo_four4_3 rfl (lv_at hl 0 rfl) ?_
  refine lv_if_lt (tgt := 33) hx hb d_Mo_four4_4 (by decide) (fun hc => absurd hc (by decide)) (fun _ => ?_)
  refine lv_aload_n hx hb d_Mo_four4_7 rfl (lv_at hl 1 rfl) ?_
  refine va_get (D := (dC, dI)) (ci := 12) (v := .ref m_row) (C := R_Mo) (T := F_Mo) (N := 39) hx hb (u_Mo hT) (fun _ h => h) hown hK hP 0 rfl rfl 0 (by decide) (ux_T_at hT tw_1594 rfl) (fun _ h9 => h9) rfl d_Mo_four4_8 ?_
  refine lv_aload_n hx hb d_Mo_four4_11 rfl (lv_at hl 1 rfl) ?_
  refine lv_dup hx hb d_Mo_four4_12 rfl ?_
  refine va_get (D := (dC, dI)) (ci := 12) (v := .int 8) (C := R_Mo) (T := F_Mo) (N := 39) hx hb (u_Mo hT) (fun _ h => h) hown hK hP 0 rfl rfl 3 (by decide) (ux_T_at hT tw_1597 rfl) (fun _ h9 => h9) rfl d_Mo_four4_13 ?_
  refine lv_dup_x1 hx hb d_Mo_four4_16 rfl rfl ?_
  refine lv_iconst (v := 1) hx hb d_Mo_four4_17 (by decide) ?_
  refine lv_iadd hx hb d_Mo_four4_18 ?_
  refine lv_topi (fun x1 ex1 => ?_)
  obtain rfl : x1 = 9 := ex1.trans (by decide)
  refine va_put (D := (dC, dI)) (ci := 12) (v := .int 9) (ty := .int) (C := R_Mo) (T := F_Mo) (N := 39) hx hb (u_Mo hT) (fun _ h => h) t_Mo k_Mo n_Mo hown hK hP hD hS 0 rfl rfl 3 (by decide) (ux_T_at hT tw_1597 rfl) (fun _ h9 => h9) rfl (by decide +kernel) rfl rfl (Nat.le_of_ble_eq_true rfl) d_Mo_four4_19 (fun H locs hP hD hS => ?_)
  have hP : va_P (dC, dI) cls [(h0, .inr (12, [.ref m_row, .ref m_in, .ref m_out, .int 9, .int 0, .int 0, .int 0, .int 0, .ref m_kept, .ref m_keptSize, .ref m_nIp, .ref m_nHeard, .ref m_nHard, .int 0, .int 0, .ref m_gIp, .ref m_gNumber, .ref m_gProtocol, .ref m_gTold, .ref m_gBegun, .ref m_gOrder, .ref m_gBytes, .ref m_gThere, .int 0, .int 0, .ref m_pTarget, .ref m_pBytes, .ref m_pLong, .ref m_pSize, .ref m_pSum, .int 0, .ref m_peer, .int 0, .int 0, .int 0, .int 0, .ref m_answer, .int 0, .int 0])), (m_row, .inl (cM, 2000, .inl f))] H := hP
  have hD : va_D A [(h0, .inr (12, [.ref m_row, .ref m_in, .ref m_out, .int 9, .int 0, .int 0, .int 0, .int 0, .ref m_kept, .ref m_keptSize, .ref m_nIp, .ref m_nHeard, .ref m_nHard, .int 0, .int 0, .ref m_gIp, .ref m_gNumber, .ref m_gProtocol, .ref m_gTold, .ref m_gBegun, .ref m_gOrder, .ref m_gBytes, .ref m_gThere, .int 0, .int 0, .ref m_pTarget, .ref m_pBytes, .ref m_pLong, .ref m_pSize, .ref m_pSum, .int 0, .ref m_peer, .int 0, .int 0, .int 0, .int 0, .ref m_answer, .int 0, .int 0])), (m_row, .inl (cM, 2000, .inl f))] := hD
  refine lv_iload_n hx hb d_Mo_four4_22 rfl (lv_at hl 2 rfl) ?_
  refine lv_iload_n hx hb d_Mo_four4_23 rfl (lv_at hl 0 rfl) ?_
  refine lv_ishr hx hb d_Mo_four4_24 ?_
  refine lv_topi (fun x2 ex2 => ?_)
  refine lv_i2b hx hb d_Mo_four4_25 rfl ?_
  refine lv_topi (fun x3 ex3 => ?_)
  refine va_bast hx hb hK hP hD hS 1 0 rfl rfl (i := 8) (show ¬ ((8 : Int32) < 0 ∨ 2000 ≤ (8 : Int32).toNatClampNeg) by decide) d_Mo_four4_26 (fun H locs hP hD hS => ?_)
  have hP : va_P (dC, dI) cls [(h0, .inr (12, [.ref m_row, .ref m_in, .ref m_out, .int 9, .int 0, .int 0, .int 0, .int 0, .ref m_kept, .ref m_keptSize, .ref m_nIp, .ref m_nHeard, .ref m_nHard, .int 0, .int 0, .ref m_gIp, .ref m_gNumber, .ref m_gProtocol, .ref m_gTold, .ref m_gBegun, .ref m_gOrder, .ref m_gBytes, .ref m_gThere, .int 0, .int 0, .ref m_pTarget, .ref m_pBytes, .ref m_pLong, .ref m_pSize, .ref m_pSum, .int 0, .ref m_peer, .int 0, .int 0, .int 0, .int 0, .ref m_answer, .int 0, .int 0])), (m_row, .inl (cM, 2000, .inl (upd f (8 : Int32).toNatClampNeg (vp_nar .byte x3))))] H := hP
  have hD : va_D A [(h0, .inr (12, [.ref m_row, .ref m_in, .ref m_out, .int 9, .int 0, .int 0, .int 0, .int 0, .ref m_kept, .ref m_keptSize, .ref m_nIp, .ref m_nHeard, .ref m_nHard, .int 0, .int 0, .ref m_gIp, .ref m_gNumber, .ref m_gProtocol, .ref m_gTold, .ref m_gBegun, .ref m_gOrder, .ref m_gBytes, .ref m_gThere, .int 0, .int 0, .ref m_pTarget, .ref m_pBytes, .ref m_pLong, .ref m_pSize, .ref m_pSum, .int 0, .ref m_peer, .int 0, .int 0, .int 0, .int 0, .ref m_answer, .int 0, .int 0])), (m_row, .inl (cM, 2000, .inl (upd f (8 : Int32).toNatClampNeg (vp_nar .byte x3))))] := hD
  generalize upd f (8 : Int32).toNatClampNeg (vp_nar .byte x3) = f4 at hP hD
  refine lv_iinc (v := 16) hx hb d_Mo_four4_27 hl (k := 0) rfl (by decide) (by decide) rfl (fun ls hl => ?_)
  have hl : lv_has ls 3 [(2, .int 16), (0, .ref h0), (1, .int v)] := hl
  refine lv_goto hx hb d_Mo_four4_30 (tgt := 3) (by decide) ?_
  refine lv_iload_n hx hb d_Mo_four4_3 rfl (lv_at hl 0 rfl) ?_
  refine lv_if_lt (tgt := 33) hx hb d_Mo_four4_4 (by decide) (fun hc => absurd hc (by decide)) (fun _ => ?_)
  refine lv_aload_n hx hb d_Mo_four4_7 rfl (lv_at hl 1 rfl) ?_
  refine va_get (D := (dC, dI)) (ci := 12) (v := .ref m_row) (C := R_Mo) (T := F_Mo) (N := 39) hx hb (u_Mo hT) (fun _ h => h) hown hK hP 0 rfl rfl 0 (by decide) (ux_T_at hT tw_1594 rfl) (fun _ h9 => h9) rfl d_Mo_four4_8 ?_
  refine lv_aload_n hx hb d_Mo_four4_11 rfl (lv_at hl 1 rfl) ?_
  refine lv_dup hx hb d_Mo_four4_12 rfl ?_
  refine va_get (D := (dC, dI)) (ci := 12) (v := .int 9) (C := R_Mo) (T := F_Mo) (N := 39) hx hb (u_Mo hT) (fun _ h => h) hown hK hP 0 rfl rfl 3 (by decide) (ux_T_at hT tw_1597 rfl) (fun _ h9 => h9) rfl d_Mo_four4_13 ?_
  refine lv_dup_x1 hx hb d_Mo_four4_16 rfl rfl ?_
  refine lv_iconst (v := 1) hx hb d_Mo_four4_17 (by decide) ?_
  refine lv_iadd hx hb d_Mo_four4_18 ?_
  refine lv_topi (fun x5 ex5 => ?_)
  obtain rfl : x5 = 10 := ex5.trans (by decide)
  refine va_put (D := (dC, dI)) (ci := 12) (v := .int 10) (ty := .int) (C := R_Mo) (T := F_Mo) (N := 39) hx hb (u_Mo hT) (fun _ h => h) t_Mo k_Mo n_Mo hown hK hP hD hS 0 rfl rfl 3 (by decide) (ux_T_at hT tw_1597 rfl) (fun _ h9 => h9) rfl (by decide +kernel) rfl rfl (Nat.le_of_ble_eq_true rfl) d_Mo_four4_19 (fun H locs hP hD hS => ?_)
  have hP : va_P (dC, dI) cls [(h0, .inr (12, [.ref m_row, .ref m_in, .ref m_out, .int 10, .int 0, .int 0, .int 0, .int 0, .ref m_kept, .ref m_keptSize, .ref m_nIp, .ref m_nHeard, .ref m_nHard, .int 0, .int 0, .ref m_gIp, .ref m_gNumber, .ref m_gProtocol, .ref m_gTold, .ref m_gBegun, .ref m_gOrder, .ref m_gBytes, .ref m_gThere, .int 0, .int 0, .ref m_pTarget, .ref m_pBytes, .ref m_pLong, .ref m_pSize, .ref m_pSum, .int 0, .ref m_peer, .int 0, .int 0, .int 0, .int 0, .ref m_answer, .int 0, .int 0])), (m_row, .inl (cM, 2000, .inl f4))] H := hP
  have hD : va_D A [(h0, .inr (12, [.ref m_row, .ref m_in, .ref m_out, .int 10, .int 0, .int 0, .int 0, .int 0, .ref m_kept, .ref m_keptSize, .ref m_nIp, .ref m_nHeard, .ref m_nHard, .int 0, .int 0, .ref m_gIp, .ref m_gNumber, .ref m_gProtocol, .ref m_gTold, .ref m_gBegun, .ref m_gOrder, .ref m_gBytes, .ref m_gThere, .int 0, .int 0, .ref m_pTarget, .ref m_pBytes, .ref m_pLong, .ref m_pSize, .ref m_pSum, .int 0, .ref m_peer, .int 0, .int 0, .int 0, .int 0, .ref m_answer, .int 0, .int 0])), (m_row, .inl (cM, 2000, .inl f4))] := hD
  refine lv_iload_n hx hb d_Mo_four4_22 rfl (lv_at hl 2 rfl) ?_
  refine lv_iload_n hx hb d_Mo_four4_23 rfl (lv_at hl 0 rfl) ?_
  refine lv_ishr hx hb d_Mo_four4_24 ?_
  refine lv_topi (fun x6 ex6 => ?_)
  refine lv_i2b hx hb d_Mo_four4_25 rfl ?_
  refine lv_topi (fun x7 ex7 => ?_)
  refine va_bast hx hb hK hP hD hS 1 0 rfl rfl (i := 9) (show ¬ ((9 : Int32) < 0 ∨ 2000 ≤ (9 : Int32).toNatClampNeg) by decide) d_Mo_four4_26 (fun H locs hP hD hS => ?_)
  have hP : va_P (dC, dI) cls [(h0, .inr (12, [.ref m_row, .ref m_in, .ref m_out, .int 10, .int 0, .int 0, .int 0, .int 0, .ref m_kept, .ref m_keptSize, .ref m_nIp, .ref m_nHeard, .ref m_nHard, .int 0, .int 0, .ref m_gIp, .ref m_gNumber, .ref m_gProtocol, .ref m_gTold, .ref m_gBegun, .ref m_gOrder, .ref m_gBytes, .ref m_gThere, .int 0, .int 0, .ref m_pTarget, .ref m_pBytes, .ref m_pLong, .ref m_pSize, .ref m_pSum, .int 0, .ref m_peer, .int 0, .int 0, .int 0, .int 0, .ref m_answer, .int 0, .int 0])), (m_row, .inl (cM, 2000, .inl (upd f4 (9 : Int32).toNatClampNeg (vp_nar .byte x7))))] H := hP
  have hD : va_D A [(h0, .inr (12, [.ref m_row, .ref m_in, .ref m_out, .int 10, .int 0, .int 0, .int 0, .int 0, .ref m_kept, .ref m_keptSize, .ref m_nIp, .ref m_nHeard, .ref m_nHard, .int 0, .int 0, .ref m_gIp, .ref m_gNumber, .ref m_gProtocol, .ref m_gTold, .ref m_gBegun, .ref m_gOrder, .ref m_gBytes, .ref m_gThere, .int 0, .int 0, .ref m_pTarget, .ref m_pBytes, .ref m_pLong, .ref m_pSize, .ref m_pSum, .int 0, .ref m_peer, .int 0, .int 0, .int 0, .int 0, .ref m_answer, .int 0, .int 0])), (m_row, .inl (cM, 2000, .inl (upd f4 (9 : Int32).toNatClampNeg (vp_nar .byte x7))))] := hD
  generalize upd f4 (9 : Int32).toNatClampNeg (vp_nar .byte x7) = f8 at hP hD
  refine lv_iinc (v := 8) hx hb d_Mo_four4_27 hl (k := 0) rfl (by decide) (by decide) rfl (fun ls hl => ?_)
  have hl : lv_has ls 3 [(2, .int 8), (0, .ref h0), (1, .int v)] := hl
  refine lv_goto hx hb d_Mo_four4_30 (tgt := 3) (by decide) ?_
  refine lv_iload_n hx hb d_Mo_four4_3 rfl (lv_at hl 0 rfl) ?_
  refine lv_if_lt (tgt := 33) hx hb d_Mo_four4_4 (by decide) (fun hc => absurd hc (by decide)) (fun _ => ?_)
  refine lv_aload_n hx hb d_Mo_four4_7 rfl (lv_at hl 1 rfl) ?_
  refine va_get (D := (dC, dI)) (ci := 12) (v := .ref m_row) (C := R_Mo) (T := F_Mo) (N := 39) hx hb (u_Mo hT) (fun _ h => h) hown hK hP 0 rfl rfl 0 (by decide) (ux_T_at hT tw_1594 rfl) (fun _ h9 => h9) rfl d_Mo_four4_8 ?_
  refine lv_aload_n hx hb d_Mo_four4_11 rfl (lv_at hl 1 rfl) ?_
  refine lv_dup hx hb d_Mo_four4_12 rfl ?_
  refine va_get (D := (dC, dI)) (ci := 12) (v := .int 10) (C := R_Mo) (T := F_Mo) (N := 39) hx hb (u_Mo hT) (fun _ h => h) hown hK hP 0 rfl rfl 3 (by decide) (ux_T_at hT tw_1597 rfl) (fun _ h9 => h9) rfl d_Mo_four4_13 ?_
  refine lv_dup_x1 hx hb d_Mo_four4_16 rfl rfl ?_
  refine lv_iconst (v := 1) hx hb d_Mo_four4_17 (by decide) ?_
  refine lv_iadd hx hb d_Mo_four4_18 ?_
  refine lv_topi (fun x9 ex9 => ?_)
  obtain rfl : x9 = 11 := ex9.trans (by decide)
  refine va_put (D := (dC, dI)) (ci := 12) (v := .int 11) (ty := .int) (C := R_Mo) (T := F_Mo) (N := 39) hx hb (u_Mo hT) (fun _ h => h) t_Mo k_Mo n_Mo hown hK hP hD hS 0 rfl rfl 3 (by decide) (ux_T_at hT tw_1597 rfl) (fun _ h9 => h9) rfl (by decide +kernel) rfl rfl (Nat.le_of_ble_eq_true rfl) d_Mo_four4_19 (fun H locs hP hD hS => ?_)
  have hP : va_P (dC, dI) cls [(h0, .inr (12, [.ref m_row, .ref m_in, .ref m_out, .int 11, .int 0, .int 0, .int 0, .int 0, .ref m_kept, .ref m_keptSize, .ref m_nIp, .ref m_nHeard, .ref m_nHard, .int 0, .int 0, .ref m_gIp, .ref m_gNumber, .ref m_gProtocol, .ref m_gTold, .ref m_gBegun, .ref m_gOrder, .ref m_gBytes, .ref m_gThere, .int 0, .int 0, .ref m_pTarget, .ref m_pBytes, .ref m_pLong, .ref m_pSize, .ref m_pSum, .int 0, .ref m_peer, .int 0, .int 0, .int 0, .int 0, .ref m_answer, .int 0, .int 0])), (m_row, .inl (cM, 2000, .inl f8))] H := hP
  have hD : va_D A [(h0, .inr (12, [.ref m_row, .ref m_in, .ref m_out, .int 11, .int 0, .int 0, .int 0, .int 0, .ref m_kept, .ref m_keptSize, .ref m_nIp, .ref m_nHeard, .ref m_nHard, .int 0, .int 0, .ref m_gIp, .ref m_gNumber, .ref m_gProtocol, .ref m_gTold, .ref m_gBegun, .ref m_gOrder, .ref m_gBytes, .ref m_gThere, .int 0, .int 0, .ref m_pTarget, .ref m_pBytes, .ref m_pLong, .ref m_pSize, .ref m_pSum, .int 0, .ref m_peer, .int 0, .int 0, .int 0, .int 0, .ref m_answer, .int 0, .int 0])), (m_row, .inl (cM, 2000, .inl f8))] := hD
  refine lv_iload_n hx hb d_Mo_four4_22 rfl (lv_at hl 2 rfl) ?_
  refine lv_iload_n hx hb d_Mo_four4_23 rfl (lv_at hl 0 rfl) ?_
  refine lv_ishr hx hb d_Mo_four4_24 ?_
  refine lv_topi (fun x10 ex10 => ?_)
  refine lv_i2b hx hb d_Mo_four4_25 rfl ?_
  refine lv_topi (fun x11 ex11 => ?_)
  refine va_bast hx hb hK hP hD hS 1 0 rfl rfl (i := 10) (show ¬ ((10 : Int32) < 0 ∨ 2000 ≤ (10 : Int32).toNatClampNeg) by decide) d_Mo_four4_26 (fun H locs hP hD hS => ?_)
  have hP : va_P (dC, dI) cls [(h0, .inr (12, [.ref m_row, .ref m_in, .ref m_out, .int 11, .int 0, .int 0, .int 0, .int 0, .ref m_kept, .ref m_keptSize, .ref m_nIp, .ref m_nHeard, .ref m_nHard, .int 0, .int 0, .ref m_gIp, .ref m_gNumber, .ref m_gProtocol, .ref m_gTold, .ref m_gBegun, .ref m_gOrder, .ref m_gBytes, .ref m_gThere, .int 0, .int 0, .ref m_pTarget, .ref m_pBytes, .ref m_pLong, .ref m_pSize, .ref m_pSum, .int 0, .ref m_peer, .int 0, .int 0, .int 0, .int 0, .ref m_answer, .int 0, .int 0])), (m_row, .inl (cM, 2000, .inl (upd f8 (10 : Int32).toNatClampNeg (vp_nar .byte x11))))] H := hP
  have hD : va_D A [(h0, .inr (12, [.ref m_row, .ref m_in, .ref m_out, .int 11, .int 0, .int 0, .int 0, .int 0, .ref m_kept, .ref m_keptSize, .ref m_nIp, .ref m_nHeard, .ref m_nHard, .int 0, .int 0, .ref m_gIp, .ref m_gNumber, .ref m_gProtocol, .ref m_gTold, .ref m_gBegun, .ref m_gOrder, .ref m_gBytes, .ref m_gThere, .int 0, .int 0, .ref m_pTarget, .ref m_pBytes, .ref m_pLong, .ref m_pSize, .ref m_pSum, .int 0, .ref m_peer, .int 0, .int 0, .int 0, .int 0, .ref m_answer, .int 0, .int 0])), (m_row, .inl (cM, 2000, .inl (upd f8 (10 : Int32).toNatClampNeg (vp_nar .byte x11))))] := hD
  generalize upd f8 (10 : Int32).toNatClampNeg (vp_nar .byte x11) = f12 at hP hD
  refine lv_iinc (v := 0) hx hb d_Mo_four4_27 hl (k := 0) rfl (by decide) (by decide) rfl (fun ls hl => ?_)
  have hl : lv_has ls 3 [(2, .int 0), (0, .ref h0), (1, .int v)] := hl
  refine lv_goto hx hb d_Mo_four4_30 (tgt := 3) (by decide) ?_
  refine lv_iload_n hx hb d_Mo_four4_3 rfl (lv_at hl 0 rfl) ?_
  refine lv_if_lt (tgt := 33) hx hb d_Mo_four4_4 (by decide) (fun hc => absurd hc (by decide)) (fun _ => ?_)
  refine lv_aload_n hx hb d_Mo_four4_7 rfl (lv_at hl 1 rfl) ?_
  refine va_get (D := (dC, dI)) (ci := 12) (v := .ref m_row) (C := R_Mo) (T := F_Mo) (N := 39) hx hb (u_Mo hT) (fun _ h => h) hown hK hP 0 rfl rfl 0 (by decide) (ux_T_at hT tw_1594 rfl) (fun _ h9 => h9) rfl d_Mo_four4_8 ?_
  refine lv_aload_n hx hb d_Mo_four4_11 rfl (lv_at hl 1 rfl) ?_
  refine lv_dup hx hb d_Mo_four4_12 rfl ?_
  refine va_get (D := (dC, dI)) (ci := 12) (v := .int 11) (C := R_Mo) (T := F_Mo) (N := 39) hx hb (u_Mo hT) (fun _ h => h) hown hK hP 0 rfl rfl 3 (by decide) (ux_T_at hT tw_1597 rfl) (fun _ h9 => h9) rfl d_Mo_four4_13 ?_
  refine lv_dup_x1 hx hb d_Mo_four4_16 rfl rfl ?_
  refine lv_iconst (v := 1) hx hb d_Mo_four4_17 (by decide) ?_
  refine lv_iadd hx hb d_Mo_four4_18 ?_
  refine lv_topi (fun x13 ex13 => ?_)
  obtain rfl : x13 = 12 := ex13.trans (by decide)
  refine va_put (D := (dC, dI)) (ci := 12) (v := .int 12) (ty := .int) (C := R_Mo) (T := F_Mo) (N := 39) hx hb (u_Mo hT) (fun _ h => h) t_Mo k_Mo n_Mo hown hK hP hD hS 0 rfl rfl 3 (by decide) (ux_T_at hT tw_1597 rfl) (fun _ h9 => h9) rfl (by decide +kernel) rfl rfl (Nat.le_of_ble_eq_true rfl) d_Mo_four4_19 (fun H locs hP hD hS => ?_)
  have hP : va_P (dC, dI) cls [(h0, .inr (12, [.ref m_row, .ref m_in, .ref m_out, .int 12, .int 0, .int 0, .int 0, .int 0, .ref m_kept, .ref m_keptSize, .ref m_nIp, .ref m_nHeard, .ref m_nHard, .int 0, .int 0, .ref m_gIp, .ref m_gNumber, .ref m_gProtocol, .ref m_gTold, .ref m_gBegun, .ref m_gOrder, .ref m_gBytes, .ref m_gThere, .int 0, .int 0, .ref m_pTarget, .ref m_pBytes, .ref m_pLong, .ref m_pSize, .ref m_pSum, .int 0, .ref m_peer, .int 0, .int 0, .int 0, .int 0, .ref m_answer, .int 0, .int 0])), (m_row, .inl (cM, 2000, .inl f12))] H := hP
  have hD : va_D A [(h0, .inr (12, [.ref m_row, .ref m_in, .ref m_out, .int 12, .int 0, .int 0, .int 0, .int 0, .ref m_kept, .ref m_keptSize, .ref m_nIp, .ref m_nHeard, .ref m_nHard, .int 0, .int 0, .ref m_gIp, .ref m_gNumber, .ref m_gProtocol, .ref m_gTold, .ref m_gBegun, .ref m_gOrder, .ref m_gBytes, .ref m_gThere, .int 0, .int 0, .ref m_pTarget, .ref m_pBytes, .ref m_pLong, .ref m_pSize, .ref m_pSum, .int 0, .ref m_peer, .int 0, .int 0, .int 0, .int 0, .ref m_answer, .int 0, .int 0])), (m_row, .inl (cM, 2000, .inl f12))] := hD
  refine lv_iload_n hx hb d_Mo_four4_22 rfl (lv_at hl 2 rfl) ?_
  refine lv_iload_n hx hb d_Mo_four4_23 rfl (lv_at hl 0 rfl) ?_
  refine lv_ishr hx hb d_Mo_four4_24 ?_
  refine lv_topi (fun x14 ex14 => ?_)
  refine lv_i2b hx hb d_Mo_four4_25 rfl ?_
  refine lv_topi (fun x15 ex15 => ?_)
  refine va_bast hx hb hK hP hD hS 1 0 rfl rfl (i := 11) (show ¬ ((11 : Int32) < 0 ∨ 2000 ≤ (11 : Int32).toNatClampNeg) by decide) d_Mo_four4_26 (fun H locs hP hD hS => ?_)
  have hP : va_P (dC, dI) cls [(h0, .inr (12, [.ref m_row, .ref m_in, .ref m_out, .int 12, .int 0, .int 0, .int 0, .int 0, .ref m_kept, .ref m_keptSize, .ref m_nIp, .ref m_nHeard, .ref m_nHard, .int 0, .int 0, .ref m_gIp, .ref m_gNumber, .ref m_gProtocol, .ref m_gTold, .ref m_gBegun, .ref m_gOrder, .ref m_gBytes, .ref m_gThere, .int 0, .int 0, .ref m_pTarget, .ref m_pBytes, .ref m_pLong, .ref m_pSize, .ref m_pSum, .int 0, .ref m_peer, .int 0, .int 0, .int 0, .int 0, .ref m_answer, .int 0, .int 0])), (m_row, .inl (cM, 2000, .inl (upd f12 (11 : Int32).toNatClampNeg (vp_nar .byte x15))))] H := hP
  have hD : va_D A [(h0, .inr (12, [.ref m_row, .ref m_in, .ref m_out, .int 12, .int 0, .int 0, .int 0, .int 0, .ref m_kept, .ref m_keptSize, .ref m_nIp, .ref m_nHeard, .ref m_nHard, .int 0, .int 0, .ref m_gIp, .ref m_gNumber, .ref m_gProtocol, .ref m_gTold, .ref m_gBegun, .ref m_gOrder, .ref m_gBytes, .ref m_gThere, .int 0, .int 0, .ref m_pTarget, .ref m_pBytes, .ref m_pLong, .ref m_pSize, .ref m_pSum, .int 0, .ref m_peer, .int 0, .int 0, .int 0, .int 0, .ref m_answer, .int 0, .int 0])), (m_row, .inl (cM, 2000, .inl (upd f12 (11 : Int32).toNatClampNeg (vp_nar .byte x15))))] := hD
  generalize upd f12 (11 : Int32).toNatClampNeg (vp_nar .byte x15) = f16 at hP hD
  refine lv_iinc (v := (-8)) hx hb d_Mo_four4_27 hl (k := 0) rfl (by decide) (by decide) rfl (fun ls hl => ?_)
  have hl : lv_has ls 3 [(2, .int (-8)), (0, .ref h0), (1, .int v)] := hl
  refine lv_goto hx hb d_Mo_four4_30 (tgt := 3) (by decide) ?_
  refine lv_iload_n hx hb d_Mo_four4_3 rfl (lv_at hl 0 rfl) ?_
  refine lv_if_lt (tgt := 33) hx hb d_Mo_four4_4 (by decide) (fun _ => ?_) (fun hc => absurd (by decide) hc)
  have hP9 := hP.sub (ws' := [(h0, .inr (12, [.ref m_row, .ref m_in, .ref m_out, .int 12, .int 0, .int 0, .int 0, .int 0, .ref m_kept, .ref m_keptSize, .ref m_nIp, .ref m_nHeard, .ref m_nHard, .int 0, .int 0, .ref m_gIp, .ref m_gNumber, .ref m_gProtocol, .ref m_gTold, .ref m_gBegun, .ref m_gOrder, .ref m_gBytes, .ref m_gThere, .int 0, .int 0, .ref m_pTarget, .ref m_pBytes, .ref m_pLong, .ref m_pSize, .ref m_pSum, .int 0, .ref m_peer, .int 0, .int 0, .int 0, .int 0, .ref m_answer, .int 0, .int 0])), (m_row, .inl (cM, 2000, .inl f16))]) [0, 1] rfl
  have hD9 := hD.sub (ws' := [(h0, .inr (12, [.ref m_row, .ref m_in, .ref m_out, .int 12, .int 0, .int 0, .int 0, .int 0, .ref m_kept, .ref m_keptSize, .ref m_nIp, .ref m_nHeard, .ref m_nHard, .int 0, .int 0, .ref m_gIp, .ref m_gNumber, .ref m_gProtocol, .ref m_gTold, .ref m_gBegun, .ref m_gOrder, .ref m_gBytes, .ref m_gThere, .int 0, .int 0, .ref m_pTarget, .ref m_pBytes, .ref m_pLong, .ref m_pSize, .ref m_pSum, .int 0, .ref m_peer, .int 0, .int 0, .int 0, .int 0, .ref m_answer, .int 0, .int 0])), (m_row, .inl (cM, 2000, .inl f16))]) [0, 1] (by decide) rfl
  have hK9 := hK.sub (tys' := [(cM, .byte)]) [0] rfl
  refine W.widen (k := 0) (n := 0) (Nat.le_of_ble_eq_true rfl) (Nat.le_of_ble_eq_true rfl) ?_
  exact W.vret hx hb hr (fun t ht hW => ⟨⟨(), rfl, trivial, f16, by rw [ht]; exact hP9, va_K.moved hW.alike hK9, hD9⟩, hS.F ht⟩) hS.2.2 d_Mo_four4_33
set_option maxHeartbeats 4000000 in
set_option maxRecDepth 100000 in
theorem c_Mo_four4_12 (l : Launch) (dC : Nat → ClassId) (dI : Nat → Nat → Nat) (h0 : Nat) (m_row : Nat) (m_in : Nat) (m_out : Nat) (m_kept : Nat) (m_keptSize : Nat) (m_nIp : Nat) (m_nHeard : Nat) (m_nHard : Nat) (m_gIp : Nat) (m_gNumber : Nat) (m_gProtocol : Nat) (m_gTold : Nat) (m_gBegun : Nat) (m_gOrder : Nat) (m_gBytes : Nat) (m_gThere : Nat) (m_pTarget : Nat) (m_pBytes : Nat) (m_pLong : Nat) (m_pSize : Nat) (m_pSum : Nat) (m_peer : Nat) (m_answer : Nat) (cM : ClassId) (v : Int32) (f : Nat → Int32) (sz : Nat) : Met l y_Mo_four4 [Cond.code y_Mo_four4 b_Mo_four4 3 (none)] ({ frames := 20, cells := 0, slots := 0, locals := 300 }) (ux_Pc [.ref h0, .int v] (dC, dI) cls [(h0, .inr (12, [.ref m_row, .ref m_in, .ref m_out, .int 12, .int 0, .int 0, .int 0, .int 0, .ref m_kept, .ref m_keptSize, .ref m_nIp, .ref m_nHeard, .ref m_nHard, .int 0, .int 0, .ref m_gIp, .ref m_gNumber, .ref m_gProtocol, .ref m_gTold, .ref m_gBegun, .ref m_gOrder, .ref m_gBytes, .ref m_gThere, .int 0, .int 0, .ref m_pTarget, .ref m_pBytes, .ref m_pLong, .ref m_pSize, .ref m_pSum, .int 0, .ref m_peer, .int 0, .int 0, .int 0, .int 0, .ref m_answer, .int 0, .int 0])), (m_row, .inl (cM, 2000, .inl f))] [(cM, .byte)] sz) (va_Qv (fun _ : Unit => True) (fun (_ : Unit) (t : State) => ∃ (f2 : Nat → Int32), ux_B (dC, dI) cls (va_A [(h0, .inr (12, [.ref m_row, .ref m_in, .ref m_out, .int 12, .int 0, .int 0, .int 0, .int 0, .ref m_kept, .ref m_keptSize, .ref m_nIp, .ref m_nHeard, .ref m_nHard, .int 0, .int 0, .ref m_gIp, .ref m_gNumber, .ref m_gProtocol, .ref m_gTold, .ref m_gBegun, .ref m_gOrder, .ref m_gBytes, .ref m_gThere, .int 0, .int 0, .ref m_pTarget, .ref m_pBytes, .ref m_pLong, .ref m_pSize, .ref m_pSum, .int 0, .ref m_peer, .int 0, .int 0, .int 0, .int 0, .ref m_answer, .int 0, .int 0])), (m_row, .inl (cM, 2000, .inl f))] sz) [(h0, .inr (12, [.ref m_row, .ref m_in, .ref m_out, .int 16, .int 0, .int 0, .int 0, .int 0, .ref m_kept, .ref m_keptSize, .ref m_nIp, .ref m_nHeard, .ref m_nHard, .int 0, .int 0, .ref m_gIp, .ref m_gNumber, .ref m_gProtocol, .ref m_gTold, .ref m_gBegun, .ref m_gOrder, .ref m_gBytes, .ref m_gThere, .int 0, .int 0, .ref m_pTarget, .ref m_pBytes, .ref m_pLong, .ref m_pSize, .ref m_pSum, .int 0, .ref m_peer, .int 0, .int 0, .int 0, .int 0, .ref m_answer, .int 0, .int 0])), (m_row, .inl (cM, 2000, .inl f2))] [(cM, .byte)] t) (va_A [(h0, .inr (12, [.ref m_row, .ref m_in, .ref m_out, .int 12, .int 0, .int 0, .int 0, .int 0, .ref m_kept, .ref m_keptSize, .ref m_nIp, .ref m_nHeard, .ref m_nHard, .int 0, .int 0, .ref m_gIp, .ref m_gNumber, .ref m_gProtocol, .ref m_gTold, .ref m_gBegun, .ref m_gOrder, .ref m_gBytes, .ref m_gThere, .int 0, .int 0, .ref m_pTarget, .ref m_pBytes, .ref m_pLong, .ref m_pSize, .ref m_pSum, .int 0, .ref m_peer, .int 0, .int 0, .int 0, .int 0, .ref m_answer, .int 0, .int 0])), (m_row, .inl (cM, 2000, .inl f))] sz)) 0 0 (va_A [(h0, .inr (12, [.ref m_row, .ref m_in, .ref m_out, .int 12, .int 0, .int 0, .int 0, .int 0, .ref m_kept, .ref m_keptSize, .ref m_nIp, .ref m_nHeard, .ref m_nHard, .int 0, .int 0, .ref m_gIp, .ref m_gNumber, .ref m_gProtocol, .ref m_gTold, .ref m_gBegun, .ref m_gOrder, .ref m_gBytes, .ref m_gThere, .int 0, .int 0, .ref m_pTarget, .ref m_pBytes, .ref m_pLong, .ref m_pSize, .ref m_pSum, .int 0, .ref m_peer, .int 0, .int 0, .int 0, .int 0, .ref m_answer, .int 0, .int 0])), (m_row, .inl (cM, 2000, .inl f))] sz) := by
  refine Met.ofW (cc := b_Mo_four4) (maxL := 3) (ret := none) (by decide) rfl ?_
  intro p e s m args below meth c s₁ B hml hv
  obtain ⟨rfl, hsz, hP, hK, hD0, hT⟩ := hv
  have hx := B.exec
  have hb := B.bytes
  have hr := B.returns
  have hown : s.vm.findClass "UnikernelHttpModel" = some m.cls := findClass_of_methodNamed B.named
  have hlocks := B.notSynchronized
  subst hsz
  have hD := hD0.self (sz := s.heap.size)
  have hns := ux_ns hP
  generalize hAe : va_A [(h0, .inr (12, [.ref m_row, .ref m_in, .ref m_out, .int 12, .int 0, .int 0, .int 0, .int 0, .ref m_kept, .ref m_keptSize, .ref m_nIp, .ref m_nHeard, .ref m_nHard, .int 0, .int 0, .ref m_gIp, .ref m_gNumber, .ref m_gProtocol, .ref m_gTold, .ref m_gBegun, .ref m_gOrder, .ref m_gBytes, .ref m_gThere, .int 0, .int 0, .ref m_pTarget, .ref m_pBytes, .ref m_pLong, .ref m_pSize, .ref m_pSum, .int 0, .ref m_peer, .int 0, .int 0, .int 0, .int 0, .ref m_answer, .int 0, .int 0])), (m_row, .inl (cM, 2000, .inl f))] s.heap.size = A at hD hns ⊢
  have hA : ∀ q : Nat, s.heap.size ≤ q → A q := fun q h => by rw [← hAe]; exact Or.inr h
  have hS : va_S A s.heap s.heap [] := va_S.rf
  have hl := lv_entry ([.ref h0, .int v]) (n := 3) (Nat.le_of_ble_eq_true rfl)
  rw [lg_entry_eq]
  generalize (lg_sl ([.ref h0, .int v]) ++ List.replicate (3 - (lg_sl ([.ref h0, .int v])).length) Slot.unset).toArray = ls at hl ⊢
  have hl : lv_has ls 3 [(0, .ref h0), (1, .int v)] := hl
  have hfx : CallFix p m c b_Mo_four4 3 s ([.ref h0, .int v] : List Value).toArray [] "UnikernelHttpModel" := ⟨hx, hb, hml, hown, fun _ h => by cases h⟩
  refine lv_bipush (v := 24) hx hb d_Mo_four4_0 (by decide) ?_
  refine lv_istore_n hx hb d_Mo_four4_2 rfl hl (by decide) rfl (fun ls hl => ?_)
  have hl : lv_has ls 3 [(2, .int 24), (0, .ref h0), (1, .int v)] := hl
  refine lv_iload_n hx hb d_Mo_four4_3 rfl (lv_at hl 0 rfl) ?_
  refine lv_if_lt (tgt := 33) hx hb d_Mo_four4_4 (by decide) (fun hc => absurd hc (by decide)) (fun _ => ?_)
  refine lv_aload_n hx hb d_Mo_four4_7 rfl (lv_at hl 1 rfl) ?_
  refine va_get (D := (dC, dI)) (ci := 12) (v := .ref m_row) (C := R_Mo) (T := F_Mo) (N := 39) hx hb (u_Mo hT) (fun _ h => h) hown hK hP 0 rfl rfl 0 (by decide) (ux_T_at hT tw_1594 rfl) (fun _ h9 => h9) rfl d_Mo_four4_8 ?_
  refine lv_aload_n hx hb d_Mo_four4_11 rfl (lv_at hl 1 rfl) ?_
  refine lv_dup hx hb d_Mo_four4_12 rfl ?_
  refine va_get (D := (dC, dI)) (ci := 12) (v := .int 12) (C := R_Mo) (T := F_Mo) (N := 39) hx hb (u_Mo hT) (fun _ h => h) hown hK hP 0 rfl rfl 3 (by decide) (ux_T_at hT tw_1597 rfl) (fun _ h9 => h9) rfl d_Mo_four4_13 ?_
  refine lv_dup_x1 hx hb d_Mo_four4_16 rfl rfl ?_
  refine lv_iconst (v := 1) hx hb d_Mo_four4_17 (by decide) ?_
  refine lv_iadd hx hb d_Mo_four4_18 ?_
  refine lv_topi (fun x1 ex1 => ?_)
  obtain rfl : x1 = 13 := ex1.trans (by decide)
  refine va_put (D := (dC, dI)) (ci := 12) (v := .int 13) (ty := .int) (C := R_Mo) (T := F_Mo) (N := 39) hx hb (u_Mo hT) (fun _ h => h) t_Mo k_Mo n_Mo hown hK hP hD hS 0 rfl rfl 3 (by decide) (ux_T_at hT tw_1597 rfl) (fun _ h9 => h9) rfl (by decide +kernel) rfl rfl (Nat.le_of_ble_eq_true rfl) d_Mo_four4_19 (fun H locs hP hD hS => ?_)
  have hP : va_P (dC, dI) cls [(h0, .inr (12, [.ref m_row, .ref m_in, .ref m_out, .int 13, .int 0, .int 0, .int 0, .int 0, .ref m_kept, .ref m_keptSize, .ref m_nIp, .ref m_nHeard, .ref m_nHard, .int 0, .int 0, .ref m_gIp, .ref m_gNumber, .ref m_gProtocol, .ref m_gTold, .ref m_gBegun, .ref m_gOrder, .ref m_gBytes, .ref m_gThere, .int 0, .int 0, .ref m_pTarget, .ref m_pBytes, .ref m_pLong, .ref m_pSize, .ref m_pSum, .int 0, .ref m_peer, .int 0, .int 0, .int 0, .int 0, .ref m_answer, .int 0, .int 0])), (m_row, .inl (cM, 2000, .inl f))] H := hP
  have hD : va_D A [(h0, .inr (12, [.ref m_row, .ref m_in, .ref m_out, .int 13, .int 0, .int 0, .int 0, .int 0, .ref m_kept, .ref m_keptSize, .ref m_nIp, .ref m_nHeard, .ref m_nHard, .int 0, .int 0, .ref m_gIp, .ref m_gNumber, .ref m_gProtocol, .ref m_gTold, .ref m_gBegun, .ref m_gOrder, .ref m_gBytes, .ref m_gThere, .int 0, .int 0, .ref m_pTarget, .ref m_pBytes, .ref m_pLong, .ref m_pSize, .ref m_pSum, .int 0, .ref m_peer, .int 0, .int 0, .int 0, .int 0, .ref m_answer, .int 0, .int 0])), (m_row, .inl (cM, 2000, .inl f))] := hD
  refine lv_iload_n hx hb d_Mo_four4_22 rfl (lv_at hl 2 rfl) ?_
  refine lv_iload_n hx hb d_Mo_four4_23 rfl (lv_at hl 0 rfl) ?_
  refine lv_ishr hx hb d_Mo_four4_24 ?_
  refine lv_topi (fun x2 ex2 => ?_)
  refine lv_i2b hx hb d_Mo_four4_25 rfl ?_
  refine lv_topi (fun x3 ex3 => ?_)
  refine va_bast hx hb hK hP hD hS 1 0 rfl rfl (i := 12) (show ¬ ((12 : Int32) < 0 ∨ 2000 ≤ (12 : Int32).toNatClampNeg) by decide) d_Mo_four4_26 (fun H locs hP hD hS => ?_)
  have hP : va_P (dC, dI) cls [(h0, .inr (12, [.ref m_row, .ref m_in, .ref m_out, .int 13, .int 0, .int 0, .int 0, .int 0, .ref m_kept, .ref m_keptSize, .ref m_nIp, .ref m_nHeard, .ref m_nHard, .int 0, .int 0, .ref m_gIp, .ref m_gNumber, .ref m_gProtocol, .ref m_gTold, .ref m_gBegun, .ref m_gOrder, .ref m_gBytes, .ref m_gThere, .int 0, .int 0, .ref m_pTarget, .ref m_pBytes, .ref m_pLong, .ref m_pSize, .ref m_pSum, .int 0, .ref m_peer, .int 0, .int 0, .int 0, .int 0, .ref m_answer, .int 0, .int 0])), (m_row, .inl (cM, 2000, .inl (upd f (12 : Int32).toNatClampNeg (vp_nar .byte x3))))] H := hP
  have hD : va_D A [(h0, .inr (12, [.ref m_row, .ref m_in, .ref m_out, .int 13, .int 0, .int 0, .int 0, .int 0, .ref m_kept, .ref m_keptSize, .ref m_nIp, .ref m_nHeard, .ref m_nHard, .int 0, .int 0, .ref m_gIp, .ref m_gNumber, .ref m_gProtocol, .ref m_gTold, .ref m_gBegun, .ref m_gOrder, .ref m_gBytes, .ref m_gThere, .int 0, .int 0, .ref m_pTarget, .ref m_pBytes, .ref m_pLong, .ref m_pSize, .ref m_pSum, .int 0, .ref m_peer, .int 0, .int 0, .int 0, .int 0, .ref m_answer, .int 0, .int 0])), (m_row, .inl (cM, 2000, .inl (upd f (12 : Int32).toNatClampNeg (vp_nar .byte x3))))] := hD
  generalize upd f (12 : Int32).toNatClampNeg (vp_nar .byte x3) = f4 at hP hD
  refine lv_iinc (v := 16) hx hb d_Mo_four4_27 hl (k := 0) rfl (by decide) (by decide) rfl (fun ls hl => ?_)
  have hl : lv_has ls 3 [(2, .int 16), (0, .ref h0), (1, .int v)] := hl
  refine lv_goto hx hb d_Mo_four4_30 (tgt := 3) (by decide) ?_
  refine lv_iload_n hx hb d_Mo_four4_3 rfl (lv_at hl 0 rfl) ?_
  refine lv_if_lt (tgt := 33) hx hb d_Mo_four4_4 (by decide) (fun hc => absurd hc (by decide)) (fun _ => ?_)
  refine lv_aload_n hx hb d_Mo_four4_7 rfl (lv_at hl 1 rfl) ?_
  refine va_get (D := (dC, dI)) (ci := 12) (v := .ref m_row) (C := R_Mo) (T := F_Mo) (N := 39) hx hb (u_Mo hT) (fun _ h => h) hown hK hP 0 rfl rfl 0 (by decide) (ux_T_at hT tw_1594 rfl) (fun _ h9 => h9) rfl d_Mo_four4_8 ?_
  refine lv_aload_n hx hb d_Mo_four4_11 rfl (lv_at hl 1 rfl) ?_
  refine lv_dup hx hb d_Mo_four4_12 rfl ?_
  refine va_get (D := (dC, dI)) (ci := 12) (v := .int 13) (C := R_Mo) (T := F_Mo) (N := 39) hx hb (u_Mo hT) (fun _ h => h) hown hK hP 0 rfl rfl 3 (by decide) (ux_T_at hT tw_1597 rfl) (fun _ h9 => h9) rfl d_Mo_four4_13 ?_
  refine lv_dup_x1 hx hb d_Mo_four4_16 rfl rfl ?_
  refine lv_iconst (v := 1) hx hb d_Mo_four4_17 (by decide) ?_
  refine lv_iadd hx hb d_Mo_four4_18 ?_
  refine lv_topi (fun x5 ex5 => ?_)
  obtain rfl : x5 = 14 := ex5.trans (by decide)
  refine va_put (D := (dC, dI)) (ci := 12) (v := .int 14) (ty := .int) (C := R_Mo) (T := F_Mo) (N := 39) hx hb (u_Mo hT) (fun _ h => h) t_Mo k_Mo n_Mo hown hK hP hD hS 0 rfl rfl 3 (by decide) (ux_T_at hT tw_1597 rfl) (fun _ h9 => h9) rfl (by decide +kernel) rfl rfl (Nat.le_of_ble_eq_true rfl) d_Mo_four4_19 (fun H locs hP hD hS => ?_)
  have hP : va_P (dC, dI) cls [(h0, .inr (12, [.ref m_row, .ref m_in, .ref m_out, .int 14, .int 0, .int 0, .int 0, .int 0, .ref m_kept, .ref m_keptSize, .ref m_nIp, .ref m_nHeard, .ref m_nHard, .int 0, .int 0, .ref m_gIp, .ref m_gNumber, .ref m_gProtocol, .ref m_gTold, .ref m_gBegun, .ref m_gOrder, .ref m_gBytes, .ref m_gThere, .int 0, .int 0, .ref m_pTarget, .ref m_pBytes, .ref m_pLong, .ref m_pSize, .ref m_pSum, .int 0, .ref m_peer, .int 0, .int 0, .int 0, .int 0, .ref m_answer, .int 0, .int 0])), (m_row, .inl (cM, 2000, .inl f4))] H := hP
  have hD : va_D A [(h0, .inr (12, [.ref m_row, .ref m_in, .ref m_out, .int 14, .int 0, .int 0, .int 0, .int 0, .ref m_kept, .ref m_keptSize, .ref m_nIp, .ref m_nHeard, .ref m_nHard, .int 0, .int 0, .ref m_gIp, .ref m_gNumber, .ref m_gProtocol, .ref m_gTold, .ref m_gBegun, .ref m_gOrder, .ref m_gBytes, .ref m_gThere, .int 0, .int 0, .ref m_pTarget, .ref m_pBytes, .ref m_pLong, .ref m_pSize, .ref m_pSum, .int 0, .ref m_peer, .int 0, .int 0, .int 0, .int 0, .ref m_answer, .int 0, .int 0])), (m_row, .inl (cM, 2000, .inl f4))] := hD
  refine lv_iload_n hx hb d_Mo_four4_22 rfl (lv_at hl 2 rfl) ?_
  refine lv_iload_n hx hb d_Mo_four4_23 rfl (lv_at hl 0 rfl) ?_
  refine lv_ishr hx hb d_Mo_four4_24 ?_
  refine lv_topi (fun x6 ex6 => ?_)
  refine lv_i2b hx hb d_Mo_four4_25 rfl ?_
  refine lv_topi (fun x7 ex7 => ?_)
  refine va_bast hx hb hK hP hD hS 1 0 rfl rfl (i := 13) (show ¬ ((13 : Int32) < 0 ∨ 2000 ≤ (13 : Int32).toNatClampNeg) by decide) d_Mo_four4_26 (fun H locs hP hD hS => ?_)
  have hP : va_P (dC, dI) cls [(h0, .inr (12, [.ref m_row, .ref m_in, .ref m_out, .int 14, .int 0, .int 0, .int 0, .int 0, .ref m_kept, .ref m_keptSize, .ref m_nIp, .ref m_nHeard, .ref m_nHard, .int 0, .int 0, .ref m_gIp, .ref m_gNumber, .ref m_gProtocol, .ref m_gTold, .ref m_gBegun, .ref m_gOrder, .ref m_gBytes, .ref m_gThere, .int 0, .int 0, .ref m_pTarget, .ref m_pBytes, .ref m_pLong, .ref m_pSize, .ref m_pSum, .int 0, .ref m_peer, .int 0, .int 0, .int 0, .int 0, .ref m_answer, .int 0, .int 0])), (m_row, .inl (cM, 2000, .inl (upd f4 (13 : Int32).toNatClampNeg (vp_nar .byte x7))))] H := hP
  have hD : va_D A [(h0, .inr (12, [.ref m_row, .ref m_in, .ref m_out, .int 14, .int 0, .int 0, .int 0, .int 0, .ref m_kept, .ref m_keptSize, .ref m_nIp, .ref m_nHeard, .ref m_nHard, .int 0, .int 0, .ref m_gIp, .ref m_gNumber, .ref m_gProtocol, .ref m_gTold, .ref m_gBegun, .ref m_gOrder, .ref m_gBytes, .ref m_gThere, .int 0, .int 0, .ref m_pTarget, .ref m_pBytes, .ref m_pLong, .ref m_pSize, .ref m_pSum, .int 0, .ref m_peer, .int 0, .int 0, .int 0, .int 0, .ref m_answer, .int 0, .int 0])), (m_row, .inl (cM, 2000, .inl (upd f4 (13 : Int32).toNatClampNeg (vp_nar .byte x7))))] := hD
  generalize upd f4 (13 : Int32).toNatClampNeg (vp_nar .byte x7) = f8 at hP hD
  refine lv_iinc (v := 8) hx hb d_Mo_four4_27 hl (k := 0) rfl (by decide) (by decide) rfl (fun ls hl => ?_)
  have hl : lv_has ls 3 [(2, .int 8), (0, .ref h0), (1, .int v)] := hl
  refine lv_goto hx hb d_Mo_four4_30 (tgt := 3) (by decide) ?_
  refine lv_iload_n hx hb d_Mo_four4_3 rfl (lv_at hl 0 rfl) ?_
  refine lv_if_lt (tgt := 33) hx hb d_Mo_four4_4 (by decide) (fun hc => absurd hc (by decide)) (fun _ => ?_)
  refine lv_aload_n hx hb d_Mo_four4_7 rfl (lv_at hl 1 rfl) ?_
  refine va_get (D := (dC, dI)) (ci := 12) (v := .ref m_row) (C := R_Mo) (T := F_Mo) (N := 39) hx hb (u_Mo hT) (fun _ h => h) hown hK hP 0 rfl rfl 0 (by decide) (ux_T_at hT tw_1594 rfl) (fun _ h9 => h9) rfl d_Mo_four4_8 ?_
  refine lv_aload_n hx hb d_Mo_four4_11 rfl (lv_at hl 1 rfl) ?_
  refine lv_dup hx hb d_Mo_four4_12 rfl ?_
  refine va_get (D := (dC, dI)) (ci := 12) (v := .int 14) (C := R_Mo) (T := F_Mo) (N := 39) hx hb (u_Mo hT) (fun _ h => h) hown hK hP 0 rfl rfl 3 (by decide) (ux_T_at hT tw_1597 rfl) (fun _ h9 => h9) rfl d_Mo_four4_13 ?_
  refine lv_dup_x1 hx hb d_Mo_four4_16 rfl rfl ?_
  refine lv_iconst (v := 1) hx hb d_Mo_four4_17 (by decide) ?_
  refine lv_iadd hx hb d_Mo_four4_18 ?_
  refine lv_topi (fun x9 ex9 => ?_)
  obtain rfl : x9 = 15 := ex9.trans (by decide)
  refine va_put (D := (dC, dI)) (ci := 12) (v := .int 15) (ty := .int) (C := R_Mo) (T := F_Mo) (N := 39) hx hb (u_Mo hT) (fun _ h => h) t_Mo k_Mo n_Mo hown hK hP hD hS 0 rfl rfl 3 (by decide) (ux_T_at hT tw_1597 rfl) (fun _ h9 => h9) rfl (by decide +kernel) rfl rfl (Nat.le_of_ble_eq_true rfl) d_Mo_four4_19 (fun H locs hP hD hS => ?_)
  have hP : va_P (dC, dI) cls [(h0, .inr (12, [.ref m_row, .ref m_in, .ref m_out, .int 15, .int 0, .int 0, .int 0, .int 0, .ref m_kept, .ref m_keptSize, .ref m_nIp, .ref m_nHeard, .ref m_nHard, .int 0, .int 0, .ref m_gIp, .ref m_gNumber, .ref m_gProtocol, .ref m_gTold, .ref m_gBegun, .ref m_gOrder, .ref m_gBytes, .ref m_gThere, .int 0, .int 0, .ref m_pTarget, .ref m_pBytes, .ref m_pLong, .ref m_pSize, .ref m_pSum, .int 0, .ref m_peer, .int 0, .int 0, .int 0, .int 0, .ref m_answer, .int 0, .int 0])), (m_row, .inl (cM, 2000, .inl f8))] H := hP
  have hD : va_D A [(h0, .inr (12, [.ref m_row, .ref m_in, .ref m_out, .int 15, .int 0, .int 0, .int 0, .int 0, .ref m_kept, .ref m_keptSize, .ref m_nIp, .ref m_nHeard, .ref m_nHard, .int 0, .int 0, .ref m_gIp, .ref m_gNumber, .ref m_gProtocol, .ref m_gTold, .ref m_gBegun, .ref m_gOrder, .ref m_gBytes, .ref m_gThere, .int 0, .int 0, .ref m_pTarget, .ref m_pBytes, .ref m_pLong, .ref m_pSize, .ref m_pSum, .int 0, .ref m_peer, .int 0, .int 0, .int 0, .int 0, .ref m_answer, .int 0, .int 0])), (m_row, .inl (cM, 2000, .inl f8))] := hD
  refine lv_iload_n hx hb d_Mo_four4_22 rfl (lv_at hl 2 rfl) ?_
  refine lv_iload_n hx hb d_Mo_four4_23 rfl (lv_at hl 0 rfl) ?_
  refine lv_ishr hx hb d_Mo_four4_24 ?_
  refine lv_topi (fun x10 ex10 => ?_)
  refine lv_i2b hx hb d_Mo_four4_25 rfl ?_
  refine lv_topi (fun x11 ex11 => ?_)
  refine va_bast hx hb hK hP hD hS 1 0 rfl rfl (i := 14) (show ¬ ((14 : Int32) < 0 ∨ 2000 ≤ (14 : Int32).toNatClampNeg) by decide) d_Mo_four4_26 (fun H locs hP hD hS => ?_)
  have hP : va_P (dC, dI) cls [(h0, .inr (12, [.ref m_row, .ref m_in, .ref m_out, .int 15, .int 0, .int 0, .int 0, .int 0, .ref m_kept, .ref m_keptSize, .ref m_nIp, .ref m_nHeard, .ref m_nHard, .int 0, .int 0, .ref m_gIp, .ref m_gNumber, .ref m_gProtocol, .ref m_gTold, .ref m_gBegun, .ref m_gOrder, .ref m_gBytes, .ref m_gThere, .int 0, .int 0, .ref m_pTarget, .ref m_pBytes, .ref m_pLong, .ref m_pSize, .ref m_pSum, .int 0, .ref m_peer, .int 0, .int 0, .int 0, .int 0, .ref m_answer, .int 0, .int 0])), (m_row, .inl (cM, 2000, .inl (upd f8 (14 : Int32).toNatClampNeg (vp_nar .byte x11))))] H := hP
  have hD : va_D A [(h0, .inr (12, [.ref m_row, .ref m_in, .ref m_out, .int 15, .int 0, .int 0, .int 0, .int 0, .ref m_kept, .ref m_keptSize, .ref m_nIp, .ref m_nHeard, .ref m_nHard, .int 0, .int 0, .ref m_gIp, .ref m_gNumber, .ref m_gProtocol, .ref m_gTold, .ref m_gBegun, .ref m_gOrder, .ref m_gBytes, .ref m_gThere, .int 0, .int 0, .ref m_pTarget, .ref m_pBytes, .ref m_pLong, .ref m_pSize, .ref m_pSum, .int 0, .ref m_peer, .int 0, .int 0, .int 0, .int 0, .ref m_answer, .int 0, .int 0])), (m_row, .inl (cM, 2000, .inl (upd f8 (14 : Int32).toNatClampNeg (vp_nar .byte x11))))] := hD
  generalize upd f8 (14 : Int32).toNatClampNeg (vp_nar .byte x11) = f12 at hP hD
  refine lv_iinc (v := 0) hx hb d_Mo_four4_27 hl (k := 0) rfl (by decide) (by decide) rfl (fun ls hl => ?_)
  have hl : lv_has ls 3 [(2, .int 0), (0, .ref h0), (1, .int v)] := hl
  refine lv_goto hx hb d_Mo_four4_30 (tgt := 3) (by decide) ?_
  refine lv_iload_n hx hb d_Mo_four4_3 rfl (lv_at hl 0 rfl) ?_
  refine lv_if_lt (tgt := 33) hx hb d_Mo_four4_4 (by decide) (fun hc => absurd hc (by decide)) (fun _ => ?_)
  refine lv_aload_n hx hb d_Mo_four4_7 rfl (lv_at hl 1 rfl) ?_
  refine va_get (D := (dC, dI)) (ci := 12) (v := .ref m_row) (C := R_Mo) (T := F_Mo) (N := 39) hx hb (u_Mo hT) (fun _ h => h) hown hK hP 0 rfl rfl 0 (by decide) (ux_T_at hT tw_1594 rfl) (fun _ h9 => h9) rfl d_Mo_four4_8 ?_
  refine lv_aload_n hx hb d_Mo_four4_11 rfl (lv_at hl 1 rfl) ?_
  refine lv_dup hx hb d_Mo_four4_12 rfl ?_
  refine va_get (D := (dC, dI)) (ci := 12) (v := .int 15) (C := R_Mo) (T := F_Mo) (N := 39) hx hb (u_Mo hT) (fun _ h => h) hown hK hP 0 rfl rfl 3 (by decide) (ux_T_at hT tw_1597 rfl) (fun _ h9 => h9) rfl d_Mo_four4_13 ?_
  refine lv_dup_x1 hx hb d_Mo_four4_16 rfl rfl ?_
  refine lv_iconst (v := 1) hx hb d_Mo_four4_17 (by decide) ?_
  refine lv_iadd hx hb d_Mo_four4_18 ?_
  refine lv_topi (fun x13 ex13 => ?_)
  obtain rfl : x13 = 16 := ex13.trans (by decide)
  refine va_put (D := (dC, dI)) (ci := 12) (v := .int 16) (ty := .int) (C := R_Mo) (T := F_Mo) (N := 39) hx hb (u_Mo hT) (fun _ h => h) t_Mo k_Mo n_Mo hown hK hP hD hS 0 rfl rfl 3 (by decide) (ux_T_at hT tw_1597 rfl) (fun _ h9 => h9) rfl (by decide +kernel) rfl rfl (Nat.le_of_ble_eq_true rfl) d_Mo_four4_19 (fun H locs hP hD hS => ?_)
  have hP : va_P (dC, dI) cls [(h0, .inr (12, [.ref m_row, .ref m_in, .ref m_out, .int 16, .int 0, .int 0, .int 0, .int 0, .ref m_kept, .ref m_keptSize, .ref m_nIp, .ref m_nHeard, .ref m_nHard, .int 0, .int 0, .ref m_gIp, .ref m_gNumber, .ref m_gProtocol, .ref m_gTold, .ref m_gBegun, .ref m_gOrder, .ref m_gBytes, .ref m_gThere, .int 0, .int 0, .ref m_pTarget, .ref m_pBytes, .ref m_pLong, .ref m_pSize, .ref m_pSum, .int 0, .ref m_peer, .int 0, .int 0, .int 0, .int 0, .ref m_answer, .int 0, .int 0])), (m_row, .inl (cM, 2000, .inl f12))] H := hP
  have hD : va_D A [(h0, .inr (12, [.ref m_row, .ref m_in, .ref m_out, .int 16, .int 0, .int 0, .int 0, .int 0, .ref m_kept, .ref m_keptSize, .ref m_nIp, .ref m_nHeard, .ref m_nHard, .int 0, .int 0, .ref m_gIp, .ref m_gNumber, .ref m_gProtocol, .ref m_gTold, .ref m_gBegun, .ref m_gOrder, .ref m_gBytes, .ref m_gThere, .int 0, .int 0, .ref m_pTarget, .ref m_pBytes, .ref m_pLong, .ref m_pSize, .ref m_pSum, .int 0, .ref m_peer, .int 0, .int 0, .int 0, .int 0, .ref m_answer, .int 0, .int 0])), (m_row, .inl (cM, 2000, .inl f12))] := hD
  refine lv_iload_n hx hb d_Mo_four4_22 rfl (lv_at hl 2 rfl) ?_
  refine lv_iload_n hx hb d_Mo_four4_23 rfl (lv_at hl 0 rfl) ?_
  refine lv_ishr hx hb d_Mo_four4_24 ?_
  refine lv_topi (fun x14 ex14 => ?_)
  refine lv_i2b hx hb d_Mo_four4_25 rfl ?_
  refine lv_topi (fun x15 ex15 => ?_)
  refine va_bast hx hb hK hP hD hS 1 0 rfl rfl (i := 15) (show ¬ ((15 : Int32) < 0 ∨ 2000 ≤ (15 : Int32).toNatClampNeg) by decide) d_Mo_four4_26 (fun H locs hP hD hS => ?_)
  have hP : va_P (dC, dI) cls [(h0, .inr (12, [.ref m_row, .ref m_in, .ref m_out, .int 16, .int 0, .int 0, .int 0, .int 0, .ref m_kept, .ref m_keptSize, .ref m_nIp, .ref m_nHeard, .ref m_nHard, .int 0, .int 0, .ref m_gIp, .ref m_gNumber, .ref m_gProtocol, .ref m_gTold, .ref m_gBegun, .ref m_gOrder, .ref m_gBytes, .ref m_gThere, .int 0, .int 0, .ref m_pTarget, .ref m_pBytes, .ref m_pLong, .ref m_pSize, .ref m_pSum, .int 0, .ref m_peer, .int 0, .int 0, .int 0, .int 0, .ref m_answer, .int 0, .int 0])), (m_row, .inl (cM, 2000, .inl (upd f12 (15 : Int32).toNatClampNeg (vp_nar .byte x15))))] H := hP
  have hD : va_D A [(h0, .inr (12, [.ref m_row, .ref m_in, .ref m_out, .int 16, .int 0, .int 0, .int 0, .int 0, .ref m_kept, .ref m_keptSize, .ref m_nIp, .ref m_nHeard, .ref m_nHard, .int 0, .int 0, .ref m_gIp, .ref m_gNumber, .ref m_gProtocol, .ref m_gTold, .ref m_gBegun, .ref m_gOrder, .ref m_gBytes, .ref m_gThere, .int 0, .int 0, .ref m_pTarget, .ref m_pBytes, .ref m_pLong, .ref m_pSize, .ref m_pSum, .int 0, .ref m_peer, .int 0, .int 0, .int 0, .int 0, .ref m_answer, .int 0, .int 0])), (m_row, .inl (cM, 2000, .inl (upd f12 (15 : Int32).toNatClampNeg (vp_nar .byte x15))))] := hD
  generalize upd f12 (15 : Int32).toNatClampNeg (vp_nar .byte x15) = f16 at hP hD
  refine lv_iinc (v := (-8)) hx hb d_Mo_four4_27 hl (k := 0) rfl (by decide) (by decide) rfl (fun ls hl => ?_)
  have hl : lv_has ls 3 [(2, .int (-8)), (0, .ref h0), (1, .int v)] := hl
  refine lv_goto hx hb d_Mo_four4_30 (tgt := 3) (by decide) ?_
  refine lv_iload_n hx hb d_Mo_four4_3 rfl (lv_at hl 0 rfl) ?_
  refine lv_if_lt (tgt := 33) hx hb d_Mo_four4_4 (by decide) (fun _ => ?_) (fun hc => absurd (by decide) hc)
  have hP9 := hP.sub (ws' := [(h0, .inr (12, [.ref m_row, .ref m_in, .ref m_out, .int 16, .int 0, .int 0, .int 0, .int 0, .ref m_kept, .ref m_keptSize, .ref m_nIp, .ref m_nHeard, .ref m_nHard, .int 0, .int 0, .ref m_gIp, .ref m_gNumber, .ref m_gProtocol, .ref m_gTold, .ref m_gBegun, .ref m_gOrder, .ref m_gBytes, .ref m_gThere, .int 0, .int 0, .ref m_pTarget, .ref m_pBytes, .ref m_pLong, .ref m_pSize, .ref m_pSum, .int 0, .ref m_peer, .int 0, .int 0, .int 0, .int 0, .ref m_answer, .int 0, .int 0])), (m_row, .inl (cM, 2000, .inl f16))]) [0, 1] rfl
  have hD9 := hD.sub (ws' := [(h0, .inr (12, [.ref m_row, .ref m_in, .ref m_out, .int 16, .int 0, .int 0, .int 0, .int 0, .ref m_kept, .ref m_keptSize, .ref m_nIp, .ref m_nHeard, .ref m_nHard, .int 0, .int 0, .ref m_gIp, .ref m_gNumber, .ref m_gProtocol, .ref m_gTold, .ref m_gBegun, .ref m_gOrder, .ref m_gBytes, .ref m_gThere, .int 0, .int 0, .ref m_pTarget, .ref m_pBytes, .ref m_pLong, .ref m_pSize, .ref m_pSum, .int 0, .ref m_peer, .int 0, .int 0, .int 0, .int 0, .ref m_answer, .int 0, .int 0])), (m_row, .inl (cM, 2000, .inl f16))]) [0, 1] (by decide) rfl
  have hK9 := hK.sub (tys' := [(cM, .byte)]) [0] rfl
  refine W.widen (k := 0) (n := 0) (Nat.le_of_ble_eq_true rfl) (Nat.le_of_ble_eq_true rfl) ?_
  exact W.vret hx hb hr (fun t ht hW => ⟨⟨(), rfl, trivial, f16, by rw [ht]; exact hP9, va_K.moved hW.alike hK9, hD9⟩, hS.F ht⟩) hS.2.2 d_Mo_four4_33
set_option maxHeartbeats 4000000 in
set_option maxRecDepth 100000 in
theorem c_Mo_four4_16 (l : Launch) (dC : Nat → ClassId) (dI : Nat → Nat → Nat) (h0 : Nat) (m_row : Nat) (m_in : Nat) (m_out : Nat) (m_kept : Nat) (m_keptSize : Nat) (m_nIp : Nat) (m_nHeard : Nat) (m_nHard : Nat) (m_gIp : Nat) (m_gNumber : Nat) (m_gProtocol : Nat) (m_gTold : Nat) (m_gBegun : Nat) (m_gOrder : Nat) (m_gBytes : Nat) (m_gThere : Nat) (m_pTarget : Nat) (m_pBytes : Nat) (m_pLong : Nat) (m_pSize : Nat) (m_pSum : Nat) (m_peer : Nat) (m_answer : Nat) (cM : ClassId) (v : Int32) (f : Nat → Int32) (sz : Nat) : Met l y_Mo_four4 [Cond.code y_Mo_four4 b_Mo_four4 3 (none)] ({ frames := 20, cells := 0, slots := 0, locals := 300 }) (ux_Pc [.ref h0, .int v] (dC, dI) cls [(h0, .inr (12, [.ref m_row, .ref m_in, .ref m_out, .int 16, .int 0, .int 0, .int 0, .int 0, .ref m_kept, .ref m_keptSize, .ref m_nIp, .ref m_nHeard, .ref m_nHard, .int 0, .int 0, .ref m_gIp, .ref m_gNumber, .ref m_gProtocol, .ref m_gTold, .ref m_gBegun, .ref m_gOrder, .ref m_gBytes, .ref m_gThere, .int 0, .int 0, .ref m_pTarget, .ref m_pBytes, .ref m_pLong, .ref m_pSize, .ref m_pSum, .int 0, .ref m_peer, .int 0, .int 0, .int 0, .int 0, .ref m_answer, .int 0, .int 0])), (m_row, .inl (cM, 2000, .inl f))] [(cM, .byte)] sz) (va_Qv (fun _ : Unit => True) (fun (_ : Unit) (t : State) => ∃ (f2 : Nat → Int32), ux_B (dC, dI) cls (va_A [(h0, .inr (12, [.ref m_row, .ref m_in, .ref m_out, .int 16, .int 0, .int 0, .int 0, .int 0, .ref m_kept, .ref m_keptSize, .ref m_nIp, .ref m_nHeard, .ref m_nHard, .int 0, .int 0, .ref m_gIp, .ref m_gNumber, .ref m_gProtocol, .ref m_gTold, .ref m_gBegun, .ref m_gOrder, .ref m_gBytes, .ref m_gThere, .int 0, .int 0, .ref m_pTarget, .ref m_pBytes, .ref m_pLong, .ref m_pSize, .ref m_pSum, .int 0, .ref m_peer, .int 0, .int 0, .int 0, .int 0, .ref m_answer, .int 0, .int 0])), (m_row, .inl (cM, 2000, .inl f))] sz) [(h0, .inr (12, [.ref m_row, .ref m_in, .ref m_out, .int 20, .int 0, .int 0, .int 0, .int 0, .ref m_kept, .ref m_keptSize, .ref m_nIp, .ref m_nHeard, .ref m_nHard, .int 0, .int 0, .ref m_gIp, .ref m_gNumber, .ref m_gProtocol, .ref m_gTold, .ref m_gBegun, .ref m_gOrder, .ref m_gBytes, .ref m_gThere, .int 0, .int 0, .ref m_pTarget, .ref m_pBytes, .ref m_pLong, .ref m_pSize, .ref m_pSum, .int 0, .ref m_peer, .int 0, .int 0, .int 0, .int 0, .ref m_answer, .int 0, .int 0])), (m_row, .inl (cM, 2000, .inl f2))] [(cM, .byte)] t) (va_A [(h0, .inr (12, [.ref m_row, .ref m_in, .ref m_out, .int 16, .int 0, .int 0, .int 0, .int 0, .ref m_kept, .ref m_keptSize, .ref m_nIp, .ref m_nHeard, .ref m_nHard, .int 0, .int 0, .ref m_gIp, .ref m_gNumber, .ref m_gProtocol, .ref m_gTold, .ref m_gBegun, .ref m_gOrder, .ref m_gBytes, .ref m_gThere, .int 0, .int 0, .ref m_pTarget, .ref m_pBytes, .ref m_pLong, .ref m_pSize, .ref m_pSum, .int 0, .ref m_peer, .int 0, .int 0, .int 0, .int 0, .ref m_answer, .int 0, .int 0])), (m_row, .inl (cM, 2000, .inl f))] sz)) 0 0 (va_A [(h0, .inr (12, [.ref m_row, .ref m_in, .ref m_out, .int 16, .int 0, .int 0, .int 0, .int 0, .ref m_kept, .ref m_keptSize, .ref m_nIp, .ref m_nHeard, .ref m_nHard, .int 0, .int 0, .ref m_gIp, .ref m_gNumber, .ref m_gProtocol, .ref m_gTold, .ref m_gBegun, .ref m_gOrder, .ref m_gBytes, .ref m_gThere, .int 0, .int 0, .ref m_pTarget, .ref m_pBytes, .ref m_pLong, .ref m_pSize, .ref m_pSum, .int 0, .ref m_peer, .int 0, .int 0, .int 0, .int 0, .ref m_answer, .int 0, .int 0])), (m_row, .inl (cM, 2000, .inl f))] sz) := by
  refine Met.ofW (cc := b_Mo_four4) (maxL := 3) (ret := none) (by decide) rfl ?_
  intro p e s m args below meth c s₁ B hml hv
  obtain ⟨rfl, hsz, hP, hK, hD0, hT⟩ := hv
  have hx := B.exec
  have hb := B.bytes
  have hr := B.returns
  have hown : s.vm.findClass "UnikernelHttpModel" = some m.cls := findClass_of_methodNamed B.named
  have hlocks := B.notSynchronized
  subst hsz
  have hD := hD0.self (sz := s.heap.size)
  have hns := ux_ns hP
  generalize hAe : va_A [(h0, .inr (12, [.ref m_row, .ref m_in, .ref m_out, .int 16, .int 0, .int 0, .int 0, .int 0, .ref m_kept, .ref m_keptSize, .ref m_nIp, .ref m_nHeard, .ref m_nHard, .int 0, .int 0, .ref m_gIp, .ref m_gNumber, .ref m_gProtocol, .ref m_gTold, .ref m_gBegun, .ref m_gOrder, .ref m_gBytes, .ref m_gThere, .int 0, .int 0, .ref m_pTarget, .ref m_pBytes, .ref m_pLong, .ref m_pSize, .ref m_pSum, .int 0, .ref m_peer, .int 0, .int 0, .int 0, .int 0, .ref m_answer, .int 0, .int 0])), (m_row, .inl (cM, 2000, .inl f))] s.heap.size = A at hD hns ⊢
  have hA : ∀ q : Nat, s.heap.size ≤ q → A q := fun q h => by rw [← hAe]; exact Or.inr h
  have hS : va_S A s.heap s.heap [] := va_S.rf
  have hl := lv_entry ([.ref h0, .int v]) (n := 3) (Nat.le_of_ble_eq_true rfl)
  rw [lg_entry_eq]
  generalize (lg_sl ([.ref h0, .int v]) ++ List.replicate (3 - (lg_sl ([.ref h0, .int v])).length) Slot.unset).toArray = ls at hl ⊢
  have hl : lv_has ls 3 [(0, .ref h0), (1, .int v)] := hl
  have hfx : CallFix p m c b_Mo_four4 3 s ([.ref h0, .int v] : List Value).toArray [] "UnikernelHttpModel" := ⟨hx, hb, hml, hown, fun _ h => by cases h⟩
  refine lv_bipush (v := 24) hx hb d_Mo_four4_0 (by decide) ?_
  refine lv_istore_n hx hb d_Mo_four4_2 rfl hl (by decide) rfl (fun ls hl => ?_)
  have hl : lv_has ls 3 [(2, .int 24), (0, .ref h0), (1, .int v)] := hl
  refine lv_iload_n hx hb d_Mo_four4_3 rfl (lv_at hl 0 rfl) ?_
  refine lv_if_lt (tgt := 33) hx hb d_Mo_four4_4 (by decide) (fun hc => absurd hc (by decide)) (fun _ => ?_)
  refine lv_aload_n hx hb d_Mo_four4_7 rfl (lv_at hl 1 rfl) ?_
  refine va_get (D := (dC, dI)) (ci := 12) (v := .ref m_row) (C := R_Mo) (T := F_Mo) (N := 39) hx hb (u_Mo hT) (fun _ h => h) hown hK hP 0 rfl rfl 0 (by decide) (ux_T_at hT tw_1594 rfl) (fun _ h9 => h9) rfl d_Mo_four4_8 ?_
  refine lv_aload_n hx hb d_Mo_four4_11 rfl (lv_at hl 1 rfl) ?_
  refine lv_dup hx hb d_Mo_four4_12 rfl ?_
  refine va_get (D := (dC, dI)) (ci := 12) (v := .int 16) (C := R_Mo) (T := F_Mo) (N := 39) hx hb (u_Mo hT) (fun _ h => h) hown hK hP 0 rfl rfl 3 (by decide) (ux_T_at hT tw_1597 rfl) (fun _ h9 => h9) rfl d_Mo_four4_13 ?_
  refine lv_dup_x1 hx hb d_Mo_four4_16 rfl rfl ?_
  refine lv_iconst (v := 1) hx hb d_Mo_four4_17 (by decide) ?_
  refine lv_iadd hx hb d_Mo_four4_18 ?_
  refine lv_topi (fun x1 ex1 => ?_)
  obtain rfl : x1 = 17 := ex1.trans (by decide)
  refine va_put (D := (dC, dI)) (ci := 12) (v := .int 17) (ty := .int) (C := R_Mo) (T := F_Mo) (N := 39) hx hb (u_Mo hT) (fun _ h => h) t_Mo k_Mo n_Mo hown hK hP hD hS 0 rfl rfl 3 (by decide) (ux_T_at hT tw_1597 rfl) (fun _ h9 => h9) rfl (by decide +kernel) rfl rfl (Nat.le_of_ble_eq_true rfl) d_Mo_four4_19 (fun H locs hP hD hS => ?_)
  have hP : va_P (dC, dI) cls [(h0, .inr (12, [.ref m_row, .ref m_in, .ref m_out, .int 17, .int 0, .int 0, .int 0, .int 0, .ref m_kept, .ref m_keptSize, .ref m_nIp, .ref m_nHeard, .ref m_nHard, .int 0, .int 0, .ref m_gIp, .ref m_gNumber, .ref m_gProtocol, .ref m_gTold, .ref m_gBegun, .ref m_gOrder, .ref m_gBytes, .ref m_gThere, .int 0, .int 0, .ref m_pTarget, .ref m_pBytes, .ref m_pLong, .ref m_pSize, .ref m_pSum, .int 0, .ref m_peer, .int 0, .int 0, .int 0, .int 0, .ref m_answer, .int 0, .int 0])), (m_row, .inl (cM, 2000, .inl f))] H := hP
  have hD : va_D A [(h0, .inr (12, [.ref m_row, .ref m_in, .ref m_out, .int 17, .int 0, .int 0, .int 0, .int 0, .ref m_kept, .ref m_keptSize, .ref m_nIp, .ref m_nHeard, .ref m_nHard, .int 0, .int 0, .ref m_gIp, .ref m_gNumber, .ref m_gProtocol, .ref m_gTold, .ref m_gBegun, .ref m_gOrder, .ref m_gBytes, .ref m_gThere, .int 0, .int 0, .ref m_pTarget, .ref m_pBytes, .ref m_pLong, .ref m_pSize, .ref m_pSum, .int 0, .ref m_peer, .int 0, .int 0, .int 0, .int 0, .ref m_answer, .int 0, .int 0])), (m_row, .inl (cM, 2000, .inl f))] := hD
  refine lv_iload_n hx hb d_Mo_four4_22 rfl (lv_at hl 2 rfl) ?_
  refine lv_iload_n hx hb d_Mo_four4_23 rfl (lv_at hl 0 rfl) ?_
  refine lv_ishr hx hb d_Mo_four4_24 ?_
  refine lv_topi (fun x2 ex2 => ?_)
  refine lv_i2b hx hb d_Mo_four4_25 rfl ?_
  refine lv_topi (fun x3 ex3 => ?_)
  refine va_bast hx hb hK hP hD hS 1 0 rfl rfl (i := 16) (show ¬ ((16 : Int32) < 0 ∨ 2000 ≤ (16 : Int32).toNatClampNeg) by decide) d_Mo_four4_26 (fun H locs hP hD hS => ?_)
  have hP : va_P (dC, dI) cls [(h0, .inr (12, [.ref m_row, .ref m_in, .ref m_out, .int 17, .int 0, .int 0, .int 0, .int 0, .ref m_kept, .ref m_keptSize, .ref m_nIp, .ref m_nHeard, .ref m_nHard, .int 0, .int 0, .ref m_gIp, .ref m_gNumber, .ref m_gProtocol, .ref m_gTold, .ref m_gBegun, .ref m_gOrder, .ref m_gBytes, .ref m_gThere, .int 0, .int 0, .ref m_pTarget, .ref m_pBytes, .ref m_pLong, .ref m_pSize, .ref m_pSum, .int 0, .ref m_peer, .int 0, .int 0, .int 0, .int 0, .ref m_answer, .int 0, .int 0])), (m_row, .inl (cM, 2000, .inl (upd f (16 : Int32).toNatClampNeg (vp_nar .byte x3))))] H := hP
  have hD : va_D A [(h0, .inr (12, [.ref m_row, .ref m_in, .ref m_out, .int 17, .int 0, .int 0, .int 0, .int 0, .ref m_kept, .ref m_keptSize, .ref m_nIp, .ref m_nHeard, .ref m_nHard, .int 0, .int 0, .ref m_gIp, .ref m_gNumber, .ref m_gProtocol, .ref m_gTold, .ref m_gBegun, .ref m_gOrder, .ref m_gBytes, .ref m_gThere, .int 0, .int 0, .ref m_pTarget, .ref m_pBytes, .ref m_pLong, .ref m_pSize, .ref m_pSum, .int 0, .ref m_peer, .int 0, .int 0, .int 0, .int 0, .ref m_answer, .int 0, .int 0])), (m_row, .inl (cM, 2000, .inl (upd f (16 : Int32).toNatClampNeg (vp_nar .byte x3))))] := hD
  generalize upd f (16 : Int32).toNatClampNeg (vp_nar .byte x3) = f4 at hP hD
  refine lv_iinc (v := 16) hx hb d_Mo_four4_27 hl (k := 0) rfl (by decide) (by decide) rfl (fun ls hl => ?_)
  have hl : lv_has ls 3 [(2, .int 16), (0, .ref h0), (1, .int v)] := hl
  refine lv_goto hx hb d_Mo_four4_30 (tgt := 3) (by decide) ?_
  refine lv_iload_n hx hb d_Mo_four4_3 rfl (lv_at hl 0 rfl) ?_
  refine lv_if_lt (tgt := 33) hx hb d_Mo_four4_4 (by decide) (fun hc => absurd hc (by decide)) (fun _ => ?_)
  refine lv_aload_n hx hb d_Mo_four4_7 rfl (lv_at hl 1 rfl) ?_
  refine va_get (D := (dC, dI)) (ci := 12) (v := .ref m_row) (C := R_Mo) (T := F_Mo) (N := 39) hx hb (u_Mo hT) (fun _ h => h) hown hK hP 0 rfl rfl 0 (by decide) (ux_T_at hT tw_1594 rfl) (fun _ h9 => h9) rfl d_Mo_four4_8 ?_
  refine lv_aload_n hx hb d_Mo_four4_11 rfl (lv_at hl 1 rfl) ?_
  refine lv_dup hx hb d_Mo_four4_12 rfl ?_
  refine va_get (D := (dC, dI)) (ci := 12) (v := .int 17) (C := R_Mo) (T := F_Mo) (N := 39) hx hb (u_Mo hT) (fun _ h => h) hown hK hP 0 rfl rfl 3 (by decide) (ux_T_at hT tw_1597 rfl) (fun _ h9 => h9) rfl d_Mo_four4_13 ?_
  refine lv_dup_x1 hx hb d_Mo_four4_16 rfl rfl ?_
  refine lv_iconst (v := 1) hx hb d_Mo_four4_17 (by decide) ?_
  refine lv_iadd hx hb d_Mo_four4_18 ?_
  refine lv_topi (fun x5 ex5 => ?_)
  obtain rfl : x5 = 18 := ex5.trans (by decide)
  refine va_put (D := (dC, dI)) (ci := 12) (v := .int 18) (ty := .int) (C := R_Mo) (T := F_Mo) (N := 39) hx hb (u_Mo hT) (fun _ h => h) t_Mo k_Mo n_Mo hown hK hP hD hS 0 rfl rfl 3 (by decide) (ux_T_at hT tw_1597 rfl) (fun _ h9 => h9) rfl (by decide +kernel) rfl rfl (Nat.le_of_ble_eq_true rfl) d_Mo_four4_19 (fun H locs hP hD hS => ?_)
  have hP : va_P (dC, dI) cls [(h0, .inr (12, [.ref m_row, .ref m_in, .ref m_out, .int 18, .int 0, .int 0, .int 0, .int 0, .ref m_kept, .ref m_keptSize, .ref m_nIp, .ref m_nHeard, .ref m_nHard, .int 0, .int 0, .ref m_gIp, .ref m_gNumber, .ref m_gProtocol, .ref m_gTold, .ref m_gBegun, .ref m_gOrder, .ref m_gBytes, .ref m_gThere, .int 0, .int 0, .ref m_pTarget, .ref m_pBytes, .ref m_pLong, .ref m_pSize, .ref m_pSum, .int 0, .ref m_peer, .int 0, .int 0, .int 0, .int 0, .ref m_answer, .int 0, .int 0])), (m_row, .inl (cM, 2000, .inl f4))] H := hP
  have hD : va_D A [(h0, .inr (12, [.ref m_row, .ref m_in, .ref m_out, .int 18, .int 0, .int 0, .int 0, .int 0, .ref m_kept, .ref m_keptSize, .ref m_nIp, .ref m_nHeard, .ref m_nHard, .int 0, .int 0, .ref m_gIp, .ref m_gNumber, .ref m_gProtocol, .ref m_gTold, .ref m_gBegun, .ref m_gOrder, .ref m_gBytes, .ref m_gThere, .int 0, .int 0, .ref m_pTarget, .ref m_pBytes, .ref m_pLong, .ref m_pSize, .ref m_pSum, .int 0, .ref m_peer, .int 0, .int 0, .int 0, .int 0, .ref m_answer, .int 0, .int 0])), (m_row, .inl (cM, 2000, .inl f4))] := hD
  refine lv_iload_n hx hb d_Mo_four4_22 rfl (lv_at hl 2 rfl) ?_
  refine lv_iload_n hx hb d_Mo_four4_23 rfl (lv_at hl 0 rfl) ?_
  refine lv_ishr hx hb d_Mo_four4_24 ?_
  refine lv_topi (fun x6 ex6 => ?_)
  refine lv_i2b hx hb d_Mo_four4_25 rfl ?_
  refine lv_topi (fun x7 ex7 => ?_)
  refine va_bast hx hb hK hP hD hS 1 0 rfl rfl (i := 17) (show ¬ ((17 : Int32) < 0 ∨ 2000 ≤ (17 : Int32).toNatClampNeg) by decide) d_Mo_four4_26 (fun H locs hP hD hS => ?_)
  have hP : va_P (dC, dI) cls [(h0, .inr (12, [.ref m_row, .ref m_in, .ref m_out, .int 18, .int 0, .int 0, .int 0, .int 0, .ref m_kept, .ref m_keptSize, .ref m_nIp, .ref m_nHeard, .ref m_nHard, .int 0, .int 0, .ref m_gIp, .ref m_gNumber, .ref m_gProtocol, .ref m_gTold, .ref m_gBegun, .ref m_gOrder, .ref m_gBytes, .ref m_gThere, .int 0, .int 0, .ref m_pTarget, .ref m_pBytes, .ref m_pLong, .ref m_pSize, .ref m_pSum, .int 0, .ref m_peer, .int 0, .int 0, .int 0, .int 0, .ref m_answer, .int 0, .int 0])), (m_row, .inl (cM, 2000, .inl (upd f4 (17 : Int32).toNatClampNeg (vp_nar .byte x7))))] H := hP
  have hD : va_D A [(h0, .inr (12, [.ref m_row, .ref m_in, .ref m_out, .int 18, .int 0, .int 0, .int 0, .int 0, .ref m_kept, .ref m_keptSize, .ref m_nIp, .ref m_nHeard, .ref m_nHard, .int 0, .int 0, .ref m_gIp, .ref m_gNumber, .ref m_gProtocol, .ref m_gTold, .ref m_gBegun, .ref m_gOrder, .ref m_gBytes, .ref m_gThere, .int 0, .int 0, .ref m_pTarget, .ref m_pBytes, .ref m_pLong, .ref m_pSize, .ref m_pSum, .int 0, .ref m_peer, .int 0, .int 0, .int 0, .int 0, .ref m_answer, .int 0, .int 0])), (m_row, .inl (cM, 2000, .inl (upd f4 (17 : Int32).toNatClampNeg (vp_nar .byte x7))))] := hD
  generalize upd f4 (17 : Int32).toNatClampNeg (vp_nar .byte x7) = f8 at hP hD
  refine lv_iinc (v := 8) hx hb d_Mo_four4_27 hl (k := 0) rfl (by decide) (by decide) rfl (fun ls hl => ?_)
  have hl : lv_has ls 3 [(2, .int 8), (0, .ref h0), (1, .int v)] := hl
  refine lv_goto hx hb d_Mo_four4_30 (tgt := 3) (by decide) ?_
  refine lv_iload_n hx hb d_Mo_four4_3 rfl (lv_at hl 0 rfl) ?_
  refine lv_if_lt (tgt := 33) hx hb d_Mo_four4_4 (by decide) (fun hc => absurd hc (by decide)) (fun _ => ?_)
  refine lv_aload_n hx hb d_Mo_four4_7 rfl (lv_at hl 1 rfl) ?_
  refine va_get (D := (dC, dI)) (ci := 12) (v := .ref m_row) (C := R_Mo) (T := F_Mo) (N := 39) hx hb (u_Mo hT) (fun _ h => h) hown hK hP 0 rfl rfl 0 (by decide) (ux_T_at hT tw_1594 rfl) (fun _ h9 => h9) rfl d_Mo_four4_8 ?_
  refine lv_aload_n hx hb d_Mo_four4_11 rfl (lv_at hl 1 rfl) ?_
  refine lv_dup hx hb d_Mo_four4_12 rfl ?_
  refine va_get (D := (dC, dI)) (ci := 12) (v := .int 18) (C := R_Mo) (T := F_Mo) (N := 39) hx hb (u_Mo hT) (fun _ h => h) hown hK hP 0 rfl rfl 3 (by decide) (ux_T_at hT tw_1597 rfl) (fun _ h9 => h9) rfl d_Mo_four4_13 ?_
  refine lv_dup_x1 hx hb d_Mo_four4_16 rfl rfl ?_
  refine lv_iconst (v := 1) hx hb d_Mo_four4_17 (by decide) ?_
  refine lv_iadd hx hb d_Mo_four4_18 ?_
  refine lv_topi (fun x9 ex9 => ?_)
  obtain rfl : x9 = 19 := ex9.trans (by decide)
  refine va_put (D := (dC, dI)) (ci := 12) (v := .int 19) (ty := .int) (C := R_Mo) (T := F_Mo) (N := 39) hx hb (u_Mo hT) (fun _ h => h) t_Mo k_Mo n_Mo hown hK hP hD hS 0 rfl rfl 3 (by decide) (ux_T_at hT tw_1597 rfl) (fun _ h9 => h9) rfl (by decide +kernel) rfl rfl (Nat.le_of_ble_eq_true rfl) d_Mo_four4_19 (fun H locs hP hD hS => ?_)
  have hP : va_P (dC, dI) cls [(h0, .inr (12, [.ref m_row, .ref m_in, .ref m_out, .int 19, .int 0, .int 0, .int 0, .int 0, .ref m_kept, .ref m_keptSize, .ref m_nIp, .ref m_nHeard, .ref m_nHard, .int 0, .int 0, .ref m_gIp, .ref m_gNumber, .ref m_gProtocol, .ref m_gTold, .ref m_gBegun, .ref m_gOrder, .ref m_gBytes, .ref m_gThere, .int 0, .int 0, .ref m_pTarget, .ref m_pBytes, .ref m_pLong, .ref m_pSize, .ref m_pSum, .int 0, .ref m_peer, .int 0, .int 0, .int 0, .int 0, .ref m_answer, .int 0, .int 0])), (m_row, .inl (cM, 2000, .inl f8))] H := hP
  have hD : va_D A [(h0, .inr (12, [.ref m_row, .ref m_in, .ref m_out, .int 19, .int 0, .int 0, .int 0, .int 0, .ref m_kept, .ref m_keptSize, .ref m_nIp, .ref m_nHeard, .ref m_nHard, .int 0, .int 0, .ref m_gIp, .ref m_gNumber, .ref m_gProtocol, .ref m_gTold, .ref m_gBegun, .ref m_gOrder, .ref m_gBytes, .ref m_gThere, .int 0, .int 0, .ref m_pTarget, .ref m_pBytes, .ref m_pLong, .ref m_pSize, .ref m_pSum, .int 0, .ref m_peer, .int 0, .int 0, .int 0, .int 0, .ref m_answer, .int 0, .int 0])), (m_row, .inl (cM, 2000, .inl f8))] := hD
  refine lv_iload_n hx hb d_Mo_four4_22 rfl (lv_at hl 2 rfl) ?_
  refine lv_iload_n hx hb d_Mo_four4_23 rfl (lv_at hl 0 rfl) ?_
  refine lv_ishr hx hb d_Mo_four4_24 ?_
  refine lv_topi (fun x10 ex10 => ?_)
  refine lv_i2b hx hb d_Mo_four4_25 rfl ?_
  refine lv_topi (fun x11 ex11 => ?_)
  refine va_bast hx hb hK hP hD hS 1 0 rfl rfl (i := 18) (show ¬ ((18 : Int32) < 0 ∨ 2000 ≤ (18 : Int32).toNatClampNeg) by decide) d_Mo_four4_26 (fun H locs hP hD hS => ?_)
  have hP : va_P (dC, dI) cls [(h0, .inr (12, [.ref m_row, .ref m_in, .ref m_out, .int 19, .int 0, .int 0, .int 0, .int 0, .ref m_kept, .ref m_keptSize, .ref m_nIp, .ref m_nHeard, .ref m_nHard, .int 0, .int 0, .ref m_gIp, .ref m_gNumber, .ref m_gProtocol, .ref m_gTold, .ref m_gBegun, .ref m_gOrder, .ref m_gBytes, .ref m_gThere, .int 0, .int 0, .ref m_pTarget, .ref m_pBytes, .ref m_pLong, .ref m_pSize, .ref m_pSum, .int 0, .ref m_peer, .int 0, .int 0, .int 0, .int 0, .ref m_answer, .int 0, .int 0])), (m_row, .inl (cM, 2000, .inl (upd f8 (18 : Int32).toNatClampNeg (vp_nar .byte x11))))] H := hP
  have hD : va_D A [(h0, .inr (12, [.ref m_row, .ref m_in, .ref m_out, .int 19, .int 0, .int 0, .int 0, .int 0, .ref m_kept, .ref m_keptSize, .ref m_nIp, .ref m_nHeard, .ref m_nHard, .int 0, .int 0, .ref m_gIp, .ref m_gNumber, .ref m_gProtocol, .ref m_gTold, .ref m_gBegun, .ref m_gOrder, .ref m_gBytes, .ref m_gThere, .int 0, .int 0, .ref m_pTarget, .ref m_pBytes, .ref m_pLong, .ref m_pSize, .ref m_pSum, .int 0, .ref m_peer, .int 0, .int 0, .int 0, .int 0, .ref m_answer, .int 0, .int 0])), (m_row, .inl (cM, 2000, .inl (upd f8 (18 : Int32).toNatClampNeg (vp_nar .byte x11))))] := hD
  generalize upd f8 (18 : Int32).toNatClampNeg (vp_nar .byte x11) = f12 at hP hD
  refine lv_iinc (v := 0) hx hb d_Mo_four4_27 hl (k := 0) rfl (by decide) (by decide) rfl (fun ls hl => ?_)
  have hl : lv_has ls 3 [(2, .int 0), (0, .ref h0), (1, .int v)] := hl
  refine lv_goto hx hb d_Mo_four4_30 (tgt := 3) (by decide) ?_
  refine lv_iload_n hx hb d_Mo_four4_3 rfl (lv_at hl 0 rfl) ?_
  refine lv_if_lt (tgt := 33) hx hb d_Mo_four4_4 (by decide) (fun hc => absurd hc (by decide)) (fun _ => ?_)
  refine lv_aload_n hx hb d_Mo_four4_7 rfl (lv_at hl 1 rfl) ?_
  refine va_get (D := (dC, dI)) (ci := 12) (v := .ref m_row) (C := R_Mo) (T := F_Mo) (N := 39) hx hb (u_Mo hT) (fun _ h => h) hown hK hP 0 rfl rfl 0 (by decide) (ux_T_at hT tw_1594 rfl) (fun _ h9 => h9) rfl d_Mo_four4_8 ?_
  refine lv_aload_n hx hb d_Mo_four4_11 rfl (lv_at hl 1 rfl) ?_
  refine lv_dup hx hb d_Mo_four4_12 rfl ?_
  refine va_get (D := (dC, dI)) (ci := 12) (v := .int 19) (C := R_Mo) (T := F_Mo) (N := 39) hx hb (u_Mo hT) (fun _ h => h) hown hK hP 0 rfl rfl 3 (by decide) (ux_T_at hT tw_1597 rfl) (fun _ h9 => h9) rfl d_Mo_four4_13 ?_
  refine lv_dup_x1 hx hb d_Mo_four4_16 rfl rfl ?_
  refine lv_iconst (v := 1) hx hb d_Mo_four4_17 (by decide) ?_
  refine lv_iadd hx hb d_Mo_four4_18 ?_
  refine lv_topi (fun x13 ex13 => ?_)
  obtain rfl : x13 = 20 := ex13.trans (by decide)
  refine va_put (D := (dC, dI)) (ci := 12) (v := .int 20) (ty := .int) (C := R_Mo) (T := F_Mo) (N := 39) hx hb (u_Mo hT) (fun _ h => h) t_Mo k_Mo n_Mo hown hK hP hD hS 0 rfl rfl 3 (by decide) (ux_T_at hT tw_1597 rfl) (fun _ h9 => h9) rfl (by decide +kernel) rfl rfl (Nat.le_of_ble_eq_true rfl) d_Mo_four4_19 (fun H locs hP hD hS => ?_)
  have hP : va_P (dC, dI) cls [(h0, .inr (12, [.ref m_row, .ref m_in, .ref m_out, .int 20, .int 0, .int 0, .int 0, .int 0, .ref m_kept, .ref m_keptSize, .ref m_nIp, .ref m_nHeard, .ref m_nHard, .int 0, .int 0, .ref m_gIp, .ref m_gNumber, .ref m_gProtocol, .ref m_gTold, .ref m_gBegun, .ref m_gOrder, .ref m_gBytes, .ref m_gThere, .int 0, .int 0, .ref m_pTarget, .ref m_pBytes, .ref m_pLong, .ref m_pSize, .ref m_pSum, .int 0, .ref m_peer, .int 0, .int 0, .int 0, .int 0, .ref m_answer, .int 0, .int 0])), (m_row, .inl (cM, 2000, .inl f12))] H := hP
  have hD : va_D A [(h0, .inr (12, [.ref m_row, .ref m_in, .ref m_out, .int 20, .int 0, .int 0, .int 0, .int 0, .ref m_kept, .ref m_keptSize, .ref m_nIp, .ref m_nHeard, .ref m_nHard, .int 0, .int 0, .ref m_gIp, .ref m_gNumber, .ref m_gProtocol, .ref m_gTold, .ref m_gBegun, .ref m_gOrder, .ref m_gBytes, .ref m_gThere, .int 0, .int 0, .ref m_pTarget, .ref m_pBytes, .ref m_pLong, .ref m_pSize, .ref m_pSum, .int 0, .ref m_peer, .int 0, .int 0, .int 0, .int 0, .ref m_answer, .int 0, .int 0])), (m_row, .inl (cM, 2000, .inl f12))] := hD
  refine lv_iload_n hx hb d_Mo_four4_22 rfl (lv_at hl 2 rfl) ?_
  refine lv_iload_n hx hb d_Mo_four4_23 rfl (lv_at hl 0 rfl) ?_
  refine lv_ishr hx hb d_Mo_four4_24 ?_
  refine lv_topi (fun x14 ex14 => ?_)
  refine lv_i2b hx hb d_Mo_four4_25 rfl ?_
  refine lv_topi (fun x15 ex15 => ?_)
  refine va_bast hx hb hK hP hD hS 1 0 rfl rfl (i := 19) (show ¬ ((19 : Int32) < 0 ∨ 2000 ≤ (19 : Int32).toNatClampNeg) by decide) d_Mo_four4_26 (fun H locs hP hD hS => ?_)
  have hP : va_P (dC, dI) cls [(h0, .inr (12, [.ref m_row, .ref m_in, .ref m_out, .int 20, .int 0, .int 0, .int 0, .int 0, .ref m_kept, .ref m_keptSize, .ref m_nIp, .ref m_nHeard, .ref m_nHard, .int 0, .int 0, .ref m_gIp, .ref m_gNumber, .ref m_gProtocol, .ref m_gTold, .ref m_gBegun, .ref m_gOrder, .ref m_gBytes, .ref m_gThere, .int 0, .int 0, .ref m_pTarget, .ref m_pBytes, .ref m_pLong, .ref m_pSize, .ref m_pSum, .int 0, .ref m_peer, .int 0, .int 0, .int 0, .int 0, .ref m_answer, .int 0, .int 0])), (m_row, .inl (cM, 2000, .inl (upd f12 (19 : Int32).toNatClampNeg (vp_nar .byte x15))))] H := hP
  have hD : va_D A [(h0, .inr (12, [.ref m_row, .ref m_in, .ref m_out, .int 20, .int 0, .int 0, .int 0, .int 0, .ref m_kept, .ref m_keptSize, .ref m_nIp, .ref m_nHeard, .ref m_nHard, .int 0, .int 0, .ref m_gIp, .ref m_gNumber, .ref m_gProtocol, .ref m_gTold, .ref m_gBegun, .ref m_gOrder, .ref m_gBytes, .ref m_gThere, .int 0, .int 0, .ref m_pTarget, .ref m_pBytes, .ref m_pLong, .ref m_pSize, .ref m_pSum, .int 0, .ref m_peer, .int 0, .int 0, .int 0, .int 0, .ref m_answer, .int 0, .int 0])), (m_row, .inl (cM, 2000, .inl (upd f12 (19 : Int32).toNatClampNeg (vp_nar .byte x15))))] := hD
  generalize upd f12 (19 : Int32).toNatClampNeg (vp_nar .byte x15) = f16 at hP hD
  refine lv_iinc (v := (-8)) hx hb d_Mo_four4_27 hl (k := 0) rfl (by decide) (by decide) rfl (fun ls hl => ?_)
  have hl : lv_has ls 3 [(2, .int (-8)), (0, .ref h0), (1, .int v)] := hl
  refine lv_goto hx hb d_Mo_four4_30 (tgt := 3) (by decide) ?_
  refine lv_iload_n hx hb d_Mo_four4_3 rfl (lv_at hl 0 rfl) ?_
  refine lv_if_lt (tgt := 33) hx hb d_Mo_four4_4 (by decide) (fun _ => ?_) (fun hc => absurd (by decide) hc)
  have hP9 := hP.sub (ws' := [(h0, .inr (12, [.ref m_row, .ref m_in, .ref m_out, .int 20, .int 0, .int 0, .int 0, .int 0, .ref m_kept, .ref m_keptSize, .ref m_nIp, .ref m_nHeard, .ref m_nHard, .int 0, .int 0, .ref m_gIp, .ref m_gNumber, .ref m_gProtocol, .ref m_gTold, .ref m_gBegun, .ref m_gOrder, .ref m_gBytes, .ref m_gThere, .int 0, .int 0, .ref m_pTarget, .ref m_pBytes, .ref m_pLong, .ref m_pSize, .ref m_pSum, .int 0, .ref m_peer, .int 0, .int 0, .int 0, .int 0, .ref m_answer, .int 0, .int 0])), (m_row, .inl (cM, 2000, .inl f16))]) [0, 1] rfl
  have hD9 := hD.sub (ws' := [(h0, .inr (12, [.ref m_row, .ref m_in, .ref m_out, .int 20, .int 0, .int 0, .int 0, .int 0, .ref m_kept, .ref m_keptSize, .ref m_nIp, .ref m_nHeard, .ref m_nHard, .int 0, .int 0, .ref m_gIp, .ref m_gNumber, .ref m_gProtocol, .ref m_gTold, .ref m_gBegun, .ref m_gOrder, .ref m_gBytes, .ref m_gThere, .int 0, .int 0, .ref m_pTarget, .ref m_pBytes, .ref m_pLong, .ref m_pSize, .ref m_pSum, .int 0, .ref m_peer, .int 0, .int 0, .int 0, .int 0, .ref m_answer, .int 0, .int 0])), (m_row, .inl (cM, 2000, .inl f16))]) [0, 1] (by decide) rfl
  have hK9 := hK.sub (tys' := [(cM, .byte)]) [0] rfl
  refine W.widen (k := 0) (n := 0) (Nat.le_of_ble_eq_true rfl) (Nat.le_of_ble_eq_true rfl) ?_
  exact W.vret hx hb hr (fun t ht hW => ⟨⟨(), rfl, trivial, f16, by rw [ht]; exact hP9, va_K.moved hW.alike hK9, hD9⟩, hS.F ht⟩) hS.2.2 d_Mo_four4_33
set_option maxHeartbeats 4000000 in
set_option maxRecDepth 100000 in
theorem c_Mo_comes (l : Launch) (dC : Nat → ClassId) (dI : Nat → Nat → Nat) (h0 : Nat) (m_row : Nat) (m_in : Nat) (m_out : Nat) (m_kept : Nat) (m_keptSize : Nat) (m_nIp : Nat) (m_nHeard : Nat) (m_nHard : Nat) (m_gIp : Nat) (m_gNumber : Nat) (m_gProtocol : Nat) (m_gTold : Nat) (m_gBegun : Nat) (m_gOrder : Nat) (m_gBytes : Nat) (m_gThere : Nat) (m_pTarget : Nat) (m_pBytes : Nat) (m_pLong : Nat) (m_pSize : Nat) (m_pSum : Nat) (m_peer : Nat) (m_answer : Nat) (cM : ClassId) (cN : ClassId) (f : Nat → Int32) (g : Nat → Int32) (sz : Nat) : Met l y_Mo_comes [Cond.code y_Mo_comes b_Mo_comes 1 (none)] ({ frames := 20, cells := 0, slots := 0, locals := 300 }) (ux_Pc [.ref h0] (dC, dI) cls [(h0, .inr (12, [.ref m_row, .ref m_in, .ref m_out, .int 0, .int 0, .int 0, .int 0, .int 0, .ref m_kept, .ref m_keptSize, .ref m_nIp, .ref m_nHeard, .ref m_nHard, .int 0, .int 0, .ref m_gIp, .ref m_gNumber, .ref m_gProtocol, .ref m_gTold, .ref m_gBegun, .ref m_gOrder, .ref m_gBytes, .ref m_gThere, .int 0, .int 0, .ref m_pTarget, .ref m_pBytes, .ref m_pLong, .ref m_pSize, .ref m_pSum, .int 0, .ref m_peer, .int 0, .int 0, .int 0, .int 0, .ref m_answer, .int 0, .int 0])), (m_row, .inl (cM, 2000, .inl f)), (m_in, .inl (cN, 5718, .inl g))] [(cM, .byte), (cN, .byte)] sz) (va_Qv (fun _ : Unit => True) (fun (_ : Unit) (t : State) => ux_B (dC, dI) cls (va_A [(h0, .inr (12, [.ref m_row, .ref m_in, .ref m_out, .int 0, .int 0, .int 0, .int 0, .int 0, .ref m_kept, .ref m_keptSize, .ref m_nIp, .ref m_nHeard, .ref m_nHard, .int 0, .int 0, .ref m_gIp, .ref m_gNumber, .ref m_gProtocol, .ref m_gTold, .ref m_gBegun, .ref m_gOrder, .ref m_gBytes, .ref m_gThere, .int 0, .int 0, .ref m_pTarget, .ref m_pBytes, .ref m_pLong, .ref m_pSize, .ref m_pSum, .int 0, .ref m_peer, .int 0, .int 0, .int 0, .int 0, .ref m_answer, .int 0, .int 0])), (m_row, .inl (cM, 2000, .inl f)), (m_in, .inl (cN, 5718, .inl g))] sz) [(h0, .inr (12, [.ref m_row, .ref m_in, .ref m_out, .int 0, .int 0, .int 0, .int 0, .int 0, .ref m_kept, .ref m_keptSize, .ref m_nIp, .ref m_nHeard, .ref m_nHard, .int 0, .int 0, .ref m_gIp, .ref m_gNumber, .ref m_gProtocol, .ref m_gTold, .ref m_gBegun, .ref m_gOrder, .ref m_gBytes, .ref m_gThere, .int 0, .int 0, .ref m_pTarget, .ref m_pBytes, .ref m_pLong, .ref m_pSize, .ref m_pSum, .int 0, .ref m_peer, .int 0, .int 0, .int 0, .int 0, .ref m_answer, .int 0, .int 0]))] [] t) (va_A [(h0, .inr (12, [.ref m_row, .ref m_in, .ref m_out, .int 0, .int 0, .int 0, .int 0, .int 0, .ref m_kept, .ref m_keptSize, .ref m_nIp, .ref m_nHeard, .ref m_nHard, .int 0, .int 0, .ref m_gIp, .ref m_gNumber, .ref m_gProtocol, .ref m_gTold, .ref m_gBegun, .ref m_gOrder, .ref m_gBytes, .ref m_gThere, .int 0, .int 0, .ref m_pTarget, .ref m_pBytes, .ref m_pLong, .ref m_pSize, .ref m_pSum, .int 0, .ref m_peer, .int 0, .int 0, .int 0, .int 0, .ref m_answer, .int 0, .int 0])), (m_row, .inl (cM, 2000, .inl f)), (m_in, .inl (cN, 5718, .inl g))] sz)) 0 0 (va_A [(h0, .inr (12, [.ref m_row, .ref m_in, .ref m_out, .int 0, .int 0, .int 0, .int 0, .int 0, .ref m_kept, .ref m_keptSize, .ref m_nIp, .ref m_nHeard, .ref m_nHard, .int 0, .int 0, .ref m_gIp, .ref m_gNumber, .ref m_gProtocol, .ref m_gTold, .ref m_gBegun, .ref m_gOrder, .ref m_gBytes, .ref m_gThere, .int 0, .int 0, .ref m_pTarget, .ref m_pBytes, .ref m_pLong, .ref m_pSize, .ref m_pSum, .int 0, .ref m_peer, .int 0, .int 0, .int 0, .int 0, .ref m_answer, .int 0, .int 0])), (m_row, .inl (cM, 2000, .inl f)), (m_in, .inl (cN, 5718, .inl g))] sz) := by
  refine Met.ofW (cc := b_Mo_comes) (maxL := 1) (ret := none) (by decide) rfl ?_
  intro p e s m args below meth c s₁ B hml hv
  obtain ⟨rfl, hsz, hP, hK, hD0, hT⟩ := hv
  have hx := B.exec
  have hb := B.bytes
  have hr := B.returns
  have hown : s.vm.findClass "UnikernelHttpModel" = some m.cls := findClass_of_methodNamed B.named
  have hlocks := B.notSynchronized
  subst hsz
  have hD := hD0.self (sz := s.heap.size)
  have hns := ux_ns hP
  generalize hAe : va_A [(h0, .inr (12, [.ref m_row, .ref m_in, .ref m_out, .int 0, .int 0, .int 0, .int 0, .int 0, .ref m_kept, .ref m_keptSize, .ref m_nIp, .ref m_nHeard, .ref m_nHard, .int 0, .int 0, .ref m_gIp, .ref m_gNumber, .ref m_gProtocol, .ref m_gTold, .ref m_gBegun, .ref m_gOrder, .ref m_gBytes, .ref m_gThere, .int 0, .int 0, .ref m_pTarget, .ref m_pBytes, .ref m_pLong, .ref m_pSize, .ref m_pSum, .int 0, .ref m_peer, .int 0, .int 0, .int 0, .int 0, .ref m_answer, .int 0, .int 0])), (m_row, .inl (cM, 2000, .inl f)), (m_in, .inl (cN, 5718, .inl g))] s.heap.size = A at hD hns ⊢
  have hA : ∀ q : Nat, s.heap.size ≤ q → A q := fun q h => by rw [← hAe]; exact Or.inr h
  have hS : va_S A s.heap s.heap [] := va_S.rf
  have hl := lv_entry ([.ref h0]) (n := 1) (Nat.le_of_ble_eq_true rfl)
  rw [lg_entry_eq]
  generalize (lg_sl ([.ref h0]) ++ List.replicate (1 - (lg_sl ([.ref h0])).length) Slot.unset).toArray = ls at hl ⊢
  have hl : lv_has ls 1 [(0, .ref h0)] := hl
  have hfx : CallFix p m c b_Mo_comes 1 s ([.ref h0] : List Value).toArray [] "UnikernelHttpModel" := ⟨hx, hb, hml, hown, fun _ h => by cases h⟩
  refine lv_aload_n hx hb d_Mo_comes_0 rfl (lv_at hl 0 rfl) ?_
  refine lv_aload_n hx hb d_Mo_comes_1 rfl (lv_at hl 0 rfl) ?_
  refine va_get (D := (dC, dI)) (ci := 12) (v := .int 0) (C := R_Mo) (T := F_Mo) (N := 39) hx hb (u_Mo hT) (fun _ h => h) hown hK hP 0 rfl rfl 3 (by decide) (ux_T_at hT tw_1597 rfl) (fun _ h9 => h9) rfl d_Mo_comes_2 ?_
  refine va_put (D := (dC, dI)) (ci := 12) (v := .int 0) (ty := .int) (C := R_Mo) (T := F_Mo) (N := 39) hx hb (u_Mo hT) (fun _ h => h) t_Mo k_Mo n_Mo hown hK hP hD hS 0 rfl rfl 35 (by decide) (ux_T_at hT tw_1628 rfl) (fun _ h9 => h9) rfl (by decide +kernel) rfl rfl (Nat.le_of_ble_eq_true rfl) d_Mo_comes_5 (fun H locs hP hD hS => ?_)
  have hP : va_P (dC, dI) cls [(h0, .inr (12, [.ref m_row, .ref m_in, .ref m_out, .int 0, .int 0, .int 0, .int 0, .int 0, .ref m_kept, .ref m_keptSize, .ref m_nIp, .ref m_nHeard, .ref m_nHard, .int 0, .int 0, .ref m_gIp, .ref m_gNumber, .ref m_gProtocol, .ref m_gTold, .ref m_gBegun, .ref m_gOrder, .ref m_gBytes, .ref m_gThere, .int 0, .int 0, .ref m_pTarget, .ref m_pBytes, .ref m_pLong, .ref m_pSize, .ref m_pSum, .int 0, .ref m_peer, .int 0, .int 0, .int 0, .int 0, .ref m_answer, .int 0, .int 0])), (m_row, .inl (cM, 2000, .inl f)), (m_in, .inl (cN, 5718, .inl g))] H := hP
  have hD : va_D A [(h0, .inr (12, [.ref m_row, .ref m_in, .ref m_out, .int 0, .int 0, .int 0, .int 0, .int 0, .ref m_kept, .ref m_keptSize, .ref m_nIp, .ref m_nHeard, .ref m_nHard, .int 0, .int 0, .ref m_gIp, .ref m_gNumber, .ref m_gProtocol, .ref m_gTold, .ref m_gBegun, .ref m_gOrder, .ref m_gBytes, .ref m_gThere, .int 0, .int 0, .ref m_pTarget, .ref m_pBytes, .ref m_pLong, .ref m_pSize, .ref m_pSum, .int 0, .ref m_peer, .int 0, .int 0, .int 0, .int 0, .ref m_answer, .int 0, .int 0])), (m_row, .inl (cM, 2000, .inl f)), (m_in, .inl (cN, 5718, .inl g))] := hD
  refine lv_aload_n hx hb d_Mo_comes_8 rfl (lv_at hl 0 rfl) ?_
  refine va_get (D := (dC, dI)) (ci := 12) (v := .ref m_row) (C := R_Mo) (T := F_Mo) (N := 39) hx hb (u_Mo hT) (fun _ h => h) hown hK hP 0 rfl rfl 0 (by decide) (ux_T_at hT tw_1594 rfl) (fun _ h9 => h9) rfl d_Mo_comes_9 ?_
  refine lv_iconst (v := 0) hx hb d_Mo_comes_12 (by decide) ?_
  refine lv_aload_n hx hb d_Mo_comes_13 rfl (lv_at hl 0 rfl) ?_
  refine va_get (D := (dC, dI)) (ci := 12) (v := .ref m_in) (C := R_Mo) (T := F_Mo) (N := 39) hx hb (u_Mo hT) (fun _ h => h) hown hK hP 0 rfl rfl 1 (by decide) (ux_T_at hT tw_1595 rfl) (fun _ h9 => h9) rfl d_Mo_comes_14 ?_
  refine lv_iconst (v := 0) hx hb d_Mo_comes_17 (by decide) ?_
  refine lv_aload_n hx hb d_Mo_comes_18 rfl (lv_at hl 0 rfl) ?_
  refine va_get (D := (dC, dI)) (ci := 12) (v := .int 0) (C := R_Mo) (T := F_Mo) (N := 39) hx hb (u_Mo hT) (fun _ h => h) hown hK hP 0 rfl rfl 3 (by decide) (ux_T_at hT tw_1597 rfl) (fun _ h9 => h9) rfl d_Mo_comes_19 ?_
  refine va_copyi hx hb (by rw [hml]; exact hl.1.symm) hown (ux_T_at hT tw_1735 rfl) (ux_T_at hT tw_717 rfl) (ux_T_at hT tw_716 rfl) (ux_T_at hT tw_22 rfl) hK hP hD hS 1 2 0 1 rfl rfl rfl rfl rfl (by decide) (by decide) (by decide) (by decide) (by decide) (fun i hi => absurd hi (by simp)) (Nat.le_of_ble_eq_true rfl) (Nat.le_of_ble_eq_true rfl) d_Mo_comes_22 (fun H locs hP hD hS => ?_)
  have hP : va_P (dC, dI) cls [(h0, .inr (12, [.ref m_row, .ref m_in, .ref m_out, .int 0, .int 0, .int 0, .int 0, .int 0, .ref m_kept, .ref m_keptSize, .ref m_nIp, .ref m_nHeard, .ref m_nHard, .int 0, .int 0, .ref m_gIp, .ref m_gNumber, .ref m_gProtocol, .ref m_gTold, .ref m_gBegun, .ref m_gOrder, .ref m_gBytes, .ref m_gThere, .int 0, .int 0, .ref m_pTarget, .ref m_pBytes, .ref m_pLong, .ref m_pSize, .ref m_pSum, .int 0, .ref m_peer, .int 0, .int 0, .int 0, .int 0, .ref m_answer, .int 0, .int 0])), (m_row, .inl (cM, 2000, .inl f)), (m_in, .inl (cN, 5718, .inl (va_cpy f g (0 : Int32).toNatClampNeg (0 : Int32).toNatClampNeg (0 : Int32).toNatClampNeg)))] H := hP
  have hD : va_D A [(h0, .inr (12, [.ref m_row, .ref m_in, .ref m_out, .int 0, .int 0, .int 0, .int 0, .int 0, .ref m_kept, .ref m_keptSize, .ref m_nIp, .ref m_nHeard, .ref m_nHard, .int 0, .int 0, .ref m_gIp, .ref m_gNumber, .ref m_gProtocol, .ref m_gTold, .ref m_gBegun, .ref m_gOrder, .ref m_gBytes, .ref m_gThere, .int 0, .int 0, .ref m_pTarget, .ref m_pBytes, .ref m_pLong, .ref m_pSize, .ref m_pSum, .int 0, .ref m_peer, .int 0, .int 0, .int 0, .int 0, .ref m_answer, .int 0, .int 0])), (m_row, .inl (cM, 2000, .inl f)), (m_in, .inl (cN, 5718, .inl (va_cpy f g (0 : Int32).toNatClampNeg (0 : Int32).toNatClampNeg (0 : Int32).toNatClampNeg)))] := hD
  generalize va_cpy f g (0 : Int32).toNatClampNeg (0 : Int32).toNatClampNeg (0 : Int32).toNatClampNeg = f1 at hP hD
  refine lv_aload_n hx hb d_Mo_comes_25 rfl (lv_at hl 0 rfl) ?_
  refine va_get (D := (dC, dI)) (ci := 12) (v := .int 0) (C := R_Mo) (T := F_Mo) (N := 39) hx hb (u_Mo hT) (fun _ h => h) hown hK hP 0 rfl rfl 35 (by decide) (ux_T_at hT tw_1628 rfl) (fun _ h9 => h9) rfl d_Mo_comes_26 ?_
  refine lv_bipush (v := 14) hx hb d_Mo_comes_29 (by decide) ?_
  refine lv_icmp_lt (tgt := 58) hx hb d_Mo_comes_31 (by decide) (fun _ => ?_) (fun hc => absurd (by decide) hc)
  have hP9 := hP.sub (ws' := [(h0, .inr (12, [.ref m_row, .ref m_in, .ref m_out, .int 0, .int 0, .int 0, .int 0, .int 0, .ref m_kept, .ref m_keptSize, .ref m_nIp, .ref m_nHeard, .ref m_nHard, .int 0, .int 0, .ref m_gIp, .ref m_gNumber, .ref m_gProtocol, .ref m_gTold, .ref m_gBegun, .ref m_gOrder, .ref m_gBytes, .ref m_gThere, .int 0, .int 0, .ref m_pTarget, .ref m_pBytes, .ref m_pLong, .ref m_pSize, .ref m_pSum, .int 0, .ref m_peer, .int 0, .int 0, .int 0, .int 0, .ref m_answer, .int 0, .int 0]))]) [0] rfl
  have hD9 := hD.sub (ws' := [(h0, .inr (12, [.ref m_row, .ref m_in, .ref m_out, .int 0, .int 0, .int 0, .int 0, .int 0, .ref m_kept, .ref m_keptSize, .ref m_nIp, .ref m_nHeard, .ref m_nHard, .int 0, .int 0, .ref m_gIp, .ref m_gNumber, .ref m_gProtocol, .ref m_gTold, .ref m_gBegun, .ref m_gOrder, .ref m_gBytes, .ref m_gThere, .int 0, .int 0, .ref m_pTarget, .ref m_pBytes, .ref m_pLong, .ref m_pSize, .ref m_pSum, .int 0, .ref m_peer, .int 0, .int 0, .int 0, .int 0, .ref m_answer, .int 0, .int 0]))]) [0] (by decide) rfl
  have hK9 := hK.sub (tys' := []) [] rfl
  refine W.widen (k := 0) (n := 0) (Nat.le_of_ble_eq_true rfl) (Nat.le_of_ble_eq_true rfl) ?_
  exact W.vret hx hb hr (fun t ht hW => ⟨⟨(), rfl, trivial, by rw [ht]; exact hP9, va_K.moved hW.alike hK9, hD9⟩, hS.F ht⟩) hS.2.2 d_Mo_comes_58
set_option maxHeartbeats 4000000 in
set_option maxRecDepth 100000 in
theorem c_Mo_find (l : Launch) (dC : Nat → ClassId) (dI : Nat → Nat → Nat) (h0 : Nat) (m_row : Nat) (m_in : Nat) (m_out : Nat) (m_kept : Nat) (m_keptSize : Nat) (m_nIp : Nat) (m_nHeard : Nat) (m_nHard : Nat) (m_gIp : Nat) (m_gNumber : Nat) (m_gProtocol : Nat) (m_gTold : Nat) (m_gBegun : Nat) (m_gOrder : Nat) (m_gBytes : Nat) (m_gThere : Nat) (m_pTarget : Nat) (m_pBytes : Nat) (m_pLong : Nat) (m_pSize : Nat) (m_pSum : Nat) (m_peer : Nat) (m_answer : Nat) (a : Int32) (b : Int32) (sz : Nat) : Met l y_Mo_find [Cond.code y_Mo_find b_Mo_find 4 (some .int)] ({ frames := 20, cells := 0, slots := 0, locals := 300 }) (ux_Pc [.ref h0, .int a, .int b] (dC, dI) cls [(h0, .inr (12, [.ref m_row, .ref m_in, .ref m_out, .int 0, .int 0, .int 0, .int 0, .int 0, .ref m_kept, .ref m_keptSize, .ref m_nIp, .ref m_nHeard, .ref m_nHard, .int 0, .int 0, .ref m_gIp, .ref m_gNumber, .ref m_gProtocol, .ref m_gTold, .ref m_gBegun, .ref m_gOrder, .ref m_gBytes, .ref m_gThere, .int 0, .int 0, .ref m_pTarget, .ref m_pBytes, .ref m_pLong, .ref m_pSize, .ref m_pSum, .int 0, .ref m_peer, .int 0, .int 0, .int 0, .int 0, .ref m_answer, .int 0, .int 0]))] [] sz) (va_Qi (fun (r : Int32) (_ : Unit) => r = -1) (fun (_ : Unit) (t : State) => ux_B (dC, dI) cls (va_A [(h0, .inr (12, [.ref m_row, .ref m_in, .ref m_out, .int 0, .int 0, .int 0, .int 0, .int 0, .ref m_kept, .ref m_keptSize, .ref m_nIp, .ref m_nHeard, .ref m_nHard, .int 0, .int 0, .ref m_gIp, .ref m_gNumber, .ref m_gProtocol, .ref m_gTold, .ref m_gBegun, .ref m_gOrder, .ref m_gBytes, .ref m_gThere, .int 0, .int 0, .ref m_pTarget, .ref m_pBytes, .ref m_pLong, .ref m_pSize, .ref m_pSum, .int 0, .ref m_peer, .int 0, .int 0, .int 0, .int 0, .ref m_answer, .int 0, .int 0]))] sz) [(h0, .inr (12, [.ref m_row, .ref m_in, .ref m_out, .int 0, .int 0, .int 0, .int 0, .int 0, .ref m_kept, .ref m_keptSize, .ref m_nIp, .ref m_nHeard, .ref m_nHard, .int 0, .int 0, .ref m_gIp, .ref m_gNumber, .ref m_gProtocol, .ref m_gTold, .ref m_gBegun, .ref m_gOrder, .ref m_gBytes, .ref m_gThere, .int 0, .int 0, .ref m_pTarget, .ref m_pBytes, .ref m_pLong, .ref m_pSize, .ref m_pSum, .int 0, .ref m_peer, .int 0, .int 0, .int 0, .int 0, .ref m_answer, .int 0, .int 0]))] [] t) (va_A [(h0, .inr (12, [.ref m_row, .ref m_in, .ref m_out, .int 0, .int 0, .int 0, .int 0, .int 0, .ref m_kept, .ref m_keptSize, .ref m_nIp, .ref m_nHeard, .ref m_nHard, .int 0, .int 0, .ref m_gIp, .ref m_gNumber, .ref m_gProtocol, .ref m_gTold, .ref m_gBegun, .ref m_gOrder, .ref m_gBytes, .ref m_gThere, .int 0, .int 0, .ref m_pTarget, .ref m_pBytes, .ref m_pLong, .ref m_pSize, .ref m_pSum, .int 0, .ref m_peer, .int 0, .int 0, .int 0, .int 0, .ref m_answer, .int 0, .int 0]))] sz)) 0 0 (va_A [(h0, .inr (12, [.ref m_row, .ref m_in, .ref m_out, .int 0, .int 0, .int 0, .int 0, .int 0, .ref m_kept, .ref m_keptSize, .ref m_nIp, .ref m_nHeard, .ref m_nHard, .int 0, .int 0, .ref m_gIp, .ref m_gNumber, .ref m_gProtocol, .ref m_gTold, .ref m_gBegun, .ref m_gOrder, .ref m_gBytes, .ref m_gThere, .int 0, .int 0, .ref m_pTarget, .ref m_pBytes, .ref m_pLong, .ref m_pSize, .ref m_pSum, .int 0, .ref m_peer, .int 0, .int 0, .int 0, .int 0, .ref m_answer, .int 0, .int 0]))] sz) := by
  refine Met.ofW (cc := b_Mo_find) (maxL := 4) (ret := some .int) (by decide) rfl ?_
  intro p e s m args below meth c s₁ B hml hv
  obtain ⟨rfl, hsz, hP, hK, hD0, hT⟩ := hv
  have hx := B.exec
  have hb := B.bytes
  have hr := B.returns
  have hown : s.vm.findClass "UnikernelHttpModel" = some m.cls := findClass_of_methodNamed B.named
  have hlocks := B.notSynchronized
  subst hsz
  have hD := hD0.self (sz := s.heap.size)
  have hns := ux_ns hP
  generalize hAe : va_A [(h0, .inr (12, [.ref m_row, .ref m_in, .ref m_out, .int 0, .int 0, .int 0, .int 0, .int 0, .ref m_kept, .ref m_keptSize, .ref m_nIp, .ref m_nHeard, .ref m_nHard, .int 0, .int 0, .ref m_gIp, .ref m_gNumber, .ref m_gProtocol, .ref m_gTold, .ref m_gBegun, .ref m_gOrder, .ref m_gBytes, .ref m_gThere, .int 0, .int 0, .ref m_pTarget, .ref m_pBytes, .ref m_pLong, .ref m_pSize, .ref m_pSum, .int 0, .ref m_peer, .int 0, .int 0, .int 0, .int 0, .ref m_answer, .int 0, .int 0]))] s.heap.size = A at hD hns ⊢
  have hA : ∀ q : Nat, s.heap.size ≤ q → A q := fun q h => by rw [← hAe]; exact Or.inr h
  have hS : va_S A s.heap s.heap [] := va_S.rf
  have hl := lv_entry ([.ref h0, .int a, .int b]) (n := 4) (Nat.le_of_ble_eq_true rfl)
  rw [lg_entry_eq]
  generalize (lg_sl ([.ref h0, .int a, .int b]) ++ List.replicate (4 - (lg_sl ([.ref h0, .int a, .int b])).length) Slot.unset).toArray = ls at hl ⊢
  have hl : lv_has ls 4 [(0, .ref h0), (1, .int a), (2, .int b)] := hl
  have hfx : CallFix p m c b_Mo_find 4 s ([.ref h0, .int a, .int b] : List Value).toArray [] "UnikernelHttpModel" := ⟨hx, hb, hml, hown, fun _ h => by cases h⟩
  refine lv_iconst (v := 0) hx hb d_Mo_find_0 (by decide) ?_
  refine lv_istore_n hx hb d_Mo_find_1 rfl hl (by decide) rfl (fun ls hl => ?_)
  have hl : lv_has ls 4 [(3, .int 0), (0, .ref h0), (1, .int a), (2, .int b)] := hl
  refine lv_iload_n hx hb d_Mo_find_2 rfl (lv_at hl 0 rfl) ?_
  refine lv_aload_n hx hb d_Mo_find_3 rfl (lv_at hl 1 rfl) ?_
  refine va_get (D := (dC, dI)) (ci := 12) (v := .int 0) (C := R_Mo) (T := F_Mo) (N := 39) hx hb (u_Mo hT) (fun _ h => h) hown hK hP 0 rfl rfl 32 (by decide) (ux_T_at hT tw_1625 rfl) (fun _ h9 => h9) rfl d_Mo_find_4 ?_
  refine lv_icmp_ge (tgt := 44) hx hb d_Mo_find_7 (by decide) (fun _ => ?_) (fun hc => absurd (by decide) hc)
  refine lv_iconst (v := (-1)) hx hb d_Mo_find_44 (by decide) ?_
  have hP9 := hP.sub (ws' := [(h0, .inr (12, [.ref m_row, .ref m_in, .ref m_out, .int 0, .int 0, .int 0, .int 0, .int 0, .ref m_kept, .ref m_keptSize, .ref m_nIp, .ref m_nHeard, .ref m_nHard, .int 0, .int 0, .ref m_gIp, .ref m_gNumber, .ref m_gProtocol, .ref m_gTold, .ref m_gBegun, .ref m_gOrder, .ref m_gBytes, .ref m_gThere, .int 0, .int 0, .ref m_pTarget, .ref m_pBytes, .ref m_pLong, .ref m_pSize, .ref m_pSum, .int 0, .ref m_peer, .int 0, .int 0, .int 0, .int 0, .ref m_answer, .int 0, .int 0]))]) [0] rfl
  have hD9 := hD.sub (ws' := [(h0, .inr (12, [.ref m_row, .ref m_in, .ref m_out, .int 0, .int 0, .int 0, .int 0, .int 0, .ref m_kept, .ref m_keptSize, .ref m_nIp, .ref m_nHeard, .ref m_nHard, .int 0, .int 0, .ref m_gIp, .ref m_gNumber, .ref m_gProtocol, .ref m_gTold, .ref m_gBegun, .ref m_gOrder, .ref m_gBytes, .ref m_gThere, .int 0, .int 0, .ref m_pTarget, .ref m_pBytes, .ref m_pLong, .ref m_pSize, .ref m_pSum, .int 0, .ref m_peer, .int 0, .int 0, .int 0, .int 0, .ref m_answer, .int 0, .int 0]))]) [0] (by decide) rfl
  have hK9 := hK.sub (tys' := []) [] rfl
  refine W.widen (k := 0) (n := 0) (Nat.le_of_ble_eq_true rfl) (Nat.le_of_ble_eq_true rfl) ?_
  exact W.iret (v := (-1)) hx hb hr (fun t ht hW => ⟨⟨_, (), rfl, rfl, by rw [ht]; exact hP9, va_K.moved hW.alike hK9, hD9⟩, hS.F ht⟩) hS.2.2 d_Mo_find_45
set_option maxHeartbeats 4000000 in
set_option maxRecDepth 100000 in
theorem c_Mo_isKept (l : Launch) (dC : Nat → ClassId) (dI : Nat → Nat → Nat) (h0 : Nat) (m_row : Nat) (m_in : Nat) (m_out : Nat) (m_kept : Nat) (m_keptSize : Nat) (m_nIp : Nat) (m_nHeard : Nat) (m_nHard : Nat) (m_gIp : Nat) (m_gNumber : Nat) (m_gProtocol : Nat) (m_gTold : Nat) (m_gBegun : Nat) (m_gOrder : Nat) (m_gBytes : Nat) (m_gThere : Nat) (m_pTarget : Nat) (m_pBytes : Nat) (m_pLong : Nat) (m_pSize : Nat) (m_pSum : Nat) (m_peer : Nat) (m_answer : Nat) (k : Int32) (sz : Nat) : Met l y_Mo_isKept [Cond.code y_Mo_isKept b_Mo_isKept 2 (some .boolean)] ({ frames := 20, cells := 0, slots := 0, locals := 300 }) (ux_Pc [.ref h0, .int k] (dC, dI) cls [(h0, .inr (12, [.ref m_row, .ref m_in, .ref m_out, .int 0, .int 0, .int 0, .int 0, .int 0, .ref m_kept, .ref m_keptSize, .ref m_nIp, .ref m_nHeard, .ref m_nHard, .int 0, .int 0, .ref m_gIp, .ref m_gNumber, .ref m_gProtocol, .ref m_gTold, .ref m_gBegun, .ref m_gOrder, .ref m_gBytes, .ref m_gThere, .int 0, .int 0, .ref m_pTarget, .ref m_pBytes, .ref m_pLong, .ref m_pSize, .ref m_pSum, .int 0, .ref m_peer, .int 0, .int 0, .int 0, .int 0, .ref m_answer, .int 0, .int 0]))] [] sz) (va_Qi (fun (r : Int32) (_ : Unit) => r = 0) (fun (_ : Unit) (t : State) => ux_B (dC, dI) cls (va_A [(h0, .inr (12, [.ref m_row, .ref m_in, .ref m_out, .int 0, .int 0, .int 0, .int 0, .int 0, .ref m_kept, .ref m_keptSize, .ref m_nIp, .ref m_nHeard, .ref m_nHard, .int 0, .int 0, .ref m_gIp, .ref m_gNumber, .ref m_gProtocol, .ref m_gTold, .ref m_gBegun, .ref m_gOrder, .ref m_gBytes, .ref m_gThere, .int 0, .int 0, .ref m_pTarget, .ref m_pBytes, .ref m_pLong, .ref m_pSize, .ref m_pSum, .int 0, .ref m_peer, .int 0, .int 0, .int 0, .int 0, .ref m_answer, .int 0, .int 0]))] sz) [(h0, .inr (12, [.ref m_row, .ref m_in, .ref m_out, .int 0, .int 0, .int 0, .int 0, .int 0, .ref m_kept, .ref m_keptSize, .ref m_nIp, .ref m_nHeard, .ref m_nHard, .int 0, .int 0, .ref m_gIp, .ref m_gNumber, .ref m_gProtocol, .ref m_gTold, .ref m_gBegun, .ref m_gOrder, .ref m_gBytes, .ref m_gThere, .int 0, .int 0, .ref m_pTarget, .ref m_pBytes, .ref m_pLong, .ref m_pSize, .ref m_pSum, .int 0, .ref m_peer, .int 0, .int 0, .int 0, .int 0, .ref m_answer, .int 0, .int 0]))] [] t) (va_A [(h0, .inr (12, [.ref m_row, .ref m_in, .ref m_out, .int 0, .int 0, .int 0, .int 0, .int 0, .ref m_kept, .ref m_keptSize, .ref m_nIp, .ref m_nHeard, .ref m_nHard, .int 0, .int 0, .ref m_gIp, .ref m_gNumber, .ref m_gProtocol, .ref m_gTold, .ref m_gBegun, .ref m_gOrder, .ref m_gBytes, .ref m_gThere, .int 0, .int 0, .ref m_pTarget, .ref m_pBytes, .ref m_pLong, .ref m_pSize, .ref m_pSum, .int 0, .ref m_peer, .int 0, .int 0, .int 0, .int 0, .ref m_answer, .int 0, .int 0]))] sz)) 0 0 (va_A [(h0, .inr (12, [.ref m_row, .ref m_in, .ref m_out, .int 0, .int 0, .int 0, .int 0, .int 0, .ref m_kept, .ref m_keptSize, .ref m_nIp, .ref m_nHeard, .ref m_nHard, .int 0, .int 0, .ref m_gIp, .ref m_gNumber, .ref m_gProtocol, .ref m_gTold, .ref m_gBegun, .ref m_gOrder, .ref m_gBytes, .ref m_gThere, .int 0, .int 0, .ref m_pTarget, .ref m_pBytes, .ref m_pLong, .ref m_pSize, .ref m_pSum, .int 0, .ref m_peer, .int 0, .int 0, .int 0, .int 0, .ref m_answer, .int 0, .int 0]))] sz) := by
  refine Met.ofW (cc := b_Mo_isKept) (maxL := 2) (ret := some .boolean) (by decide) rfl ?_
  intro p e s m args below meth c s₁ B hml hv
  obtain ⟨rfl, hsz, hP, hK, hD0, hT⟩ := hv
  have hx := B.exec
  have hb := B.bytes
  have hr := B.returns
  have hown : s.vm.findClass "UnikernelHttpModel" = some m.cls := findClass_of_methodNamed B.named
  have hlocks := B.notSynchronized
  subst hsz
  have hD := hD0.self (sz := s.heap.size)
  have hns := ux_ns hP
  generalize hAe : va_A [(h0, .inr (12, [.ref m_row, .ref m_in, .ref m_out, .int 0, .int 0, .int 0, .int 0, .int 0, .ref m_kept, .ref m_keptSize, .ref m_nIp, .ref m_nHeard, .ref m_nHard, .int 0, .int 0, .ref m_gIp, .ref m_gNumber, .ref m_gProtocol, .ref m_gTold, .ref m_gBegun, .ref m_gOrder, .ref m_gBytes, .ref m_gThere, .int 0, .int 0, .ref m_pTarget, .ref m_pBytes, .ref m_pLong, .ref m_pSize, .ref m_pSum, .int 0, .ref m_peer, .int 0, .int 0, .int 0, .int 0, .ref m_answer, .int 0, .int 0]))] s.heap.size = A at hD hns ⊢
  have hA : ∀ q : Nat, s.heap.size ≤ q → A q := fun q h => by rw [← hAe]; exact Or.inr h
  have hS : va_S A s.heap s.heap [] := va_S.rf
  have hl := lv_entry ([.ref h0, .int k]) (n := 2) (Nat.le_of_ble_eq_true rfl)
  rw [lg_entry_eq]
  generalize (lg_sl ([.ref h0, .int k]) ++ List.replicate (2 - (lg_sl ([.ref h0, .int k])).length) Slot.unset).toArray = ls at hl ⊢
  have hl : lv_has ls 2 [(0, .ref h0), (1, .int k)] := hl
  have hfx : CallFix p m c b_Mo_isKept 2 s ([.ref h0, .int k] : List Value).toArray [] "UnikernelHttpModel" := ⟨hx, hb, hml, hown, fun _ h => by cases h⟩
  refine lv_iload_n hx hb d_Mo_isKept_0 rfl (lv_at hl 1 rfl) ?_
  refine lv_if_lt (tgt := 27) hx hb d_Mo_isKept_1 (by decide) (fun hc1 => ?_) (fun hc1 => ?_)
  · refine lv_iconst (v := 0) hx hb d_Mo_isKept_27 (by decide) ?_
    have hP9 := hP.sub (ws' := [(h0, .inr (12, [.ref m_row, .ref m_in, .ref m_out, .int 0, .int 0, .int 0, .int 0, .int 0, .ref m_kept, .ref m_keptSize, .ref m_nIp, .ref m_nHeard, .ref m_nHard, .int 0, .int 0, .ref m_gIp, .ref m_gNumber, .ref m_gProtocol, .ref m_gTold, .ref m_gBegun, .ref m_gOrder, .ref m_gBytes, .ref m_gThere, .int 0, .int 0, .ref m_pTarget, .ref m_pBytes, .ref m_pLong, .ref m_pSize, .ref m_pSum, .int 0, .ref m_peer, .int 0, .int 0, .int 0, .int 0, .ref m_answer, .int 0, .int 0]))]) [0] rfl
    have hD9 := hD.sub (ws' := [(h0, .inr (12, [.ref m_row, .ref m_in, .ref m_out, .int 0, .int 0, .int 0, .int 0, .int 0, .ref m_kept, .ref m_keptSize, .ref m_nIp, .ref m_nHeard, .ref m_nHard, .int 0, .int 0, .ref m_gIp, .ref m_gNumber, .ref m_gProtocol, .ref m_gTold, .ref m_gBegun, .ref m_gOrder, .ref m_gBytes, .ref m_gThere, .int 0, .int 0, .ref m_pTarget, .ref m_pBytes, .ref m_pLong, .ref m_pSize, .ref m_pSum, .int 0, .ref m_peer, .int 0, .int 0, .int 0, .int 0, .ref m_answer, .int 0, .int 0]))]) [0] (by decide) rfl
    have hK9 := hK.sub (tys' := []) [] rfl
    refine W.widen (k := 0) (n := 0) (Nat.le_of_ble_eq_true rfl) (Nat.le_of_ble_eq_true rfl) ?_
    exact W.zret (v := 0) hx hb hr (by decide) (fun t ht hW => ⟨⟨_, (), rfl, rfl, by rw [ht]; exact hP9, va_K.moved hW.alike hK9, hD9⟩, hS.F ht⟩) hS.2.2 d_Mo_isKept_28
  · refine lv_iload_n hx hb d_Mo_isKept_4 rfl (lv_at hl 1 rfl) ?_
    refine lv_aload_n hx hb d_Mo_isKept_5 rfl (lv_at hl 0 rfl) ?_
    refine va_get (D := (dC, dI)) (ci := 12) (v := .int 0) (C := R_Mo) (T := F_Mo) (N := 39) hx hb (u_Mo hT) (fun _ h => h) hown hK hP 0 rfl rfl 7 (by decide) (ux_T_at hT tw_1601 rfl) (fun _ h9 => h9) rfl d_Mo_isKept_6 ?_
    refine lv_icmp_ge (tgt := 27) hx hb d_Mo_isKept_9 (by decide) (fun _ => ?_) (fun hc2 => by exfalso; simp only [Int32.lt_iff_toInt_lt, Int32.le_iff_toInt_le, ← Int32.toInt_inj, ux_l0] at hc2 hc1; omega)
    refine lv_iconst (v := 0) hx hb d_Mo_isKept_27 (by decide) ?_
    have hP9 := hP.sub (ws' := [(h0, .inr (12, [.ref m_row, .ref m_in, .ref m_out, .int 0, .int 0, .int 0, .int 0, .int 0, .ref m_kept, .ref m_keptSize, .ref m_nIp, .ref m_nHeard, .ref m_nHard, .int 0, .int 0, .ref m_gIp, .ref m_gNumber, .ref m_gProtocol, .ref m_gTold, .ref m_gBegun, .ref m_gOrder, .ref m_gBytes, .ref m_gThere, .int 0, .int 0, .ref m_pTarget, .ref m_pBytes, .ref m_pLong, .ref m_pSize, .ref m_pSum, .int 0, .ref m_peer, .int 0, .int 0, .int 0, .int 0, .ref m_answer, .int 0, .int 0]))]) [0] rfl
    have hD9 := hD.sub (ws' := [(h0, .inr (12, [.ref m_row, .ref m_in, .ref m_out, .int 0, .int 0, .int 0, .int 0, .int 0, .ref m_kept, .ref m_keptSize, .ref m_nIp, .ref m_nHeard, .ref m_nHard, .int 0, .int 0, .ref m_gIp, .ref m_gNumber, .ref m_gProtocol, .ref m_gTold, .ref m_gBegun, .ref m_gOrder, .ref m_gBytes, .ref m_gThere, .int 0, .int 0, .ref m_pTarget, .ref m_pBytes, .ref m_pLong, .ref m_pSize, .ref m_pSum, .int 0, .ref m_peer, .int 0, .int 0, .int 0, .int 0, .ref m_answer, .int 0, .int 0]))]) [0] (by decide) rfl
    have hK9 := hK.sub (tys' := []) [] rfl
    refine W.widen (k := 0) (n := 0) (Nat.le_of_ble_eq_true rfl) (Nat.le_of_ble_eq_true rfl) ?_
    exact W.zret (v := 0) hx hb hr (by decide) (fun t ht hW => ⟨⟨_, (), rfl, rfl, by rw [ht]; exact hP9, va_K.moved hW.alike hK9, hD9⟩, hS.F ht⟩) hS.2.2 d_Mo_isKept_28
set_option maxHeartbeats 4000000 in
set_option maxRecDepth 100000 in
theorem c_Mo_thrown_0 (l : Launch) (dC : Nat → ClassId) (dI : Nat → Nat → Nat) (h0 : Nat) (m_row : Nat) (m_in : Nat) (m_out : Nat) (m_kept : Nat) (m_keptSize : Nat) (m_nIp : Nat) (m_nHeard : Nat) (m_nHard : Nat) (m_gIp : Nat) (m_gNumber : Nat) (m_gProtocol : Nat) (m_gTold : Nat) (m_gBegun : Nat) (m_gOrder : Nat) (m_gBytes : Nat) (m_gThere : Nat) (m_pTarget : Nat) (m_pBytes : Nat) (m_pLong : Nat) (m_pSize : Nat) (m_pSum : Nat) (m_peer : Nat) (m_answer : Nat) (rw : Int32) (tm : Int32) (sz : Nat) : Met l y_Mo_thrown [Cond.code y_Mo_thrown b_Mo_thrown 1 (some .int)] ({ frames := 20, cells := 0, slots := 0, locals := 300 }) (ux_Pc [.ref h0] (dC, dI) cls [(h0, .inr (12, [.ref m_row, .ref m_in, .ref m_out, .int rw, .int 0, .int tm, .int 0, .int 0, .ref m_kept, .ref m_keptSize, .ref m_nIp, .ref m_nHeard, .ref m_nHard, .int 0, .int 0, .ref m_gIp, .ref m_gNumber, .ref m_gProtocol, .ref m_gTold, .ref m_gBegun, .ref m_gOrder, .ref m_gBytes, .ref m_gThere, .int 0, .int 0, .ref m_pTarget, .ref m_pBytes, .ref m_pLong, .ref m_pSize, .ref m_pSum, .int 0, .ref m_peer, .int 0, .int 0, .int 0, .int 0, .ref m_answer, .int 0, .int 0]))] [] sz) (va_Qi (fun (r : Int32) (_ : Unit) => r = 0) (fun (_ : Unit) (t : State) => ux_B (dC, dI) cls (va_A [(h0, .inr (12, [.ref m_row, .ref m_in, .ref m_out, .int rw, .int 0, .int tm, .int 0, .int 0, .ref m_kept, .ref m_keptSize, .ref m_nIp, .ref m_nHeard, .ref m_nHard, .int 0, .int 0, .ref m_gIp, .ref m_gNumber, .ref m_gProtocol, .ref m_gTold, .ref m_gBegun, .ref m_gOrder, .ref m_gBytes, .ref m_gThere, .int 0, .int 0, .ref m_pTarget, .ref m_pBytes, .ref m_pLong, .ref m_pSize, .ref m_pSum, .int 0, .ref m_peer, .int 0, .int 0, .int 0, .int 0, .ref m_answer, .int 0, .int 0]))] sz) [(h0, .inr (12, [.ref m_row, .ref m_in, .ref m_out, .int rw, .int 0, .int tm, .int 0, .int 0, .ref m_kept, .ref m_keptSize, .ref m_nIp, .ref m_nHeard, .ref m_nHard, .int 0, .int 0, .ref m_gIp, .ref m_gNumber, .ref m_gProtocol, .ref m_gTold, .ref m_gBegun, .ref m_gOrder, .ref m_gBytes, .ref m_gThere, .int 0, .int 0, .ref m_pTarget, .ref m_pBytes, .ref m_pLong, .ref m_pSize, .ref m_pSum, .int 0, .ref m_peer, .int 0, .int 0, .int 0, .int 0, .ref m_answer, .int 0, .int 0]))] [] t) (va_A [(h0, .inr (12, [.ref m_row, .ref m_in, .ref m_out, .int rw, .int 0, .int tm, .int 0, .int 0, .ref m_kept, .ref m_keptSize, .ref m_nIp, .ref m_nHeard, .ref m_nHard, .int 0, .int 0, .ref m_gIp, .ref m_gNumber, .ref m_gProtocol, .ref m_gTold, .ref m_gBegun, .ref m_gOrder, .ref m_gBytes, .ref m_gThere, .int 0, .int 0, .ref m_pTarget, .ref m_pBytes, .ref m_pLong, .ref m_pSize, .ref m_pSum, .int 0, .ref m_peer, .int 0, .int 0, .int 0, .int 0, .ref m_answer, .int 0, .int 0]))] sz)) 0 0 (va_A [(h0, .inr (12, [.ref m_row, .ref m_in, .ref m_out, .int rw, .int 0, .int tm, .int 0, .int 0, .ref m_kept, .ref m_keptSize, .ref m_nIp, .ref m_nHeard, .ref m_nHard, .int 0, .int 0, .ref m_gIp, .ref m_gNumber, .ref m_gProtocol, .ref m_gTold, .ref m_gBegun, .ref m_gOrder, .ref m_gBytes, .ref m_gThere, .int 0, .int 0, .ref m_pTarget, .ref m_pBytes, .ref m_pLong, .ref m_pSize, .ref m_pSum, .int 0, .ref m_peer, .int 0, .int 0, .int 0, .int 0, .ref m_answer, .int 0, .int 0]))] sz) := by
  refine Met.ofW (cc := b_Mo_thrown) (maxL := 1) (ret := some .int) (by decide) rfl ?_
  intro p e s m args below meth c s₁ B hml hv
  obtain ⟨rfl, hsz, hP, hK, hD0, hT⟩ := hv
  have hx := B.exec
  have hb := B.bytes
  have hr := B.returns
  have hown : s.vm.findClass "UnikernelHttpModel" = some m.cls := findClass_of_methodNamed B.named
  have hlocks := B.notSynchronized
  subst hsz
  have hD := hD0.self (sz := s.heap.size)
  have hns := ux_ns hP
  generalize hAe : va_A [(h0, .inr (12, [.ref m_row, .ref m_in, .ref m_out, .int rw, .int 0, .int tm, .int 0, .int 0, .ref m_kept, .ref m_keptSize, .ref m_nIp, .ref m_nHeard, .ref m_nHard, .int 0, .int 0, .ref m_gIp, .ref m_gNumber, .ref m_gProtocol, .ref m_gTold, .ref m_gBegun, .ref m_gOrder, .ref m_gBytes, .ref m_gThere, .int 0, .int 0, .ref m_pTarget, .ref m_pBytes, .ref m_pLong, .ref m_pSize, .ref m_pSum, .int 0, .ref m_peer, .int 0, .int 0, .int 0, .int 0, .ref m_answer, .int 0, .int 0]))] s.heap.size = A at hD hns ⊢
  have hA : ∀ q : Nat, s.heap.size ≤ q → A q := fun q h => by rw [← hAe]; exact Or.inr h
  have hS : va_S A s.heap s.heap [] := va_S.rf
  have hl := lv_entry ([.ref h0]) (n := 1) (Nat.le_of_ble_eq_true rfl)
  rw [lg_entry_eq]
  generalize (lg_sl ([.ref h0]) ++ List.replicate (1 - (lg_sl ([.ref h0])).length) Slot.unset).toArray = ls at hl ⊢
  have hl : lv_has ls 1 [(0, .ref h0)] := hl
  have hfx : CallFix p m c b_Mo_thrown 1 s ([.ref h0] : List Value).toArray [] "UnikernelHttpModel" := ⟨hx, hb, hml, hown, fun _ h => by cases h⟩
  refine lv_aload_n hx hb d_Mo_thrown_0 rfl (lv_at hl 0 rfl) ?_
  refine va_get (D := (dC, dI)) (ci := 12) (v := .int 0) (C := R_Mo) (T := F_Mo) (N := 39) hx hb (u_Mo hT) (fun _ h => h) hown hK hP 0 rfl rfl 4 (by decide) (ux_T_at hT tw_1598 rfl) (fun _ h9 => h9) rfl d_Mo_thrown_1 ?_
  have hP9 := hP.sub (ws' := [(h0, .inr (12, [.ref m_row, .ref m_in, .ref m_out, .int rw, .int 0, .int tm, .int 0, .int 0, .ref m_kept, .ref m_keptSize, .ref m_nIp, .ref m_nHeard, .ref m_nHard, .int 0, .int 0, .ref m_gIp, .ref m_gNumber, .ref m_gProtocol, .ref m_gTold, .ref m_gBegun, .ref m_gOrder, .ref m_gBytes, .ref m_gThere, .int 0, .int 0, .ref m_pTarget, .ref m_pBytes, .ref m_pLong, .ref m_pSize, .ref m_pSum, .int 0, .ref m_peer, .int 0, .int 0, .int 0, .int 0, .ref m_answer, .int 0, .int 0]))]) [0] rfl
  have hD9 := hD.sub (ws' := [(h0, .inr (12, [.ref m_row, .ref m_in, .ref m_out, .int rw, .int 0, .int tm, .int 0, .int 0, .ref m_kept, .ref m_keptSize, .ref m_nIp, .ref m_nHeard, .ref m_nHard, .int 0, .int 0, .ref m_gIp, .ref m_gNumber, .ref m_gProtocol, .ref m_gTold, .ref m_gBegun, .ref m_gOrder, .ref m_gBytes, .ref m_gThere, .int 0, .int 0, .ref m_pTarget, .ref m_pBytes, .ref m_pLong, .ref m_pSize, .ref m_pSum, .int 0, .ref m_peer, .int 0, .int 0, .int 0, .int 0, .ref m_answer, .int 0, .int 0]))]) [0] (by decide) rfl
  have hK9 := hK.sub (tys' := []) [] rfl
  refine W.widen (k := 0) (n := 0) (Nat.le_of_ble_eq_true rfl) (Nat.le_of_ble_eq_true rfl) ?_
  exact W.iret (v := 0) hx hb hr (fun t ht hW => ⟨⟨_, (), rfl, rfl, by rw [ht]; exact hP9, va_K.moved hW.alike hK9, hD9⟩, hS.F ht⟩) hS.2.2 d_Mo_thrown_4
set_option maxHeartbeats 4000000 in
set_option maxRecDepth 100000 in
theorem c_Mo_thrown_1 (l : Launch) (dC : Nat → ClassId) (dI : Nat → Nat → Nat) (h0 : Nat) (m_row : Nat) (m_in : Nat) (m_out : Nat) (m_kept : Nat) (m_keptSize : Nat) (m_nIp : Nat) (m_nHeard : Nat) (m_nHard : Nat) (m_gIp : Nat) (m_gNumber : Nat) (m_gProtocol : Nat) (m_gTold : Nat) (m_gBegun : Nat) (m_gOrder : Nat) (m_gBytes : Nat) (m_gThere : Nat) (m_pTarget : Nat) (m_pBytes : Nat) (m_pLong : Nat) (m_pSize : Nat) (m_pSum : Nat) (m_peer : Nat) (m_answer : Nat) (rw : Int32) (tm : Int32) (sz : Nat) : Met l y_Mo_thrown [Cond.code y_Mo_thrown b_Mo_thrown 1 (some .int)] ({ frames := 20, cells := 0, slots := 0, locals := 300 }) (ux_Pc [.ref h0] (dC, dI) cls [(h0, .inr (12, [.ref m_row, .ref m_in, .ref m_out, .int rw, .int 1, .int tm, .int 0, .int 0, .ref m_kept, .ref m_keptSize, .ref m_nIp, .ref m_nHeard, .ref m_nHard, .int 0, .int 0, .ref m_gIp, .ref m_gNumber, .ref m_gProtocol, .ref m_gTold, .ref m_gBegun, .ref m_gOrder, .ref m_gBytes, .ref m_gThere, .int 0, .int 0, .ref m_pTarget, .ref m_pBytes, .ref m_pLong, .ref m_pSize, .ref m_pSum, .int 0, .ref m_peer, .int 0, .int 0, .int 0, .int 0, .ref m_answer, .int 0, .int 0]))] [] sz) (va_Qi (fun (r : Int32) (_ : Unit) => r = 1) (fun (_ : Unit) (t : State) => ux_B (dC, dI) cls (va_A [(h0, .inr (12, [.ref m_row, .ref m_in, .ref m_out, .int rw, .int 1, .int tm, .int 0, .int 0, .ref m_kept, .ref m_keptSize, .ref m_nIp, .ref m_nHeard, .ref m_nHard, .int 0, .int 0, .ref m_gIp, .ref m_gNumber, .ref m_gProtocol, .ref m_gTold, .ref m_gBegun, .ref m_gOrder, .ref m_gBytes, .ref m_gThere, .int 0, .int 0, .ref m_pTarget, .ref m_pBytes, .ref m_pLong, .ref m_pSize, .ref m_pSum, .int 0, .ref m_peer, .int 0, .int 0, .int 0, .int 0, .ref m_answer, .int 0, .int 0]))] sz) [(h0, .inr (12, [.ref m_row, .ref m_in, .ref m_out, .int rw, .int 1, .int tm, .int 0, .int 0, .ref m_kept, .ref m_keptSize, .ref m_nIp, .ref m_nHeard, .ref m_nHard, .int 0, .int 0, .ref m_gIp, .ref m_gNumber, .ref m_gProtocol, .ref m_gTold, .ref m_gBegun, .ref m_gOrder, .ref m_gBytes, .ref m_gThere, .int 0, .int 0, .ref m_pTarget, .ref m_pBytes, .ref m_pLong, .ref m_pSize, .ref m_pSum, .int 0, .ref m_peer, .int 0, .int 0, .int 0, .int 0, .ref m_answer, .int 0, .int 0]))] [] t) (va_A [(h0, .inr (12, [.ref m_row, .ref m_in, .ref m_out, .int rw, .int 1, .int tm, .int 0, .int 0, .ref m_kept, .ref m_keptSize, .ref m_nIp, .ref m_nHeard, .ref m_nHard, .int 0, .int 0, .ref m_gIp, .ref m_gNumber, .ref m_gProtocol, .ref m_gTold, .ref m_gBegun, .ref m_gOrder, .ref m_gBytes, .ref m_gThere, .int 0, .int 0, .ref m_pTarget, .ref m_pBytes, .ref m_pLong, .ref m_pSize, .ref m_pSum, .int 0, .ref m_peer, .int 0, .int 0, .int 0, .int 0, .ref m_answer, .int 0, .int 0]))] sz)) 0 0 (va_A [(h0, .inr (12, [.ref m_row, .ref m_in, .ref m_out, .int rw, .int 1, .int tm, .int 0, .int 0, .ref m_kept, .ref m_keptSize, .ref m_nIp, .ref m_nHeard, .ref m_nHard, .int 0, .int 0, .ref m_gIp, .ref m_gNumber, .ref m_gProtocol, .ref m_gTold, .ref m_gBegun, .ref m_gOrder, .ref m_gBytes, .ref m_gThere, .int 0, .int 0, .ref m_pTarget, .ref m_pBytes, .ref m_pLong, .ref m_pSize, .ref m_pSum, .int 0, .ref m_peer, .int 0, .int 0, .int 0, .int 0, .ref m_answer, .int 0, .int 0]))] sz) := by
  refine Met.ofW (cc := b_Mo_thrown) (maxL := 1) (ret := some .int) (by decide) rfl ?_
  intro p e s m args below meth c s₁ B hml hv
  obtain ⟨rfl, hsz, hP, hK, hD0, hT⟩ := hv
  have hx := B.exec
  have hb := B.bytes
  have hr := B.returns
  have hown : s.vm.findClass "UnikernelHttpModel" = some m.cls := findClass_of_methodNamed B.named
  have hlocks := B.notSynchronized
  subst hsz
  have hD := hD0.self (sz := s.heap.size)
  have hns := ux_ns hP
  generalize hAe : va_A [(h0, .inr (12, [.ref m_row, .ref m_in, .ref m_out, .int rw, .int 1, .int tm, .int 0, .int 0, .ref m_kept, .ref m_keptSize, .ref m_nIp, .ref m_nHeard, .ref m_nHard, .int 0, .int 0, .ref m_gIp, .ref m_gNumber, .ref m_gProtocol, .ref m_gTold, .ref m_gBegun, .ref m_gOrder, .ref m_gBytes, .ref m_gThere, .int 0, .int 0, .ref m_pTarget, .ref m_pBytes, .ref m_pLong, .ref m_pSize, .ref m_pSum, .int 0, .ref m_peer, .int 0, .int 0, .int 0, .int 0, .ref m_answer, .int 0, .int 0]))] s.heap.size = A at hD hns ⊢
  have hA : ∀ q : Nat, s.heap.size ≤ q → A q := fun q h => by rw [← hAe]; exact Or.inr h
  have hS : va_S A s.heap s.heap [] := va_S.rf
  have hl := lv_entry ([.ref h0]) (n := 1) (Nat.le_of_ble_eq_true rfl)
  rw [lg_entry_eq]
  generalize (lg_sl ([.ref h0]) ++ List.replicate (1 - (lg_sl ([.ref h0])).length) Slot.unset).toArray = ls at hl ⊢
  have hl : lv_has ls 1 [(0, .ref h0)] := hl
  have hfx : CallFix p m c b_Mo_thrown 1 s ([.ref h0] : List Value).toArray [] "UnikernelHttpModel" := ⟨hx, hb, hml, hown, fun _ h => by cases h⟩
  refine lv_aload_n hx hb d_Mo_thrown_0 rfl (lv_at hl 0 rfl) ?_
  refine va_get (D := (dC, dI)) (ci := 12) (v := .int 1) (C := R_Mo) (T := F_Mo) (N := 39) hx hb (u_Mo hT) (fun _ h => h) hown hK hP 0 rfl rfl 4 (by decide) (ux_T_at hT tw_1598 rfl) (fun _ h9 => h9) rfl d_Mo_thrown_1 ?_
  have hP9 := hP.sub (ws' := [(h0, .inr (12, [.ref m_row, .ref m_in, .ref m_out, .int rw, .int 1, .int tm, .int 0, .int 0, .ref m_kept, .ref m_keptSize, .ref m_nIp, .ref m_nHeard, .ref m_nHard, .int 0, .int 0, .ref m_gIp, .ref m_gNumber, .ref m_gProtocol, .ref m_gTold, .ref m_gBegun, .ref m_gOrder, .ref m_gBytes, .ref m_gThere, .int 0, .int 0, .ref m_pTarget, .ref m_pBytes, .ref m_pLong, .ref m_pSize, .ref m_pSum, .int 0, .ref m_peer, .int 0, .int 0, .int 0, .int 0, .ref m_answer, .int 0, .int 0]))]) [0] rfl
  have hD9 := hD.sub (ws' := [(h0, .inr (12, [.ref m_row, .ref m_in, .ref m_out, .int rw, .int 1, .int tm, .int 0, .int 0, .ref m_kept, .ref m_keptSize, .ref m_nIp, .ref m_nHeard, .ref m_nHard, .int 0, .int 0, .ref m_gIp, .ref m_gNumber, .ref m_gProtocol, .ref m_gTold, .ref m_gBegun, .ref m_gOrder, .ref m_gBytes, .ref m_gThere, .int 0, .int 0, .ref m_pTarget, .ref m_pBytes, .ref m_pLong, .ref m_pSize, .ref m_pSum, .int 0, .ref m_peer, .int 0, .int 0, .int 0, .int 0, .ref m_answer, .int 0, .int 0]))]) [0] (by decide) rfl
  have hK9 := hK.sub (tys' := []) [] rfl
  refine W.widen (k := 0) (n := 0) (Nat.le_of_ble_eq_true rfl) (Nat.le_of_ble_eq_true rfl) ?_
  exact W.iret (v := 1) hx hb hr (fun t ht hW => ⟨⟨_, (), rfl, rfl, by rw [ht]; exact hP9, va_K.moved hW.alike hK9, hD9⟩, hS.F ht⟩) hS.2.2 d_Mo_thrown_4
set_option maxHeartbeats 4000000 in
set_option maxRecDepth 100000 in
theorem c_Mo_feed (l : Launch) (dC : Nat → ClassId) (dI : Nat → Nat → Nat) (h0 : Nat) (m_row : Nat) (m_in : Nat) (m_out : Nat) (m_kept : Nat) (m_keptSize : Nat) (m_nIp : Nat) (m_nHeard : Nat) (m_nHard : Nat) (m_gIp : Nat) (m_gNumber : Nat) (m_gProtocol : Nat) (m_gTold : Nat) (m_gBegun : Nat) (m_gOrder : Nat) (m_gBytes : Nat) (m_gThere : Nat) (m_pTarget : Nat) (m_pBytes : Nat) (m_pLong : Nat) (m_pSize : Nat) (m_pSum : Nat) (m_peer : Nat) (m_answer : Nat) (cM : ClassId) (p0 : Int32) (p1 : Int32) (p2 : Int32) (p3 : Int32) (p4 : Int32) (f : Nat → Int32) (sz : Nat) : Met l y_Mo_feed [Cond.code y_Mo_feed b_Mo_feed 6 (some .int)] ({ frames := 40, cells := 0, slots := 0, locals := 600 }) (ux_Pc [.ref h0, .int p0, .int p1, .int p2, .int p3, .int p4] (dC, dI) cls [(h0, .inr (12, [.ref m_row, .ref m_in, .ref m_out, .int 0, .int 0, .int 0, .int 0, .int 0, .ref m_kept, .ref m_keptSize, .ref m_nIp, .ref m_nHeard, .ref m_nHard, .int 0, .int 0, .ref m_gIp, .ref m_gNumber, .ref m_gProtocol, .ref m_gTold, .ref m_gBegun, .ref m_gOrder, .ref m_gBytes, .ref m_gThere, .int 0, .int 0, .ref m_pTarget, .ref m_pBytes, .ref m_pLong, .ref m_pSize, .ref m_pSum, .int 0, .ref m_peer, .int 0, .int 0, .int 0, .int 0, .ref m_answer, .int 0, .int 0])), (m_row, .inl (cM, 2000, .inl f))] [(cM, .byte)] sz) (va_Qi (fun (r : Int32) (_ : Unit) => r = 20) (fun (_ : Unit) (t : State) => ux_B (dC, dI) cls (va_A [(h0, .inr (12, [.ref m_row, .ref m_in, .ref m_out, .int 0, .int 0, .int 0, .int 0, .int 0, .ref m_kept, .ref m_keptSize, .ref m_nIp, .ref m_nHeard, .ref m_nHard, .int 0, .int 0, .ref m_gIp, .ref m_gNumber, .ref m_gProtocol, .ref m_gTold, .ref m_gBegun, .ref m_gOrder, .ref m_gBytes, .ref m_gThere, .int 0, .int 0, .ref m_pTarget, .ref m_pBytes, .ref m_pLong, .ref m_pSize, .ref m_pSum, .int 0, .ref m_peer, .int 0, .int 0, .int 0, .int 0, .ref m_answer, .int 0, .int 0])), (m_row, .inl (cM, 2000, .inl f))] sz) [(h0, .inr (12, [.ref m_row, .ref m_in, .ref m_out, .int 20, .int 0, .int 0, .int 0, .int 0, .ref m_kept, .ref m_keptSize, .ref m_nIp, .ref m_nHeard, .ref m_nHard, .int 0, .int 0, .ref m_gIp, .ref m_gNumber, .ref m_gProtocol, .ref m_gTold, .ref m_gBegun, .ref m_gOrder, .ref m_gBytes, .ref m_gThere, .int 0, .int 0, .ref m_pTarget, .ref m_pBytes, .ref m_pLong, .ref m_pSize, .ref m_pSum, .int 0, .ref m_peer, .int 0, .int 0, .int 0, .int 0, .ref m_answer, .int 0, .int 0]))] [] t) (va_A [(h0, .inr (12, [.ref m_row, .ref m_in, .ref m_out, .int 0, .int 0, .int 0, .int 0, .int 0, .ref m_kept, .ref m_keptSize, .ref m_nIp, .ref m_nHeard, .ref m_nHard, .int 0, .int 0, .ref m_gIp, .ref m_gNumber, .ref m_gProtocol, .ref m_gTold, .ref m_gBegun, .ref m_gOrder, .ref m_gBytes, .ref m_gThere, .int 0, .int 0, .ref m_pTarget, .ref m_pBytes, .ref m_pLong, .ref m_pSize, .ref m_pSum, .int 0, .ref m_peer, .int 0, .int 0, .int 0, .int 0, .ref m_answer, .int 0, .int 0])), (m_row, .inl (cM, 2000, .inl f))] sz)) 0 0 (va_A [(h0, .inr (12, [.ref m_row, .ref m_in, .ref m_out, .int 0, .int 0, .int 0, .int 0, .int 0, .ref m_kept, .ref m_keptSize, .ref m_nIp, .ref m_nHeard, .ref m_nHard, .int 0, .int 0, .ref m_gIp, .ref m_gNumber, .ref m_gProtocol, .ref m_gTold, .ref m_gBegun, .ref m_gOrder, .ref m_gBytes, .ref m_gThere, .int 0, .int 0, .ref m_pTarget, .ref m_pBytes, .ref m_pLong, .ref m_pSize, .ref m_pSum, .int 0, .ref m_peer, .int 0, .int 0, .int 0, .int 0, .ref m_answer, .int 0, .int 0])), (m_row, .inl (cM, 2000, .inl f))] sz) := by
  refine Met.ofW (cc := b_Mo_feed) (maxL := 6) (ret := some .int) (by decide) rfl ?_
  intro p e s m args below meth c s₁ B hml hv
  obtain ⟨rfl, hsz, hP, hK, hD0, hT⟩ := hv
  have hx := B.exec
  have hb := B.bytes
  have hr := B.returns
  have hown : s.vm.findClass "UnikernelHttpModel" = some m.cls := findClass_of_methodNamed B.named
  have hlocks := B.notSynchronized
  subst hsz
  have hD := hD0.self (sz := s.heap.size)
  have hns := ux_ns hP
  generalize hAe : va_A [(h0, .inr (12, [.ref m_row, .ref m_in, .ref m_out, .int 0, .int 0, .int 0, .int 0, .int 0, .ref m_kept, .ref m_keptSize, .ref m_nIp, .ref m_nHeard, .ref m_nHard, .int 0, .int 0, .ref m_gIp, .ref m_gNumber, .ref m_gProtocol, .ref m_gTold, .ref m_gBegun, .ref m_gOrder, .ref m_gBytes, .ref m_gThere, .int 0, .int 0, .ref m_pTarget, .ref m_pBytes, .ref m_pLong, .ref m_pSize, .ref m_pSum, .int 0, .ref m_peer, .int 0, .int 0, .int 0, .int 0, .ref m_answer, .int 0, .int 0])), (m_row, .inl (cM, 2000, .inl f))] s.heap.size = A at hD hns ⊢
  have hA : ∀ q : Nat, s.heap.size ≤ q → A q := fun q h => by rw [← hAe]; exact Or.inr h
  have hS : va_S A s.heap s.heap [] := va_S.rf
  have hl := lv_entry ([.ref h0, .int p0, .int p1, .int p2, .int p3, .int p4]) (n := 6) (Nat.le_of_ble_eq_true rfl)
  rw [lg_entry_eq]
  generalize (lg_sl ([.ref h0, .int p0, .int p1, .int p2, .int p3, .int p4]) ++ List.replicate (6 - (lg_sl ([.ref h0, .int p0, .int p1, .int p2, .int p3, .int p4])).length) Slot.unset).toArray = ls at hl ⊢
  have hl : lv_has ls 6 [(0, .ref h0), (1, .int p0), (2, .int p1), (3, .int p2), (4, .int p3), (5, .int p4)] := hl
  have hfx : CallFix p m c b_Mo_feed 6 s ([.ref h0, .int p0, .int p1, .int p2, .int p3, .int p4] : List Value).toArray [] "UnikernelHttpModel" := ⟨hx, hb, hml, hown, fun _ h => by cases h⟩
  refine lv_aload_n hx hb d_Mo_feed_0 rfl (lv_at hl 0 rfl) ?_
  refine lv_aload_n hx hb d_Mo_feed_1 rfl (lv_at hl 0 rfl) ?_
  refine va_get (D := (dC, dI)) (ci := 12) (v := .int 0) (C := R_Mo) (T := F_Mo) (N := 39) hx hb (u_Mo hT) (fun _ h => h) hown hK hP 0 rfl rfl 3 (by decide) (ux_T_at hT tw_1597 rfl) (fun _ h9 => h9) rfl d_Mo_feed_2 ?_
  refine lv_bipush (v := 20) hx hb d_Mo_feed_5 (by decide) ?_
  refine lv_iadd hx hb d_Mo_feed_7 ?_
  refine lv_topi (fun x1 ex1 => ?_)
  obtain rfl : x1 = 20 := ex1.trans (by decide)
  refine lv_sipush (v := 2000) hx hb d_Mo_feed_8 (by decide) ?_
  refine lv_icmp_le (tgt := 18) hx hb d_Mo_feed_11 (by decide) (fun _ => ?_) (fun hc => absurd (by decide) hc)
  refine lv_iconst (v := 0) hx hb d_Mo_feed_18 (by decide) ?_
  refine va_put (D := (dC, dI)) (ci := 12) (v := .int 0) (ty := .int) (C := R_Mo) (T := F_Mo) (N := 39) hx hb (u_Mo hT) (fun _ h => h) t_Mo k_Mo n_Mo hown hK hP hD hS 0 rfl rfl 4 (by decide) (ux_T_at hT tw_1598 rfl) (fun _ h9 => h9) rfl (by decide +kernel) rfl rfl (Nat.le_of_ble_eq_true rfl) d_Mo_feed_19 (fun H locs hP hD hS => ?_)
  have hP : va_P (dC, dI) cls [(h0, .inr (12, [.ref m_row, .ref m_in, .ref m_out, .int 0, .int 0, .int 0, .int 0, .int 0, .ref m_kept, .ref m_keptSize, .ref m_nIp, .ref m_nHeard, .ref m_nHard, .int 0, .int 0, .ref m_gIp, .ref m_gNumber, .ref m_gProtocol, .ref m_gTold, .ref m_gBegun, .ref m_gOrder, .ref m_gBytes, .ref m_gThere, .int 0, .int 0, .ref m_pTarget, .ref m_pBytes, .ref m_pLong, .ref m_pSize, .ref m_pSum, .int 0, .ref m_peer, .int 0, .int 0, .int 0, .int 0, .ref m_answer, .int 0, .int 0])), (m_row, .inl (cM, 2000, .inl f))] H := hP
  have hD : va_D A [(h0, .inr (12, [.ref m_row, .ref m_in, .ref m_out, .int 0, .int 0, .int 0, .int 0, .int 0, .ref m_kept, .ref m_keptSize, .ref m_nIp, .ref m_nHeard, .ref m_nHard, .int 0, .int 0, .ref m_gIp, .ref m_gNumber, .ref m_gProtocol, .ref m_gTold, .ref m_gBegun, .ref m_gOrder, .ref m_gBytes, .ref m_gThere, .int 0, .int 0, .ref m_pTarget, .ref m_pBytes, .ref m_pLong, .ref m_pSize, .ref m_pSum, .int 0, .ref m_peer, .int 0, .int 0, .int 0, .int 0, .ref m_answer, .int 0, .int 0])), (m_row, .inl (cM, 2000, .inl f))] := hD
  refine lv_aload_n hx hb d_Mo_feed_22 rfl (lv_at hl 0 rfl) ?_
  refine va_get (D := (dC, dI)) (ci := 12) (v := .int 0) (C := R_Mo) (T := F_Mo) (N := 39) hx hb (u_Mo hT) (fun _ h => h) hown hK hP 0 rfl rfl 4 (by decide) (ux_T_at hT tw_1598 rfl) (fun _ h9 => h9) rfl d_Mo_feed_23 ?_
  refine lv_if_le (tgt := 31) hx hb d_Mo_feed_26 (by decide) (fun _ => ?_) (fun hc => absurd (by decide) hc)
  refine lv_aload_n hx hb d_Mo_feed_31 rfl (lv_at hl 0 rfl) ?_
  refine lv_iload_n hx hb d_Mo_feed_32 rfl (lv_at hl 1 rfl) ?_
  have hPc := hP.sub (ws' := [(h0, .inr (12, [.ref m_row, .ref m_in, .ref m_out, .int 0, .int 0, .int 0, .int 0, .int 0, .ref m_kept, .ref m_keptSize, .ref m_nIp, .ref m_nHeard, .ref m_nHard, .int 0, .int 0, .ref m_gIp, .ref m_gNumber, .ref m_gProtocol, .ref m_gTold, .ref m_gBegun, .ref m_gOrder, .ref m_gBytes, .ref m_gThere, .int 0, .int 0, .ref m_pTarget, .ref m_pBytes, .ref m_pLong, .ref m_pSize, .ref m_pSum, .int 0, .ref m_peer, .int 0, .int 0, .int 0, .int 0, .ref m_answer, .int 0, .int 0])), (m_row, .inl (cM, 2000, .inl f))]) [0, 1] rfl
  have hDc := hD.sub (ws' := [(h0, .inr (12, [.ref m_row, .ref m_in, .ref m_out, .int 0, .int 0, .int 0, .int 0, .int 0, .ref m_kept, .ref m_keptSize, .ref m_nIp, .ref m_nHeard, .ref m_nHard, .int 0, .int 0, .ref m_gIp, .ref m_gNumber, .ref m_gProtocol, .ref m_gTold, .ref m_gBegun, .ref m_gOrder, .ref m_gBytes, .ref m_gThere, .int 0, .int 0, .ref m_pTarget, .ref m_pBytes, .ref m_pLong, .ref m_pSize, .ref m_pSum, .int 0, .ref m_peer, .int 0, .int 0, .int 0, .int 0, .ref m_answer, .int 0, .int 0])), (m_row, .inl (cM, 2000, .inl f))]) [0, 1] (by decide) rfl
  have hKc := hK.sub (tys' := [(cM, .byte)]) [0] rfl
  have hFc := va_free (wc := [(h0, .inr (12, [.ref m_row, .ref m_in, .ref m_out, .int 0, .int 0, .int 0, .int 0, .int 0, .ref m_kept, .ref m_keptSize, .ref m_nIp, .ref m_nHeard, .ref m_nHard, .int 0, .int 0, .ref m_gIp, .ref m_gNumber, .ref m_gProtocol, .ref m_gTold, .ref m_gBegun, .ref m_gOrder, .ref m_gBytes, .ref m_gThere, .int 0, .int 0, .ref m_pTarget, .ref m_pBytes, .ref m_pLong, .ref m_pSize, .ref m_pSum, .int 0, .ref m_peer, .int 0, .int 0, .int 0, .int 0, .ref m_answer, .int 0, .int 0])), (m_row, .inl (cM, 2000, .inl f))]) hD hS hA [0, 1] rfl
  have hkc : 0 + 0 ≤ 0 := (Nat.le_of_ble_eq_true rfl)
  refine va_callv (va_runV (As := [.int p0]) (rest := []) hfx (c_Mo_four4_0 l dC dI h0 m_row m_in m_out m_kept m_keptSize m_nIp m_nHeard m_nHard m_gIp m_gNumber m_gProtocol m_gTold m_gBegun m_gOrder m_gBytes m_gThere m_pTarget m_pBytes m_pLong m_pSize m_pSum m_peer m_answer cM p0 f H.size) ⟨(ux_cb 1 hT tw_1722 tw_1719 tw_13 rfl rfl (by decide +kernel) ⟨(Nat.le_of_ble_eq_true rfl), (Nat.le_of_ble_eq_true rfl)⟩), (ux_T_at hT tw_1721 rfl), (ux_T_at hT (ux_tp (q := (⟨"UnikernelHttpModel", "four4", "(I)V"⟩, 39)) (by decide +kernel)) rfl)⟩ (ux_preV (r := (R_Mo, F_Mo, 39)) (ci := 12) (q0 := 0) [.int p0] hT hPc hKc hDc rfl rfl) rfl rfl hl.1 rfl (lv_room (Nat.le_of_ble_eq_true rfl)) d_Mo_feed_33 ⟨(Nat.le_of_ble_eq_true rfl), (Nat.le_of_ble_eq_true rfl)⟩) hS (fun q _ h => hFc q h) hFc (fun u t H1 locs ht hvm hw hB hz1 hk1 hS => ?_)
  obtain ⟨f3, hP1, hK1, hD1⟩ := hB
  rw [ht] at hP1
  have hK1 := va_K.moved hvm.symm hK1
  obtain ⟨hP, hD⟩ := va_join (wr := []) (w1 := [(h0, .inr (12, [.ref m_row, .ref m_in, .ref m_out, .int 4, .int 0, .int 0, .int 0, .int 0, .ref m_kept, .ref m_keptSize, .ref m_nIp, .ref m_nHeard, .ref m_nHard, .int 0, .int 0, .ref m_gIp, .ref m_gNumber, .ref m_gProtocol, .ref m_gTold, .ref m_gBegun, .ref m_gOrder, .ref m_gBytes, .ref m_gThere, .int 0, .int 0, .ref m_pTarget, .ref m_pBytes, .ref m_pLong, .ref m_pSize, .ref m_pSum, .int 0, .ref m_peer, .int 0, .int 0, .int 0, .int 0, .ref m_answer, .int 0, .int 0])), (m_row, .inl (cM, 2000, .inl f3))]) hP hD [0, 1] [] rfl rfl (by decide) (by decide) hk1 hFc hP1 hD1
  have hK := (hK.sub (tys' := [(cM, .byte)]) [0] rfl).app hK1
  generalize H1 = H at hP hS ⊢
  have hP : va_P (dC, dI) cls [(h0, .inr (12, [.ref m_row, .ref m_in, .ref m_out, .int 4, .int 0, .int 0, .int 0, .int 0, .ref m_kept, .ref m_keptSize, .ref m_nIp, .ref m_nHeard, .ref m_nHard, .int 0, .int 0, .ref m_gIp, .ref m_gNumber, .ref m_gProtocol, .ref m_gTold, .ref m_gBegun, .ref m_gOrder, .ref m_gBytes, .ref m_gThere, .int 0, .int 0, .ref m_pTarget, .ref m_pBytes, .ref m_pLong, .ref m_pSize, .ref m_pSum, .int 0, .ref m_peer, .int 0, .int 0, .int 0, .int 0, .ref m_answer, .int 0, .int 0])), (m_row, .inl (cM, 2000, .inl f3))] H := hP
  have hD : va_D A [(h0, .inr (12, [.ref m_row, .ref m_in, .ref m_out, .int 4, .int 0, .int 0, .int 0, .int 0, .ref m_kept, .ref m_keptSize, .ref m_nIp, .ref m_nHeard, .ref m_nHard, .int 0, .int 0, .ref m_gIp, .ref m_gNumber, .ref m_gProtocol, .ref m_gTold, .ref m_gBegun, .ref m_gOrder, .ref m_gBytes, .ref m_gThere, .int 0, .int 0, .ref m_pTarget, .ref m_pBytes, .ref m_pLong, .ref m_pSize, .ref m_pSum, .int 0, .ref m_peer, .int 0, .int 0, .int 0, .int 0, .ref m_answer, .int 0, .int 0])), (m_row, .inl (cM, 2000, .inl f3))] := hD
  have hK : va_K (dC, dI) cls [(cM, .byte), (cM, .byte)] s := hK
  refine lv_aload_n hx hb d_Mo_feed_36 rfl (lv_at hl 0 rfl) ?_
  refine lv_iload_n hx hb d_Mo_feed_37 rfl (lv_at hl 2 rfl) ?_
  have hPc := hP.sub (ws' := [(h0, .inr (12, [.ref m_row, .ref m_in, .ref m_out, .int 4, .int 0, .int 0, .int 0, .int 0, .ref m_kept, .ref m_keptSize, .ref m_nIp, .ref m_nHeard, .ref m_nHard, .int 0, .int 0, .ref m_gIp, .ref m_gNumber, .ref m_gProtocol, .ref m_gTold, .ref m_gBegun, .ref m_gOrder, .ref m_gBytes, .ref m_gThere, .int 0, .int 0, .ref m_pTarget, .ref m_pBytes, .ref m_pLong, .ref m_pSize, .ref m_pSum, .int 0, .ref m_peer, .int 0, .int 0, .int 0, .int 0, .ref m_answer, .int 0, .int 0])), (m_row, .inl (cM, 2000, .inl f3))]) [0, 1] rfl
  have hDc := hD.sub (ws' := [(h0, .inr (12, [.ref m_row, .ref m_in, .ref m_out, .int 4, .int 0, .int 0, .int 0, .int 0, .ref m_kept, .ref m_keptSize, .ref m_nIp, .ref m_nHeard, .ref m_nHard, .int 0, .int 0, .ref m_gIp, .ref m_gNumber, .ref m_gProtocol, .ref m_gTold, .ref m_gBegun, .ref m_gOrder, .ref m_gBytes, .ref m_gThere, .int 0, .int 0, .ref m_pTarget, .ref m_pBytes, .ref m_pLong, .ref m_pSize, .ref m_pSum, .int 0, .ref m_peer, .int 0, .int 0, .int 0, .int 0, .ref m_answer, .int 0, .int 0])), (m_row, .inl (cM, 2000, .inl f3))]) [0, 1] (by decide) rfl
  have hKc := hK.sub (tys' := [(cM, .byte)]) [0] rfl
  have hFc := va_free (wc := [(h0, .inr (12, [.ref m_row, .ref m_in, .ref m_out, .int 4, .int 0, .int 0, .int 0, .int 0, .ref m_kept, .ref m_keptSize, .ref m_nIp, .ref m_nHeard, .ref m_nHard, .int 0, .int 0, .ref m_gIp, .ref m_gNumber, .ref m_gProtocol, .ref m_gTold, .ref m_gBegun, .ref m_gOrder, .ref m_gBytes, .ref m_gThere, .int 0, .int 0, .ref m_pTarget, .ref m_pBytes, .ref m_pLong, .ref m_pSize, .ref m_pSum, .int 0, .ref m_peer, .int 0, .int 0, .int 0, .int 0, .ref m_answer, .int 0, .int 0])), (m_row, .inl (cM, 2000, .inl f3))]) hD hS hA [0, 1] rfl
  have hkc : 0 + 0 ≤ 0 := (Nat.le_of_ble_eq_true rfl)
  refine va_callv (va_runV (As := [.int p1]) (rest := []) hfx (c_Mo_four4_4 l dC dI h0 m_row m_in m_out m_kept m_keptSize m_nIp m_nHeard m_nHard m_gIp m_gNumber m_gProtocol m_gTold m_gBegun m_gOrder m_gBytes m_gThere m_pTarget m_pBytes m_pLong m_pSize m_pSum m_peer m_answer cM p1 f3 H.size) ⟨(ux_cb 1 hT tw_1722 tw_1719 tw_13 rfl rfl (by decide +kernel) ⟨(Nat.le_of_ble_eq_true rfl), (Nat.le_of_ble_eq_true rfl)⟩), (ux_T_at hT tw_1721 rfl), (ux_T_at hT (ux_tp (q := (⟨"UnikernelHttpModel", "four4", "(I)V"⟩, 39)) (by decide +kernel)) rfl)⟩ (ux_preV (r := (R_Mo, F_Mo, 39)) (ci := 12) (q0 := 0) [.int p1] hT hPc hKc hDc rfl rfl) rfl rfl hl.1 rfl (lv_room (Nat.le_of_ble_eq_true rfl)) d_Mo_feed_38 ⟨(Nat.le_of_ble_eq_true rfl), (Nat.le_of_ble_eq_true rfl)⟩) hS (fun q _ h => hFc q h) hFc (fun u t H1 locs ht hvm hw hB hz1 hk1 hS => ?_)
  obtain ⟨f5, hP1, hK1, hD1⟩ := hB
  rw [ht] at hP1
  have hK1 := va_K.moved hvm.symm hK1
  obtain ⟨hP, hD⟩ := va_join (wr := []) (w1 := [(h0, .inr (12, [.ref m_row, .ref m_in, .ref m_out, .int 8, .int 0, .int 0, .int 0, .int 0, .ref m_kept, .ref m_keptSize, .ref m_nIp, .ref m_nHeard, .ref m_nHard, .int 0, .int 0, .ref m_gIp, .ref m_gNumber, .ref m_gProtocol, .ref m_gTold, .ref m_gBegun, .ref m_gOrder, .ref m_gBytes, .ref m_gThere, .int 0, .int 0, .ref m_pTarget, .ref m_pBytes, .ref m_pLong, .ref m_pSize, .ref m_pSum, .int 0, .ref m_peer, .int 0, .int 0, .int 0, .int 0, .ref m_answer, .int 0, .int 0])), (m_row, .inl (cM, 2000, .inl f5))]) hP hD [0, 1] [] rfl rfl (by decide) (by decide) hk1 hFc hP1 hD1
  have hK := (hK.sub (tys' := [(cM, .byte), (cM, .byte)]) [0, 1] rfl).app hK1
  generalize H1 = H at hP hS ⊢
  have hP : va_P (dC, dI) cls [(h0, .inr (12, [.ref m_row, .ref m_in, .ref m_out, .int 8, .int 0, .int 0, .int 0, .int 0, .ref m_kept, .ref m_keptSize, .ref m_nIp, .ref m_nHeard, .ref m_nHard, .int 0, .int 0, .ref m_gIp, .ref m_gNumber, .ref m_gProtocol, .ref m_gTold, .ref m_gBegun, .ref m_gOrder, .ref m_gBytes, .ref m_gThere, .int 0, .int 0, .ref m_pTarget, .ref m_pBytes, .ref m_pLong, .ref m_pSize, .ref m_pSum, .int 0, .ref m_peer, .int 0, .int 0, .int 0, .int 0, .ref m_answer, .int 0, .int 0])), (m_row, .inl (cM, 2000, .inl f5))] H := hP
  have hD : va_D A [(h0, .inr (12, [.ref m_row, .ref m_in, .ref m_out, .int 8, .int 0, .int 0, .int 0, .int 0, .ref m_kept, .ref m_keptSize, .ref m_nIp, .ref m_nHeard, .ref m_nHard, .int 0, .int 0, .ref m_gIp, .ref m_gNumber, .ref m_gProtocol, .ref m_gTold, .ref m_gBegun, .ref m_gOrder, .ref m_gBytes, .ref m_gThere, .int 0, .int 0, .ref m_pTarget, .ref m_pBytes, .ref m_pLong, .ref m_pSize, .ref m_pSum, .int 0, .ref m_peer, .int 0, .int 0, .int 0, .int 0, .ref m_answer, .int 0, .int 0])), (m_row, .inl (cM, 2000, .inl f5))] := hD
  have hK : va_K (dC, dI) cls [(cM, .byte), (cM, .byte), (cM, .byte)] s := hK
  refine lv_aload_n hx hb d_Mo_feed_41 rfl (lv_at hl 0 rfl) ?_
  refine lv_iload_n hx hb d_Mo_feed_42 rfl (lv_at hl 3 rfl) ?_
  have hPc := hP.sub (ws' := [(h0, .inr (12, [.ref m_row, .ref m_in, .ref m_out, .int 8, .int 0, .int 0, .int 0, .int 0, .ref m_kept, .ref m_keptSize, .ref m_nIp, .ref m_nHeard, .ref m_nHard, .int 0, .int 0, .ref m_gIp, .ref m_gNumber, .ref m_gProtocol, .ref m_gTold, .ref m_gBegun, .ref m_gOrder, .ref m_gBytes, .ref m_gThere, .int 0, .int 0, .ref m_pTarget, .ref m_pBytes, .ref m_pLong, .ref m_pSize, .ref m_pSum, .int 0, .ref m_peer, .int 0, .int 0, .int 0, .int 0, .ref m_answer, .int 0, .int 0])), (m_row, .inl (cM, 2000, .inl f5))]) [0, 1] rfl
  have hDc := hD.sub (ws' := [(h0, .inr (12, [.ref m_row, .ref m_in, .ref m_out, .int 8, .int 0, .int 0, .int 0, .int 0, .ref m_kept, .ref m_keptSize, .ref m_nIp, .ref m_nHeard, .ref m_nHard, .int 0, .int 0, .ref m_gIp, .ref m_gNumber, .ref m_gProtocol, .ref m_gTold, .ref m_gBegun, .ref m_gOrder, .ref m_gBytes, .ref m_gThere, .int 0, .int 0, .ref m_pTarget, .ref m_pBytes, .ref m_pLong, .ref m_pSize, .ref m_pSum, .int 0, .ref m_peer, .int 0, .int 0, .int 0, .int 0, .ref m_answer, .int 0, .int 0])), (m_row, .inl (cM, 2000, .inl f5))]) [0, 1] (by decide) rfl
  have hKc := hK.sub (tys' := [(cM, .byte)]) [0] rfl
  have hFc := va_free (wc := [(h0, .inr (12, [.ref m_row, .ref m_in, .ref m_out, .int 8, .int 0, .int 0, .int 0, .int 0, .ref m_kept, .ref m_keptSize, .ref m_nIp, .ref m_nHeard, .ref m_nHard, .int 0, .int 0, .ref m_gIp, .ref m_gNumber, .ref m_gProtocol, .ref m_gTold, .ref m_gBegun, .ref m_gOrder, .ref m_gBytes, .ref m_gThere, .int 0, .int 0, .ref m_pTarget, .ref m_pBytes, .ref m_pLong, .ref m_pSize, .ref m_pSum, .int 0, .ref m_peer, .int 0, .int 0, .int 0, .int 0, .ref m_answer, .int 0, .int 0])), (m_row, .inl (cM, 2000, .inl f5))]) hD hS hA [0, 1] rfl
  have hkc : 0 + 0 ≤ 0 := (Nat.le_of_ble_eq_true rfl)
  refine va_callv (va_runV (As := [.int p2]) (rest := []) hfx (c_Mo_four4_8 l dC dI h0 m_row m_in m_out m_kept m_keptSize m_nIp m_nHeard m_nHard m_gIp m_gNumber m_gProtocol m_gTold m_gBegun m_gOrder m_gBytes m_gThere m_pTarget m_pBytes m_pLong m_pSize m_pSum m_peer m_answer cM p2 f5 H.size) ⟨(ux_cb 1 hT tw_1722 tw_1719 tw_13 rfl rfl (by decide +kernel) ⟨(Nat.le_of_ble_eq_true rfl), (Nat.le_of_ble_eq_true rfl)⟩), (ux_T_at hT tw_1721 rfl), (ux_T_at hT (ux_tp (q := (⟨"UnikernelHttpModel", "four4", "(I)V"⟩, 39)) (by decide +kernel)) rfl)⟩ (ux_preV (r := (R_Mo, F_Mo, 39)) (ci := 12) (q0 := 0) [.int p2] hT hPc hKc hDc rfl rfl) rfl rfl hl.1 rfl (lv_room (Nat.le_of_ble_eq_true rfl)) d_Mo_feed_43 ⟨(Nat.le_of_ble_eq_true rfl), (Nat.le_of_ble_eq_true rfl)⟩) hS (fun q _ h => hFc q h) hFc (fun u t H1 locs ht hvm hw hB hz1 hk1 hS => ?_)
  obtain ⟨f7, hP1, hK1, hD1⟩ := hB
  rw [ht] at hP1
  have hK1 := va_K.moved hvm.symm hK1
  obtain ⟨hP, hD⟩ := va_join (wr := []) (w1 := [(h0, .inr (12, [.ref m_row, .ref m_in, .ref m_out, .int 12, .int 0, .int 0, .int 0, .int 0, .ref m_kept, .ref m_keptSize, .ref m_nIp, .ref m_nHeard, .ref m_nHard, .int 0, .int 0, .ref m_gIp, .ref m_gNumber, .ref m_gProtocol, .ref m_gTold, .ref m_gBegun, .ref m_gOrder, .ref m_gBytes, .ref m_gThere, .int 0, .int 0, .ref m_pTarget, .ref m_pBytes, .ref m_pLong, .ref m_pSize, .ref m_pSum, .int 0, .ref m_peer, .int 0, .int 0, .int 0, .int 0, .ref m_answer, .int 0, .int 0])), (m_row, .inl (cM, 2000, .inl f7))]) hP hD [0, 1] [] rfl rfl (by decide) (by decide) hk1 hFc hP1 hD1
  have hK := (hK.sub (tys' := [(cM, .byte), (cM, .byte), (cM, .byte)]) [0, 1, 2] rfl).app hK1
  generalize H1 = H at hP hS ⊢
  have hP : va_P (dC, dI) cls [(h0, .inr (12, [.ref m_row, .ref m_in, .ref m_out, .int 12, .int 0, .int 0, .int 0, .int 0, .ref m_kept, .ref m_keptSize, .ref m_nIp, .ref m_nHeard, .ref m_nHard, .int 0, .int 0, .ref m_gIp, .ref m_gNumber, .ref m_gProtocol, .ref m_gTold, .ref m_gBegun, .ref m_gOrder, .ref m_gBytes, .ref m_gThere, .int 0, .int 0, .ref m_pTarget, .ref m_pBytes, .ref m_pLong, .ref m_pSize, .ref m_pSum, .int 0, .ref m_peer, .int 0, .int 0, .int 0, .int 0, .ref m_answer, .int 0, .int 0])), (m_row, .inl (cM, 2000, .inl f7))] H := hP
  have hD : va_D A [(h0, .inr (12, [.ref m_row, .ref m_in, .ref m_out, .int 12, .int 0, .int 0, .int 0, .int 0, .ref m_kept, .ref m_keptSize, .ref m_nIp, .ref m_nHeard, .ref m_nHard, .int 0, .int 0, .ref m_gIp, .ref m_gNumber, .ref m_gProtocol, .ref m_gTold, .ref m_gBegun, .ref m_gOrder, .ref m_gBytes, .ref m_gThere, .int 0, .int 0, .ref m_pTarget, .ref m_pBytes, .ref m_pLong, .ref m_pSize, .ref m_pSum, .int 0, .ref m_peer, .int 0, .int 0, .int 0, .int 0, .ref m_answer, .int 0, .int 0])), (m_row, .inl (cM, 2000, .inl f7))] := hD
  have hK : va_K (dC, dI) cls [(cM, .byte), (cM, .byte), (cM, .byte), (cM, .byte)] s := hK
  refine lv_aload_n hx hb d_Mo_feed_46 rfl (lv_at hl 0 rfl) ?_
  refine lv_iload hx hb d_Mo_feed_47 (lv_at hl 4 rfl) ?_
  have hPc := hP.sub (ws' := [(h0, .inr (12, [.ref m_row, .ref m_in, .ref m_out, .int 12, .int 0, .int 0, .int 0, .int 0, .ref m_kept, .ref m_keptSize, .ref m_nIp, .ref m_nHeard, .ref m_nHard, .int 0, .int 0, .ref m_gIp, .ref m_gNumber, .ref m_gProtocol, .ref m_gTold, .ref m_gBegun, .ref m_gOrder, .ref m_gBytes, .ref m_gThere, .int 0, .int 0, .ref m_pTarget, .ref m_pBytes, .ref m_pLong, .ref m_pSize, .ref m_pSum, .int 0, .ref m_peer, .int 0, .int 0, .int 0, .int 0, .ref m_answer, .int 0, .int 0])), (m_row, .inl (cM, 2000, .inl f7))]) [0, 1] rfl
  have hDc := hD.sub (ws' := [(h0, .inr (12, [.ref m_row, .ref m_in, .ref m_out, .int 12, .int 0, .int 0, .int 0, .int 0, .ref m_kept, .ref m_keptSize, .ref m_nIp, .ref m_nHeard, .ref m_nHard, .int 0, .int 0, .ref m_gIp, .ref m_gNumber, .ref m_gProtocol, .ref m_gTold, .ref m_gBegun, .ref m_gOrder, .ref m_gBytes, .ref m_gThere, .int 0, .int 0, .ref m_pTarget, .ref m_pBytes, .ref m_pLong, .ref m_pSize, .ref m_pSum, .int 0, .ref m_peer, .int 0, .int 0, .int 0, .int 0, .ref m_answer, .int 0, .int 0])), (m_row, .inl (cM, 2000, .inl f7))]) [0, 1] (by decide) rfl
  have hKc := hK.sub (tys' := [(cM, .byte)]) [0] rfl
  have hFc := va_free (wc := [(h0, .inr (12, [.ref m_row, .ref m_in, .ref m_out, .int 12, .int 0, .int 0, .int 0, .int 0, .ref m_kept, .ref m_keptSize, .ref m_nIp, .ref m_nHeard, .ref m_nHard, .int 0, .int 0, .ref m_gIp, .ref m_gNumber, .ref m_gProtocol, .ref m_gTold, .ref m_gBegun, .ref m_gOrder, .ref m_gBytes, .ref m_gThere, .int 0, .int 0, .ref m_pTarget, .ref m_pBytes, .ref m_pLong, .ref m_pSize, .ref m_pSum, .int 0, .ref m_peer, .int 0, .int 0, .int 0, .int 0, .ref m_answer, .int 0, .int 0])), (m_row, .inl (cM, 2000, .inl f7))]) hD hS hA [0, 1] rfl
  have hkc : 0 + 0 ≤ 0 := (Nat.le_of_ble_eq_true rfl)
  refine va_callv (va_runV (As := [.int p3]) (rest := []) hfx (c_Mo_four4_12 l dC dI h0 m_row m_in m_out m_kept m_keptSize m_nIp m_nHeard m_nHard m_gIp m_gNumber m_gProtocol m_gTold m_gBegun m_gOrder m_gBytes m_gThere m_pTarget m_pBytes m_pLong m_pSize m_pSum m_peer m_answer cM p3 f7 H.size) ⟨(ux_cb 1 hT tw_1722 tw_1719 tw_13 rfl rfl (by decide +kernel) ⟨(Nat.le_of_ble_eq_true rfl), (Nat.le_of_ble_eq_true rfl)⟩), (ux_T_at hT tw_1721 rfl), (ux_T_at hT (ux_tp (q := (⟨"UnikernelHttpModel", "four4", "(I)V"⟩, 39)) (by decide +kernel)) rfl)⟩ (ux_preV (r := (R_Mo, F_Mo, 39)) (ci := 12) (q0 := 0) [.int p3] hT hPc hKc hDc rfl rfl) rfl rfl hl.1 rfl (lv_room (Nat.le_of_ble_eq_true rfl)) d_Mo_feed_49 ⟨(Nat.le_of_ble_eq_true rfl), (Nat.le_of_ble_eq_true rfl)⟩) hS (fun q _ h => hFc q h) hFc (fun u t H1 locs ht hvm hw hB hz1 hk1 hS => ?_)
  obtain ⟨f9, hP1, hK1, hD1⟩ := hB
  rw [ht] at hP1
  have hK1 := va_K.moved hvm.symm hK1
  obtain ⟨hP, hD⟩ := va_join (wr := []) (w1 := [(h0, .inr (12, [.ref m_row, .ref m_in, .ref m_out, .int 16, .int 0, .int 0, .int 0, .int 0, .ref m_kept, .ref m_keptSize, .ref m_nIp, .ref m_nHeard, .ref m_nHard, .int 0, .int 0, .ref m_gIp, .ref m_gNumber, .ref m_gProtocol, .ref m_gTold, .ref m_gBegun, .ref m_gOrder, .ref m_gBytes, .ref m_gThere, .int 0, .int 0, .ref m_pTarget, .ref m_pBytes, .ref m_pLong, .ref m_pSize, .ref m_pSum, .int 0, .ref m_peer, .int 0, .int 0, .int 0, .int 0, .ref m_answer, .int 0, .int 0])), (m_row, .inl (cM, 2000, .inl f9))]) hP hD [0, 1] [] rfl rfl (by decide) (by decide) hk1 hFc hP1 hD1
  have hK := (hK.sub (tys' := [(cM, .byte), (cM, .byte), (cM, .byte), (cM, .byte)]) [0, 1, 2, 3] rfl).app hK1
  generalize H1 = H at hP hS ⊢
  have hP : va_P (dC, dI) cls [(h0, .inr (12, [.ref m_row, .ref m_in, .ref m_out, .int 16, .int 0, .int 0, .int 0, .int 0, .ref m_kept, .ref m_keptSize, .ref m_nIp, .ref m_nHeard, .ref m_nHard, .int 0, .int 0, .ref m_gIp, .ref m_gNumber, .ref m_gProtocol, .ref m_gTold, .ref m_gBegun, .ref m_gOrder, .ref m_gBytes, .ref m_gThere, .int 0, .int 0, .ref m_pTarget, .ref m_pBytes, .ref m_pLong, .ref m_pSize, .ref m_pSum, .int 0, .ref m_peer, .int 0, .int 0, .int 0, .int 0, .ref m_answer, .int 0, .int 0])), (m_row, .inl (cM, 2000, .inl f9))] H := hP
  have hD : va_D A [(h0, .inr (12, [.ref m_row, .ref m_in, .ref m_out, .int 16, .int 0, .int 0, .int 0, .int 0, .ref m_kept, .ref m_keptSize, .ref m_nIp, .ref m_nHeard, .ref m_nHard, .int 0, .int 0, .ref m_gIp, .ref m_gNumber, .ref m_gProtocol, .ref m_gTold, .ref m_gBegun, .ref m_gOrder, .ref m_gBytes, .ref m_gThere, .int 0, .int 0, .ref m_pTarget, .ref m_pBytes, .ref m_pLong, .ref m_pSize, .ref m_pSum, .int 0, .ref m_peer, .int 0, .int 0, .int 0, .int 0, .ref m_answer, .int 0, .int 0])), (m_row, .inl (cM, 2000, .inl f9))] := hD
  have hK : va_K (dC, dI) cls [(cM, .byte), (cM, .byte), (cM, .byte), (cM, .byte), (cM, .byte)] s := hK
  refine lv_aload_n hx hb d_Mo_feed_52 rfl (lv_at hl 0 rfl) ?_
  refine lv_iload hx hb d_Mo_feed_53 (lv_at hl 5 rfl) ?_
  have hPc := hP.sub (ws' := [(h0, .inr (12, [.ref m_row, .ref m_in, .ref m_out, .int 16, .int 0, .int 0, .int 0, .int 0, .ref m_kept, .ref m_keptSize, .ref m_nIp, .ref m_nHeard, .ref m_nHard, .int 0, .int 0, .ref m_gIp, .ref m_gNumber, .ref m_gProtocol, .ref m_gTold, .ref m_gBegun, .ref m_gOrder, .ref m_gBytes, .ref m_gThere, .int 0, .int 0, .ref m_pTarget, .ref m_pBytes, .ref m_pLong, .ref m_pSize, .ref m_pSum, .int 0, .ref m_peer, .int 0, .int 0, .int 0, .int 0, .ref m_answer, .int 0, .int 0])), (m_row, .inl (cM, 2000, .inl f9))]) [0, 1] rfl
  have hDc := hD.sub (ws' := [(h0, .inr (12, [.ref m_row, .ref m_in, .ref m_out, .int 16, .int 0, .int 0, .int 0, .int 0, .ref m_kept, .ref m_keptSize, .ref m_nIp, .ref m_nHeard, .ref m_nHard, .int 0, .int 0, .ref m_gIp, .ref m_gNumber, .ref m_gProtocol, .ref m_gTold, .ref m_gBegun, .ref m_gOrder, .ref m_gBytes, .ref m_gThere, .int 0, .int 0, .ref m_pTarget, .ref m_pBytes, .ref m_pLong, .ref m_pSize, .ref m_pSum, .int 0, .ref m_peer, .int 0, .int 0, .int 0, .int 0, .ref m_answer, .int 0, .int 0])), (m_row, .inl (cM, 2000, .inl f9))]) [0, 1] (by decide) rfl
  have hKc := hK.sub (tys' := [(cM, .byte)]) [0] rfl
  have hFc := va_free (wc := [(h0, .inr (12, [.ref m_row, .ref m_in, .ref m_out, .int 16, .int 0, .int 0, .int 0, .int 0, .ref m_kept, .ref m_keptSize, .ref m_nIp, .ref m_nHeard, .ref m_nHard, .int 0, .int 0, .ref m_gIp, .ref m_gNumber, .ref m_gProtocol, .ref m_gTold, .ref m_gBegun, .ref m_gOrder, .ref m_gBytes, .ref m_gThere, .int 0, .int 0, .ref m_pTarget, .ref m_pBytes, .ref m_pLong, .ref m_pSize, .ref m_pSum, .int 0, .ref m_peer, .int 0, .int 0, .int 0, .int 0, .ref m_answer, .int 0, .int 0])), (m_row, .inl (cM, 2000, .inl f9))]) hD hS hA [0, 1] rfl
  have hkc : 0 + 0 ≤ 0 := (Nat.le_of_ble_eq_true rfl)
  refine va_callv (va_runV (As := [.int p4]) (rest := []) hfx (c_Mo_four4_16 l dC dI h0 m_row m_in m_out m_kept m_keptSize m_nIp m_nHeard m_nHard m_gIp m_gNumber m_gProtocol m_gTold m_gBegun m_gOrder m_gBytes m_gThere m_pTarget m_pBytes m_pLong m_pSize m_pSum m_peer m_answer cM p4 f9 H.size) ⟨(ux_cb 1 hT tw_1722 tw_1719 tw_13 rfl rfl (by decide +kernel) ⟨(Nat.le_of_ble_eq_true rfl), (Nat.le_of_ble_eq_true rfl)⟩), (ux_T_at hT tw_1721 rfl), (ux_T_at hT (ux_tp (q := (⟨"UnikernelHttpModel", "four4", "(I)V"⟩, 39)) (by decide +kernel)) rfl)⟩ (ux_preV (r := (R_Mo, F_Mo, 39)) (ci := 12) (q0 := 0) [.int p4] hT hPc hKc hDc rfl rfl) rfl rfl hl.1 rfl (lv_room (Nat.le_of_ble_eq_true rfl)) d_Mo_feed_55 ⟨(Nat.le_of_ble_eq_true rfl), (Nat.le_of_ble_eq_true rfl)⟩) hS (fun q _ h => hFc q h) hFc (fun u t H1 locs ht hvm hw hB hz1 hk1 hS => ?_)
  obtain ⟨f11, hP1, hK1, hD1⟩ := hB
  rw [ht] at hP1
  have hK1 := va_K.moved hvm.symm hK1
  obtain ⟨hP, hD⟩ := va_join (wr := []) (w1 := [(h0, .inr (12, [.ref m_row, .ref m_in, .ref m_out, .int 20, .int 0, .int 0, .int 0, .int 0, .ref m_kept, .ref m_keptSize, .ref m_nIp, .ref m_nHeard, .ref m_nHard, .int 0, .int 0, .ref m_gIp, .ref m_gNumber, .ref m_gProtocol, .ref m_gTold, .ref m_gBegun, .ref m_gOrder, .ref m_gBytes, .ref m_gThere, .int 0, .int 0, .ref m_pTarget, .ref m_pBytes, .ref m_pLong, .ref m_pSize, .ref m_pSum, .int 0, .ref m_peer, .int 0, .int 0, .int 0, .int 0, .ref m_answer, .int 0, .int 0])), (m_row, .inl (cM, 2000, .inl f11))]) hP hD [0, 1] [] rfl rfl (by decide) (by decide) hk1 hFc hP1 hD1
  have hK := (hK.sub (tys' := [(cM, .byte), (cM, .byte), (cM, .byte), (cM, .byte), (cM, .byte)]) [0, 1, 2, 3, 4] rfl).app hK1
  generalize H1 = H at hP hS ⊢
  have hP : va_P (dC, dI) cls [(h0, .inr (12, [.ref m_row, .ref m_in, .ref m_out, .int 20, .int 0, .int 0, .int 0, .int 0, .ref m_kept, .ref m_keptSize, .ref m_nIp, .ref m_nHeard, .ref m_nHard, .int 0, .int 0, .ref m_gIp, .ref m_gNumber, .ref m_gProtocol, .ref m_gTold, .ref m_gBegun, .ref m_gOrder, .ref m_gBytes, .ref m_gThere, .int 0, .int 0, .ref m_pTarget, .ref m_pBytes, .ref m_pLong, .ref m_pSize, .ref m_pSum, .int 0, .ref m_peer, .int 0, .int 0, .int 0, .int 0, .ref m_answer, .int 0, .int 0])), (m_row, .inl (cM, 2000, .inl f11))] H := hP
  have hD : va_D A [(h0, .inr (12, [.ref m_row, .ref m_in, .ref m_out, .int 20, .int 0, .int 0, .int 0, .int 0, .ref m_kept, .ref m_keptSize, .ref m_nIp, .ref m_nHeard, .ref m_nHard, .int 0, .int 0, .ref m_gIp, .ref m_gNumber, .ref m_gProtocol, .ref m_gTold, .ref m_gBegun, .ref m_gOrder, .ref m_gBytes, .ref m_gThere, .int 0, .int 0, .ref m_pTarget, .ref m_pBytes, .ref m_pLong, .ref m_pSize, .ref m_pSum, .int 0, .ref m_peer, .int 0, .int 0, .int 0, .int 0, .ref m_answer, .int 0, .int 0])), (m_row, .inl (cM, 2000, .inl f11))] := hD
  have hK : va_K (dC, dI) cls [(cM, .byte), (cM, .byte), (cM, .byte), (cM, .byte), (cM, .byte), (cM, .byte)] s := hK
  refine lv_aload_n hx hb d_Mo_feed_58 rfl (lv_at hl 0 rfl) ?_
  refine va_get (D := (dC, dI)) (ci := 12) (v := .int 20) (C := R_Mo) (T := F_Mo) (N := 39) hx hb (u_Mo hT) (fun _ h => h) hown hK hP 0 rfl rfl 3 (by decide) (ux_T_at hT tw_1597 rfl) (fun _ h9 => h9) rfl d_Mo_feed_59 ?_
  have hP9 := hP.sub (ws' := [(h0, .inr (12, [.ref m_row, .ref m_in, .ref m_out, .int 20, .int 0, .int 0, .int 0, .int 0, .ref m_kept, .ref m_keptSize, .ref m_nIp, .ref m_nHeard, .ref m_nHard, .int 0, .int 0, .ref m_gIp, .ref m_gNumber, .ref m_gProtocol, .ref m_gTold, .ref m_gBegun, .ref m_gOrder, .ref m_gBytes, .ref m_gThere, .int 0, .int 0, .ref m_pTarget, .ref m_pBytes, .ref m_pLong, .ref m_pSize, .ref m_pSum, .int 0, .ref m_peer, .int 0, .int 0, .int 0, .int 0, .ref m_answer, .int 0, .int 0]))]) [0] rfl
  have hD9 := hD.sub (ws' := [(h0, .inr (12, [.ref m_row, .ref m_in, .ref m_out, .int 20, .int 0, .int 0, .int 0, .int 0, .ref m_kept, .ref m_keptSize, .ref m_nIp, .ref m_nHeard, .ref m_nHard, .int 0, .int 0, .ref m_gIp, .ref m_gNumber, .ref m_gProtocol, .ref m_gTold, .ref m_gBegun, .ref m_gOrder, .ref m_gBytes, .ref m_gThere, .int 0, .int 0, .ref m_pTarget, .ref m_pBytes, .ref m_pLong, .ref m_pSize, .ref m_pSum, .int 0, .ref m_peer, .int 0, .int 0, .int 0, .int 0, .ref m_answer, .int 0, .int 0]))]) [0] (by decide) rfl
  have hK9 := hK.sub (tys' := []) [] rfl
  refine W.widen (k := 0) (n := 0) (Nat.le_of_ble_eq_true rfl) (Nat.le_of_ble_eq_true rfl) ?_
  exact W.iret (v := 20) hx hb hr (fun t ht hW => ⟨⟨_, (), rfl, rfl, by rw [ht]; exact hP9, va_K.moved hW.alike hK9, hD9⟩, hS.F ht⟩) hS.2.2 d_Mo_feed_62
set_option maxHeartbeats 4000000 in
set_option maxRecDepth 100000 in
theorem c_Mo_cut_ok (l : Launch) (dC : Nat → ClassId) (dI : Nat → Nat → Nat) (h0 : Nat) (m_row : Nat) (m_in : Nat) (m_out : Nat) (m_kept : Nat) (m_keptSize : Nat) (m_nIp : Nat) (m_nHeard : Nat) (m_nHard : Nat) (m_gIp : Nat) (m_gNumber : Nat) (m_gProtocol : Nat) (m_gTold : Nat) (m_gBegun : Nat) (m_gOrder : Nat) (m_gBytes : Nat) (m_gThere : Nat) (m_pTarget : Nat) (m_pBytes : Nat) (m_pLong : Nat) (m_pSize : Nat) (m_pSum : Nat) (m_peer : Nat) (m_answer : Nat) (sz : Nat) : Met l y_Mo_cut [Cond.code y_Mo_cut b_Mo_cut 2 (some .int)] ({ frames := 40, cells := 0, slots := 0, locals := 600 }) (ux_Pc [.ref h0, .int 0] (dC, dI) cls [(h0, .inr (12, [.ref m_row, .ref m_in, .ref m_out, .int 0, .int 0, .int 0, .int 0, .int 0, .ref m_kept, .ref m_keptSize, .ref m_nIp, .ref m_nHeard, .ref m_nHard, .int 0, .int 0, .ref m_gIp, .ref m_gNumber, .ref m_gProtocol, .ref m_gTold, .ref m_gBegun, .ref m_gOrder, .ref m_gBytes, .ref m_gThere, .int 0, .int 0, .ref m_pTarget, .ref m_pBytes, .ref m_pLong, .ref m_pSize, .ref m_pSum, .int 0, .ref m_peer, .int 0, .int 0, .int 0, .int 0, .ref m_answer, .int 0, .int 0]))] [] sz) (va_Qi (fun (r : Int32) (_ : Unit) => r = 0) (fun (_ : Unit) (t : State) => ux_B (dC, dI) cls (va_A [(h0, .inr (12, [.ref m_row, .ref m_in, .ref m_out, .int 0, .int 0, .int 0, .int 0, .int 0, .ref m_kept, .ref m_keptSize, .ref m_nIp, .ref m_nHeard, .ref m_nHard, .int 0, .int 0, .ref m_gIp, .ref m_gNumber, .ref m_gProtocol, .ref m_gTold, .ref m_gBegun, .ref m_gOrder, .ref m_gBytes, .ref m_gThere, .int 0, .int 0, .ref m_pTarget, .ref m_pBytes, .ref m_pLong, .ref m_pSize, .ref m_pSum, .int 0, .ref m_peer, .int 0, .int 0, .int 0, .int 0, .ref m_answer, .int 0, .int 0]))] sz) [(h0, .inr (12, [.ref m_row, .ref m_in, .ref m_out, .int 0, .int 0, .int 0, .int 0, .int 0, .ref m_kept, .ref m_keptSize, .ref m_nIp, .ref m_nHeard, .ref m_nHard, .int 0, .int 0, .ref m_gIp, .ref m_gNumber, .ref m_gProtocol, .ref m_gTold, .ref m_gBegun, .ref m_gOrder, .ref m_gBytes, .ref m_gThere, .int 0, .int 0, .ref m_pTarget, .ref m_pBytes, .ref m_pLong, .ref m_pSize, .ref m_pSum, .int 0, .ref m_peer, .int 0, .int 0, .int 0, .int 0, .ref m_answer, .int 0, .int 0]))] [] t) (va_A [(h0, .inr (12, [.ref m_row, .ref m_in, .ref m_out, .int 0, .int 0, .int 0, .int 0, .int 0, .ref m_kept, .ref m_keptSize, .ref m_nIp, .ref m_nHeard, .ref m_nHard, .int 0, .int 0, .ref m_gIp, .ref m_gNumber, .ref m_gProtocol, .ref m_gTold, .ref m_gBegun, .ref m_gOrder, .ref m_gBytes, .ref m_gThere, .int 0, .int 0, .ref m_pTarget, .ref m_pBytes, .ref m_pLong, .ref m_pSize, .ref m_pSum, .int 0, .ref m_peer, .int 0, .int 0, .int 0, .int 0, .ref m_answer, .int 0, .int 0]))] sz)) 0 0 (va_A [(h0, .inr (12, [.ref m_row, .ref m_in, .ref m_out, .int 0, .int 0, .int 0, .int 0, .int 0, .ref m_kept, .ref m_keptSize, .ref m_nIp, .ref m_nHeard, .ref m_nHard, .int 0, .int 0, .ref m_gIp, .ref m_gNumber, .ref m_gProtocol, .ref m_gTold, .ref m_gBegun, .ref m_gOrder, .ref m_gBytes, .ref m_gThere, .int 0, .int 0, .ref m_pTarget, .ref m_pBytes, .ref m_pLong, .ref m_pSize, .ref m_pSum, .int 0, .ref m_peer, .int 0, .int 0, .int 0, .int 0, .ref m_answer, .int 0, .int 0]))] sz) := by
  refine Met.ofW (cc := b_Mo_cut) (maxL := 2) (ret := some .int) (by decide) rfl ?_
  intro p e s m args below meth c s₁ B hml hv
  obtain ⟨rfl, hsz, hP, hK, hD0, hT⟩ := hv
  have hx := B.exec
  have hb := B.bytes
  have hr := B.returns
  have hown : s.vm.findClass "UnikernelHttpModel" = some m.cls := findClass_of_methodNamed B.named
  have hlocks := B.notSynchronized
  subst hsz
  have hD := hD0.self (sz := s.heap.size)
  have hns := ux_ns hP
  generalize hAe : va_A [(h0, .inr (12, [.ref m_row, .ref m_in, .ref m_out, .int 0, .int 0, .int 0, .int 0, .int 0, .ref m_kept, .ref m_keptSize, .ref m_nIp, .ref m_nHeard, .ref m_nHard, .int 0, .int 0, .ref m_gIp, .ref m_gNumber, .ref m_gProtocol, .ref m_gTold, .ref m_gBegun, .ref m_gOrder, .ref m_gBytes, .ref m_gThere, .int 0, .int 0, .ref m_pTarget, .ref m_pBytes, .ref m_pLong, .ref m_pSize, .ref m_pSum, .int 0, .ref m_peer, .int 0, .int 0, .int 0, .int 0, .ref m_answer, .int 0, .int 0]))] s.heap.size = A at hD hns ⊢
  have hA : ∀ q : Nat, s.heap.size ≤ q → A q := fun q h => by rw [← hAe]; exact Or.inr h
  have hS : va_S A s.heap s.heap [] := va_S.rf
  have hl := lv_entry ([.ref h0, .int 0]) (n := 2) (Nat.le_of_ble_eq_true rfl)
  rw [lg_entry_eq]
  generalize (lg_sl ([.ref h0, .int 0]) ++ List.replicate (2 - (lg_sl ([.ref h0, .int 0])).length) Slot.unset).toArray = ls at hl ⊢
  have hl : lv_has ls 2 [(0, .ref h0), (1, .int 0)] := hl
  have hfx : CallFix p m c b_Mo_cut 2 s ([.ref h0, .int 0] : List Value).toArray [] "UnikernelHttpModel" := ⟨hx, hb, hml, hown, fun _ h => by cases h⟩
  refine lv_aload_n hx hb d_Mo_cut_0 rfl (lv_at hl 0 rfl) ?_
  refine lv_iload_n hx hb d_Mo_cut_1 rfl (lv_at hl 1 rfl) ?_
  refine lv_if_lt (tgt := 13) hx hb d_Mo_cut_2 (by decide) (fun hc => absurd hc (by decide)) (fun _ => ?_)
  refine lv_iload_n hx hb d_Mo_cut_5 rfl (lv_at hl 1 rfl) ?_
  refine lv_aload_n hx hb d_Mo_cut_6 rfl (lv_at hl 0 rfl) ?_
  refine va_get (D := (dC, dI)) (ci := 12) (v := .int 0) (C := R_Mo) (T := F_Mo) (N := 39) hx hb (u_Mo hT) (fun _ h => h) hown hK hP 0 rfl rfl 3 (by decide) (ux_T_at hT tw_1597 rfl) (fun _ h9 => h9) rfl d_Mo_cut_7 ?_
  refine lv_icmp_le (tgt := 17) hx hb d_Mo_cut_10 (by decide) (fun _ => ?_) (fun hc => absurd (by decide) hc)
  refine lv_iconst (v := 0) hx hb d_Mo_cut_17 (by decide) ?_
  refine va_put (D := (dC, dI)) (ci := 12) (v := .int 0) (ty := .int) (C := R_Mo) (T := F_Mo) (N := 39) hx hb (u_Mo hT) (fun _ h => h) t_Mo k_Mo n_Mo hown hK hP hD hS 0 rfl rfl 4 (by decide) (ux_T_at hT tw_1598 rfl) (fun _ h9 => h9) rfl (by decide +kernel) rfl rfl (Nat.le_of_ble_eq_true rfl) d_Mo_cut_18 (fun H locs hP hD hS => ?_)
  have hP : va_P (dC, dI) cls [(h0, .inr (12, [.ref m_row, .ref m_in, .ref m_out, .int 0, .int 0, .int 0, .int 0, .int 0, .ref m_kept, .ref m_keptSize, .ref m_nIp, .ref m_nHeard, .ref m_nHard, .int 0, .int 0, .ref m_gIp, .ref m_gNumber, .ref m_gProtocol, .ref m_gTold, .ref m_gBegun, .ref m_gOrder, .ref m_gBytes, .ref m_gThere, .int 0, .int 0, .ref m_pTarget, .ref m_pBytes, .ref m_pLong, .ref m_pSize, .ref m_pSum, .int 0, .ref m_peer, .int 0, .int 0, .int 0, .int 0, .ref m_answer, .int 0, .int 0]))] H := hP
  have hD : va_D A [(h0, .inr (12, [.ref m_row, .ref m_in, .ref m_out, .int 0, .int 0, .int 0, .int 0, .int 0, .ref m_kept, .ref m_keptSize, .ref m_nIp, .ref m_nHeard, .ref m_nHard, .int 0, .int 0, .ref m_gIp, .ref m_gNumber, .ref m_gProtocol, .ref m_gTold, .ref m_gBegun, .ref m_gOrder, .ref m_gBytes, .ref m_gThere, .int 0, .int 0, .ref m_pTarget, .ref m_pBytes, .ref m_pLong, .ref m_pSize, .ref m_pSum, .int 0, .ref m_peer, .int 0, .int 0, .int 0, .int 0, .ref m_answer, .int 0, .int 0]))] := hD
  refine lv_aload_n hx hb d_Mo_cut_21 rfl (lv_at hl 0 rfl) ?_
  refine va_get (D := (dC, dI)) (ci := 12) (v := .int 0) (C := R_Mo) (T := F_Mo) (N := 39) hx hb (u_Mo hT) (fun _ h => h) hown hK hP 0 rfl rfl 4 (by decide) (ux_T_at hT tw_1598 rfl) (fun _ h9 => h9) rfl d_Mo_cut_22 ?_
  refine lv_if_le (tgt := 30) hx hb d_Mo_cut_25 (by decide) (fun _ => ?_) (fun hc => absurd (by decide) hc)
  refine lv_aload_n hx hb d_Mo_cut_30 rfl (lv_at hl 0 rfl) ?_
  refine lv_iload_n hx hb d_Mo_cut_31 rfl (lv_at hl 1 rfl) ?_
  refine va_put (D := (dC, dI)) (ci := 12) (v := .int 0) (ty := .int) (C := R_Mo) (T := F_Mo) (N := 39) hx hb (u_Mo hT) (fun _ h => h) t_Mo k_Mo n_Mo hown hK hP hD hS 0 rfl rfl 3 (by decide) (ux_T_at hT tw_1597 rfl) (fun _ h9 => h9) rfl (by decide +kernel) rfl rfl (Nat.le_of_ble_eq_true rfl) d_Mo_cut_32 (fun H locs hP hD hS => ?_)
  have hP : va_P (dC, dI) cls [(h0, .inr (12, [.ref m_row, .ref m_in, .ref m_out, .int 0, .int 0, .int 0, .int 0, .int 0, .ref m_kept, .ref m_keptSize, .ref m_nIp, .ref m_nHeard, .ref m_nHard, .int 0, .int 0, .ref m_gIp, .ref m_gNumber, .ref m_gProtocol, .ref m_gTold, .ref m_gBegun, .ref m_gOrder, .ref m_gBytes, .ref m_gThere, .int 0, .int 0, .ref m_pTarget, .ref m_pBytes, .ref m_pLong, .ref m_pSize, .ref m_pSum, .int 0, .ref m_peer, .int 0, .int 0, .int 0, .int 0, .ref m_answer, .int 0, .int 0]))] H := hP
  have hD : va_D A [(h0, .inr (12, [.ref m_row, .ref m_in, .ref m_out, .int 0, .int 0, .int 0, .int 0, .int 0, .ref m_kept, .ref m_keptSize, .ref m_nIp, .ref m_nHeard, .ref m_nHard, .int 0, .int 0, .ref m_gIp, .ref m_gNumber, .ref m_gProtocol, .ref m_gTold, .ref m_gBegun, .ref m_gOrder, .ref m_gBytes, .ref m_gThere, .int 0, .int 0, .ref m_pTarget, .ref m_pBytes, .ref m_pLong, .ref m_pSize, .ref m_pSum, .int 0, .ref m_peer, .int 0, .int 0, .int 0, .int 0, .ref m_answer, .int 0, .int 0]))] := hD
  refine lv_iload_n hx hb d_Mo_cut_35 rfl (lv_at hl 1 rfl) ?_
  have hP9 := hP.sub (ws' := [(h0, .inr (12, [.ref m_row, .ref m_in, .ref m_out, .int 0, .int 0, .int 0, .int 0, .int 0, .ref m_kept, .ref m_keptSize, .ref m_nIp, .ref m_nHeard, .ref m_nHard, .int 0, .int 0, .ref m_gIp, .ref m_gNumber, .ref m_gProtocol, .ref m_gTold, .ref m_gBegun, .ref m_gOrder, .ref m_gBytes, .ref m_gThere, .int 0, .int 0, .ref m_pTarget, .ref m_pBytes, .ref m_pLong, .ref m_pSize, .ref m_pSum, .int 0, .ref m_peer, .int 0, .int 0, .int 0, .int 0, .ref m_answer, .int 0, .int 0]))]) [0] rfl
  have hD9 := hD.sub (ws' := [(h0, .inr (12, [.ref m_row, .ref m_in, .ref m_out, .int 0, .int 0, .int 0, .int 0, .int 0, .ref m_kept, .ref m_keptSize, .ref m_nIp, .ref m_nHeard, .ref m_nHard, .int 0, .int 0, .ref m_gIp, .ref m_gNumber, .ref m_gProtocol, .ref m_gTold, .ref m_gBegun, .ref m_gOrder, .ref m_gBytes, .ref m_gThere, .int 0, .int 0, .ref m_pTarget, .ref m_pBytes, .ref m_pLong, .ref m_pSize, .ref m_pSum, .int 0, .ref m_peer, .int 0, .int 0, .int 0, .int 0, .ref m_answer, .int 0, .int 0]))]) [0] (by decide) rfl
  have hK9 := hK.sub (tys' := []) [] rfl
  refine W.widen (k := 0) (n := 0) (Nat.le_of_ble_eq_true rfl) (Nat.le_of_ble_eq_true rfl) ?_
  exact W.iret (v := 0) hx hb hr (fun t ht hW => ⟨⟨_, (), rfl, rfl, by rw [ht]; exact hP9, va_K.moved hW.alike hK9, hD9⟩, hS.F ht⟩) hS.2.2 d_Mo_cut_36
set_option maxHeartbeats 4000000 in
set_option maxRecDepth 100000 in
theorem c_Mo_cut_no (l : Launch) (dC : Nat → ClassId) (dI : Nat → Nat → Nat) (h0 : Nat) (m_row : Nat) (m_in : Nat) (m_out : Nat) (m_kept : Nat) (m_keptSize : Nat) (m_nIp : Nat) (m_nHeard : Nat) (m_nHard : Nat) (m_gIp : Nat) (m_gNumber : Nat) (m_gProtocol : Nat) (m_gTold : Nat) (m_gBegun : Nat) (m_gOrder : Nat) (m_gBytes : Nat) (m_gThere : Nat) (m_pTarget : Nat) (m_pBytes : Nat) (m_pLong : Nat) (m_pSize : Nat) (m_pSum : Nat) (m_peer : Nat) (m_answer : Nat) (p0 : Int32) (hn : p0.toInt ≠ 0) (sz : Nat) : Met l y_Mo_cut [Cond.code y_Mo_cut b_Mo_cut 2 (some .int)] ({ frames := 40, cells := 0, slots := 0, locals := 600 }) (ux_Pc [.ref h0, .int p0] (dC, dI) cls [(h0, .inr (12, [.ref m_row, .ref m_in, .ref m_out, .int 0, .int 0, .int 0, .int 0, .int 0, .ref m_kept, .ref m_keptSize, .ref m_nIp, .ref m_nHeard, .ref m_nHard, .int 0, .int 0, .ref m_gIp, .ref m_gNumber, .ref m_gProtocol, .ref m_gTold, .ref m_gBegun, .ref m_gOrder, .ref m_gBytes, .ref m_gThere, .int 0, .int 0, .ref m_pTarget, .ref m_pBytes, .ref m_pLong, .ref m_pSize, .ref m_pSum, .int 0, .ref m_peer, .int 0, .int 0, .int 0, .int 0, .ref m_answer, .int 0, .int 0]))] [] sz) (va_Qi (fun (r : Int32) (_ : Unit) => r = 0) (fun (_ : Unit) (t : State) => ux_B (dC, dI) cls (va_A [(h0, .inr (12, [.ref m_row, .ref m_in, .ref m_out, .int 0, .int 0, .int 0, .int 0, .int 0, .ref m_kept, .ref m_keptSize, .ref m_nIp, .ref m_nHeard, .ref m_nHard, .int 0, .int 0, .ref m_gIp, .ref m_gNumber, .ref m_gProtocol, .ref m_gTold, .ref m_gBegun, .ref m_gOrder, .ref m_gBytes, .ref m_gThere, .int 0, .int 0, .ref m_pTarget, .ref m_pBytes, .ref m_pLong, .ref m_pSize, .ref m_pSum, .int 0, .ref m_peer, .int 0, .int 0, .int 0, .int 0, .ref m_answer, .int 0, .int 0]))] sz) [(h0, .inr (12, [.ref m_row, .ref m_in, .ref m_out, .int 0, .int 1, .int 0, .int 0, .int 0, .ref m_kept, .ref m_keptSize, .ref m_nIp, .ref m_nHeard, .ref m_nHard, .int 0, .int 0, .ref m_gIp, .ref m_gNumber, .ref m_gProtocol, .ref m_gTold, .ref m_gBegun, .ref m_gOrder, .ref m_gBytes, .ref m_gThere, .int 0, .int 0, .ref m_pTarget, .ref m_pBytes, .ref m_pLong, .ref m_pSize, .ref m_pSum, .int 0, .ref m_peer, .int 0, .int 0, .int 0, .int 0, .ref m_answer, .int 0, .int 0]))] [] t) (va_A [(h0, .inr (12, [.ref m_row, .ref m_in, .ref m_out, .int 0, .int 0, .int 0, .int 0, .int 0, .ref m_kept, .ref m_keptSize, .ref m_nIp, .ref m_nHeard, .ref m_nHard, .int 0, .int 0, .ref m_gIp, .ref m_gNumber, .ref m_gProtocol, .ref m_gTold, .ref m_gBegun, .ref m_gOrder, .ref m_gBytes, .ref m_gThere, .int 0, .int 0, .ref m_pTarget, .ref m_pBytes, .ref m_pLong, .ref m_pSize, .ref m_pSum, .int 0, .ref m_peer, .int 0, .int 0, .int 0, .int 0, .ref m_answer, .int 0, .int 0]))] sz)) 0 0 (va_A [(h0, .inr (12, [.ref m_row, .ref m_in, .ref m_out, .int 0, .int 0, .int 0, .int 0, .int 0, .ref m_kept, .ref m_keptSize, .ref m_nIp, .ref m_nHeard, .ref m_nHard, .int 0, .int 0, .ref m_gIp, .ref m_gNumber, .ref m_gProtocol, .ref m_gTold, .ref m_gBegun, .ref m_gOrder, .ref m_gBytes, .ref m_gThere, .int 0, .int 0, .ref m_pTarget, .ref m_pBytes, .ref m_pLong, .ref m_pSize, .ref m_pSum, .int 0, .ref m_peer, .int 0, .int 0, .int 0, .int 0, .ref m_answer, .int 0, .int 0]))] sz) := by
  refine Met.ofW (cc := b_Mo_cut) (maxL := 2) (ret := some .int) (by decide) rfl ?_
  intro p e s m args below meth c s₁ B hml hv
  obtain ⟨rfl, hsz, hP, hK, hD0, hT⟩ := hv
  have hx := B.exec
  have hb := B.bytes
  have hr := B.returns
  have hown : s.vm.findClass "UnikernelHttpModel" = some m.cls := findClass_of_methodNamed B.named
  have hlocks := B.notSynchronized
  subst hsz
  have hD := hD0.self (sz := s.heap.size)
  have hns := ux_ns hP
  generalize hAe : va_A [(h0, .inr (12, [.ref m_row, .ref m_in, .ref m_out, .int 0, .int 0, .int 0, .int 0, .int 0, .ref m_kept, .ref m_keptSize, .ref m_nIp, .ref m_nHeard, .ref m_nHard, .int 0, .int 0, .ref m_gIp, .ref m_gNumber, .ref m_gProtocol, .ref m_gTold, .ref m_gBegun, .ref m_gOrder, .ref m_gBytes, .ref m_gThere, .int 0, .int 0, .ref m_pTarget, .ref m_pBytes, .ref m_pLong, .ref m_pSize, .ref m_pSum, .int 0, .ref m_peer, .int 0, .int 0, .int 0, .int 0, .ref m_answer, .int 0, .int 0]))] s.heap.size = A at hD hns ⊢
  have hA : ∀ q : Nat, s.heap.size ≤ q → A q := fun q h => by rw [← hAe]; exact Or.inr h
  have hS : va_S A s.heap s.heap [] := va_S.rf
  have hl := lv_entry ([.ref h0, .int p0]) (n := 2) (Nat.le_of_ble_eq_true rfl)
  rw [lg_entry_eq]
  generalize (lg_sl ([.ref h0, .int p0]) ++ List.replicate (2 - (lg_sl ([.ref h0, .int p0])).length) Slot.unset).toArray = ls at hl ⊢
  have hl : lv_has ls 2 [(0, .ref h0), (1, .int p0)] := hl
  have hfx : CallFix p m c b_Mo_cut 2 s ([.ref h0, .int p0] : List Value).toArray [] "UnikernelHttpModel" := ⟨hx, hb, hml, hown, fun _ h => by cases h⟩
  refine lv_aload_n hx hb d_Mo_cut_0 rfl (lv_at hl 0 rfl) ?_
  refine lv_iload_n hx hb d_Mo_cut_1 rfl (lv_at hl 1 rfl) ?_
  refine lv_if_lt (tgt := 13) hx hb d_Mo_cut_2 (by decide) (fun hc1 => ?_) (fun hc1 => ?_)
  · refine lv_iconst (v := 1) hx hb d_Mo_cut_13 (by decide) ?_
    refine lv_goto hx hb d_Mo_cut_14 (tgt := 18) (by decide) ?_
    refine va_put (D := (dC, dI)) (ci := 12) (v := .int 1) (ty := .int) (C := R_Mo) (T := F_Mo) (N := 39) hx hb (u_Mo hT) (fun _ h => h) t_Mo k_Mo n_Mo hown hK hP hD hS 0 rfl rfl 4 (by decide) (ux_T_at hT tw_1598 rfl) (fun _ h9 => h9) rfl (by decide +kernel) rfl rfl (Nat.le_of_ble_eq_true rfl) d_Mo_cut_18 (fun H locs hP hD hS => ?_)
    have hP : va_P (dC, dI) cls [(h0, .inr (12, [.ref m_row, .ref m_in, .ref m_out, .int 0, .int 1, .int 0, .int 0, .int 0, .ref m_kept, .ref m_keptSize, .ref m_nIp, .ref m_nHeard, .ref m_nHard, .int 0, .int 0, .ref m_gIp, .ref m_gNumber, .ref m_gProtocol, .ref m_gTold, .ref m_gBegun, .ref m_gOrder, .ref m_gBytes, .ref m_gThere, .int 0, .int 0, .ref m_pTarget, .ref m_pBytes, .ref m_pLong, .ref m_pSize, .ref m_pSum, .int 0, .ref m_peer, .int 0, .int 0, .int 0, .int 0, .ref m_answer, .int 0, .int 0]))] H := hP
    have hD : va_D A [(h0, .inr (12, [.ref m_row, .ref m_in, .ref m_out, .int 0, .int 1, .int 0, .int 0, .int 0, .ref m_kept, .ref m_keptSize, .ref m_nIp, .ref m_nHeard, .ref m_nHard, .int 0, .int 0, .ref m_gIp, .ref m_gNumber, .ref m_gProtocol, .ref m_gTold, .ref m_gBegun, .ref m_gOrder, .ref m_gBytes, .ref m_gThere, .int 0, .int 0, .ref m_pTarget, .ref m_pBytes, .ref m_pLong, .ref m_pSize, .ref m_pSum, .int 0, .ref m_peer, .int 0, .int 0, .int 0, .int 0, .ref m_answer, .int 0, .int 0]))] := hD
    refine lv_aload_n hx hb d_Mo_cut_21 rfl (lv_at hl 0 rfl) ?_
    refine va_get (D := (dC, dI)) (ci := 12) (v := .int 1) (C := R_Mo) (T := F_Mo) (N := 39) hx hb (u_Mo hT) (fun _ h => h) hown hK hP 0 rfl rfl 4 (by decide) (ux_T_at hT tw_1598 rfl) (fun _ h9 => h9) rfl d_Mo_cut_22 ?_
    refine lv_if_le (tgt := 30) hx hb d_Mo_cut_25 (by decide) (fun hc => absurd hc (by decide)) (fun _ => ?_)
    refine lv_iconst (v := 0) hx hb d_Mo_cut_28 (by decide) ?_
    have hP9 := hP.sub (ws' := [(h0, .inr (12, [.ref m_row, .ref m_in, .ref m_out, .int 0, .int 1, .int 0, .int 0, .int 0, .ref m_kept, .ref m_keptSize, .ref m_nIp, .ref m_nHeard, .ref m_nHard, .int 0, .int 0, .ref m_gIp, .ref m_gNumber, .ref m_gProtocol, .ref m_gTold, .ref m_gBegun, .ref m_gOrder, .ref m_gBytes, .ref m_gThere, .int 0, .int 0, .ref m_pTarget, .ref m_pBytes, .ref m_pLong, .ref m_pSize, .ref m_pSum, .int 0, .ref m_peer, .int 0, .int 0, .int 0, .int 0, .ref m_answer, .int 0, .int 0]))]) [0] rfl
    have hD9 := hD.sub (ws' := [(h0, .inr (12, [.ref m_row, .ref m_in, .ref m_out, .int 0, .int 1, .int 0, .int 0, .int 0, .ref m_kept, .ref m_keptSize, .ref m_nIp, .ref m_nHeard, .ref m_nHard, .int 0, .int 0, .ref m_gIp, .ref m_gNumber, .ref m_gProtocol, .ref m_gTold, .ref m_gBegun, .ref m_gOrder, .ref m_gBytes, .ref m_gThere, .int 0, .int 0, .ref m_pTarget, .ref m_pBytes, .ref m_pLong, .ref m_pSize, .ref m_pSum, .int 0, .ref m_peer, .int 0, .int 0, .int 0, .int 0, .ref m_answer, .int 0, .int 0]))]) [0] (by decide) rfl
    have hK9 := hK.sub (tys' := []) [] rfl
    refine W.widen (k := 0) (n := 0) (Nat.le_of_ble_eq_true rfl) (Nat.le_of_ble_eq_true rfl) ?_
    exact W.iret (v := 0) hx hb hr (fun t ht hW => ⟨⟨_, (), rfl, rfl, by rw [ht]; exact hP9, va_K.moved hW.alike hK9, hD9⟩, hS.F ht⟩) hS.2.2 d_Mo_cut_29
  · refine lv_iload_n hx hb d_Mo_cut_5 rfl (lv_at hl 1 rfl) ?_
    refine lv_aload_n hx hb d_Mo_cut_6 rfl (lv_at hl 0 rfl) ?_
    refine va_get (D := (dC, dI)) (ci := 12) (v := .int 0) (C := R_Mo) (T := F_Mo) (N := 39) hx hb (u_Mo hT) (fun _ h => h) hown hK hP 0 rfl rfl 3 (by decide) (ux_T_at hT tw_1597 rfl) (fun _ h9 => h9) rfl d_Mo_cut_7 ?_
    refine lv_icmp_le (tgt := 17) hx hb d_Mo_cut_10 (by decide) (fun hc2 => by exfalso; simp only [Int32.lt_iff_toInt_lt, Int32.le_iff_toInt_le, ← Int32.toInt_inj, ux_l0] at hc2 hc1; omega) (fun _ => ?_)
    refine lv_iconst (v := 1) hx hb d_Mo_cut_13 (by decide) ?_
    refine lv_goto hx hb d_Mo_cut_14 (tgt := 18) (by decide) ?_
    refine va_put (D := (dC, dI)) (ci := 12) (v := .int 1) (ty := .int) (C := R_Mo) (T := F_Mo) (N := 39) hx hb (u_Mo hT) (fun _ h => h) t_Mo k_Mo n_Mo hown hK hP hD hS 0 rfl rfl 4 (by decide) (ux_T_at hT tw_1598 rfl) (fun _ h9 => h9) rfl (by decide +kernel) rfl rfl (Nat.le_of_ble_eq_true rfl) d_Mo_cut_18 (fun H locs hP hD hS => ?_)
    have hP : va_P (dC, dI) cls [(h0, .inr (12, [.ref m_row, .ref m_in, .ref m_out, .int 0, .int 1, .int 0, .int 0, .int 0, .ref m_kept, .ref m_keptSize, .ref m_nIp, .ref m_nHeard, .ref m_nHard, .int 0, .int 0, .ref m_gIp, .ref m_gNumber, .ref m_gProtocol, .ref m_gTold, .ref m_gBegun, .ref m_gOrder, .ref m_gBytes, .ref m_gThere, .int 0, .int 0, .ref m_pTarget, .ref m_pBytes, .ref m_pLong, .ref m_pSize, .ref m_pSum, .int 0, .ref m_peer, .int 0, .int 0, .int 0, .int 0, .ref m_answer, .int 0, .int 0]))] H := hP
    have hD : va_D A [(h0, .inr (12, [.ref m_row, .ref m_in, .ref m_out, .int 0, .int 1, .int 0, .int 0, .int 0, .ref m_kept, .ref m_keptSize, .ref m_nIp, .ref m_nHeard, .ref m_nHard, .int 0, .int 0, .ref m_gIp, .ref m_gNumber, .ref m_gProtocol, .ref m_gTold, .ref m_gBegun, .ref m_gOrder, .ref m_gBytes, .ref m_gThere, .int 0, .int 0, .ref m_pTarget, .ref m_pBytes, .ref m_pLong, .ref m_pSize, .ref m_pSum, .int 0, .ref m_peer, .int 0, .int 0, .int 0, .int 0, .ref m_answer, .int 0, .int 0]))] := hD
    refine lv_aload_n hx hb d_Mo_cut_21 rfl (lv_at hl 0 rfl) ?_
    refine va_get (D := (dC, dI)) (ci := 12) (v := .int 1) (C := R_Mo) (T := F_Mo) (N := 39) hx hb (u_Mo hT) (fun _ h => h) hown hK hP 0 rfl rfl 4 (by decide) (ux_T_at hT tw_1598 rfl) (fun _ h9 => h9) rfl d_Mo_cut_22 ?_
    refine lv_if_le (tgt := 30) hx hb d_Mo_cut_25 (by decide) (fun hc => absurd hc (by decide)) (fun _ => ?_)
    refine lv_iconst (v := 0) hx hb d_Mo_cut_28 (by decide) ?_
    have hP9 := hP.sub (ws' := [(h0, .inr (12, [.ref m_row, .ref m_in, .ref m_out, .int 0, .int 1, .int 0, .int 0, .int 0, .ref m_kept, .ref m_keptSize, .ref m_nIp, .ref m_nHeard, .ref m_nHard, .int 0, .int 0, .ref m_gIp, .ref m_gNumber, .ref m_gProtocol, .ref m_gTold, .ref m_gBegun, .ref m_gOrder, .ref m_gBytes, .ref m_gThere, .int 0, .int 0, .ref m_pTarget, .ref m_pBytes, .ref m_pLong, .ref m_pSize, .ref m_pSum, .int 0, .ref m_peer, .int 0, .int 0, .int 0, .int 0, .ref m_answer, .int 0, .int 0]))]) [0] rfl
    have hD9 := hD.sub (ws' := [(h0, .inr (12, [.ref m_row, .ref m_in, .ref m_out, .int 0, .int 1, .int 0, .int 0, .int 0, .ref m_kept, .ref m_keptSize, .ref m_nIp, .ref m_nHeard, .ref m_nHard, .int 0, .int 0, .ref m_gIp, .ref m_gNumber, .ref m_gProtocol, .ref m_gTold, .ref m_gBegun, .ref m_gOrder, .ref m_gBytes, .ref m_gThere, .int 0, .int 0, .ref m_pTarget, .ref m_pBytes, .ref m_pLong, .ref m_pSize, .ref m_pSum, .int 0, .ref m_peer, .int 0, .int 0, .int 0, .int 0, .ref m_answer, .int 0, .int 0]))]) [0] (by decide) rfl
    have hK9 := hK.sub (tys' := []) [] rfl
    refine W.widen (k := 0) (n := 0) (Nat.le_of_ble_eq_true rfl) (Nat.le_of_ble_eq_true rfl) ?_
    exact W.iret (v := 0) hx hb hr (fun t ht hW => ⟨⟨_, (), rfl, rfl, by rw [ht]; exact hP9, va_K.moved hW.alike hK9, hD9⟩, hS.F ht⟩) hS.2.2 d_Mo_cut_29
set_option maxHeartbeats 4000000 in
set_option maxRecDepth 100000 in
theorem c_Mo_arrive (l : Launch) (dC : Nat → ClassId) (dI : Nat → Nat → Nat) (h0 : Nat) (m_row : Nat) (m_in : Nat) (m_out : Nat) (m_kept : Nat) (m_keptSize : Nat) (m_nIp : Nat) (m_nHeard : Nat) (m_nHard : Nat) (m_gIp : Nat) (m_gNumber : Nat) (m_gProtocol : Nat) (m_gTold : Nat) (m_gBegun : Nat) (m_gOrder : Nat) (m_gBytes : Nat) (m_gThere : Nat) (m_pTarget : Nat) (m_pBytes : Nat) (m_pLong : Nat) (m_pSize : Nat) (m_pSum : Nat) (m_peer : Nat) (m_answer : Nat) (cM : ClassId) (cN : ClassId) (f : Nat → Int32) (g : Nat → Int32) (sz : Nat) : Met l y_Mo_arrive [Cond.code y_Mo_arrive b_Mo_arrive 2 (some .int)] ({ frames := 40, cells := 0, slots := 0, locals := 600 }) (ux_Pc [.ref h0] (dC, dI) cls [(h0, .inr (12, [.ref m_row, .ref m_in, .ref m_out, .int 0, .int 0, .int 0, .int 0, .int 0, .ref m_kept, .ref m_keptSize, .ref m_nIp, .ref m_nHeard, .ref m_nHard, .int 0, .int 0, .ref m_gIp, .ref m_gNumber, .ref m_gProtocol, .ref m_gTold, .ref m_gBegun, .ref m_gOrder, .ref m_gBytes, .ref m_gThere, .int 0, .int 0, .ref m_pTarget, .ref m_pBytes, .ref m_pLong, .ref m_pSize, .ref m_pSum, .int 0, .ref m_peer, .int 0, .int 0, .int 0, .int 0, .ref m_answer, .int 0, .int 0])), (m_row, .inl (cM, 2000, .inl f)), (m_in, .inl (cN, 5718, .inl g))] [(cM, .byte), (cN, .byte)] sz) (va_Qi (fun (r : Int32) (_ : Unit) => r = 0) (fun (_ : Unit) (t : State) => ux_B (dC, dI) cls (va_A [(h0, .inr (12, [.ref m_row, .ref m_in, .ref m_out, .int 0, .int 0, .int 0, .int 0, .int 0, .ref m_kept, .ref m_keptSize, .ref m_nIp, .ref m_nHeard, .ref m_nHard, .int 0, .int 0, .ref m_gIp, .ref m_gNumber, .ref m_gProtocol, .ref m_gTold, .ref m_gBegun, .ref m_gOrder, .ref m_gBytes, .ref m_gThere, .int 0, .int 0, .ref m_pTarget, .ref m_pBytes, .ref m_pLong, .ref m_pSize, .ref m_pSum, .int 0, .ref m_peer, .int 0, .int 0, .int 0, .int 0, .ref m_answer, .int 0, .int 0])), (m_row, .inl (cM, 2000, .inl f)), (m_in, .inl (cN, 5718, .inl g))] sz) [(h0, .inr (12, [.ref m_row, .ref m_in, .ref m_out, .int 0, .int 0, .int 0, .int 0, .int 0, .ref m_kept, .ref m_keptSize, .ref m_nIp, .ref m_nHeard, .ref m_nHard, .int 0, .int 0, .ref m_gIp, .ref m_gNumber, .ref m_gProtocol, .ref m_gTold, .ref m_gBegun, .ref m_gOrder, .ref m_gBytes, .ref m_gThere, .int 0, .int 0, .ref m_pTarget, .ref m_pBytes, .ref m_pLong, .ref m_pSize, .ref m_pSum, .int 0, .ref m_peer, .int 0, .int 0, .int 0, .int 0, .ref m_answer, .int 0, .int 0]))] [] t) (va_A [(h0, .inr (12, [.ref m_row, .ref m_in, .ref m_out, .int 0, .int 0, .int 0, .int 0, .int 0, .ref m_kept, .ref m_keptSize, .ref m_nIp, .ref m_nHeard, .ref m_nHard, .int 0, .int 0, .ref m_gIp, .ref m_gNumber, .ref m_gProtocol, .ref m_gTold, .ref m_gBegun, .ref m_gOrder, .ref m_gBytes, .ref m_gThere, .int 0, .int 0, .ref m_pTarget, .ref m_pBytes, .ref m_pLong, .ref m_pSize, .ref m_pSum, .int 0, .ref m_peer, .int 0, .int 0, .int 0, .int 0, .ref m_answer, .int 0, .int 0])), (m_row, .inl (cM, 2000, .inl f)), (m_in, .inl (cN, 5718, .inl g))] sz)) 0 0 (va_A [(h0, .inr (12, [.ref m_row, .ref m_in, .ref m_out, .int 0, .int 0, .int 0, .int 0, .int 0, .ref m_kept, .ref m_keptSize, .ref m_nIp, .ref m_nHeard, .ref m_nHard, .int 0, .int 0, .ref m_gIp, .ref m_gNumber, .ref m_gProtocol, .ref m_gTold, .ref m_gBegun, .ref m_gOrder, .ref m_gBytes, .ref m_gThere, .int 0, .int 0, .ref m_pTarget, .ref m_pBytes, .ref m_pLong, .ref m_pSize, .ref m_pSum, .int 0, .ref m_peer, .int 0, .int 0, .int 0, .int 0, .ref m_answer, .int 0, .int 0])), (m_row, .inl (cM, 2000, .inl f)), (m_in, .inl (cN, 5718, .inl g))] sz) := by
  refine Met.ofW (cc := b_Mo_arrive) (maxL := 2) (ret := some .int) (by decide) rfl ?_
  intro p e s m args below meth c s₁ B hml hv
  obtain ⟨rfl, hsz, hP, hK, hD0, hT⟩ := hv
  have hx := B.exec
  have hb := B.bytes
  have hr := B.returns
  have hown : s.vm.findClass "UnikernelHttpModel" = some m.cls := findClass_of_methodNamed B.named
  have hlocks := B.notSynchronized
  subst hsz
  have hD := hD0.self (sz := s.heap.size)
  have hns := ux_ns hP
  generalize hAe : va_A [(h0, .inr (12, [.ref m_row, .ref m_in, .ref m_out, .int 0, .int 0, .int 0, .int 0, .int 0, .ref m_kept, .ref m_keptSize, .ref m_nIp, .ref m_nHeard, .ref m_nHard, .int 0, .int 0, .ref m_gIp, .ref m_gNumber, .ref m_gProtocol, .ref m_gTold, .ref m_gBegun, .ref m_gOrder, .ref m_gBytes, .ref m_gThere, .int 0, .int 0, .ref m_pTarget, .ref m_pBytes, .ref m_pLong, .ref m_pSize, .ref m_pSum, .int 0, .ref m_peer, .int 0, .int 0, .int 0, .int 0, .ref m_answer, .int 0, .int 0])), (m_row, .inl (cM, 2000, .inl f)), (m_in, .inl (cN, 5718, .inl g))] s.heap.size = A at hD hns ⊢
  have hA : ∀ q : Nat, s.heap.size ≤ q → A q := fun q h => by rw [← hAe]; exact Or.inr h
  have hS : va_S A s.heap s.heap [] := va_S.rf
  have hl := lv_entry ([.ref h0]) (n := 2) (Nat.le_of_ble_eq_true rfl)
  rw [lg_entry_eq]
  generalize (lg_sl ([.ref h0]) ++ List.replicate (2 - (lg_sl ([.ref h0])).length) Slot.unset).toArray = ls at hl ⊢
  have hl : lv_has ls 2 [(0, .ref h0)] := hl
  have hfx : CallFix p m c b_Mo_arrive 2 s ([.ref h0] : List Value).toArray [] "UnikernelHttpModel" := ⟨hx, hb, hml, hown, fun _ h => by cases h⟩
  refine lv_aload_n hx hb d_Mo_arrive_0 rfl (lv_at hl 0 rfl) ?_
  refine lv_aload_n hx hb d_Mo_arrive_1 rfl (lv_at hl 0 rfl) ?_
  refine va_get (D := (dC, dI)) (ci := 12) (v := .int 0) (C := R_Mo) (T := F_Mo) (N := 39) hx hb (u_Mo hT) (fun _ h => h) hown hK hP 0 rfl rfl 3 (by decide) (ux_T_at hT tw_1597 rfl) (fun _ h9 => h9) rfl d_Mo_arrive_2 ?_
  refine lv_sipush (v := 1518) hx hb d_Mo_arrive_5 (by decide) ?_
  refine lv_icmp_le (tgt := 15) hx hb d_Mo_arrive_8 (by decide) (fun _ => ?_) (fun hc => absurd (by decide) hc)
  refine lv_iconst (v := 0) hx hb d_Mo_arrive_15 (by decide) ?_
  refine va_put (D := (dC, dI)) (ci := 12) (v := .int 0) (ty := .int) (C := R_Mo) (T := F_Mo) (N := 39) hx hb (u_Mo hT) (fun _ h => h) t_Mo k_Mo n_Mo hown hK hP hD hS 0 rfl rfl 4 (by decide) (ux_T_at hT tw_1598 rfl) (fun _ h9 => h9) rfl (by decide +kernel) rfl rfl (Nat.le_of_ble_eq_true rfl) d_Mo_arrive_16 (fun H locs hP hD hS => ?_)
  have hP : va_P (dC, dI) cls [(h0, .inr (12, [.ref m_row, .ref m_in, .ref m_out, .int 0, .int 0, .int 0, .int 0, .int 0, .ref m_kept, .ref m_keptSize, .ref m_nIp, .ref m_nHeard, .ref m_nHard, .int 0, .int 0, .ref m_gIp, .ref m_gNumber, .ref m_gProtocol, .ref m_gTold, .ref m_gBegun, .ref m_gOrder, .ref m_gBytes, .ref m_gThere, .int 0, .int 0, .ref m_pTarget, .ref m_pBytes, .ref m_pLong, .ref m_pSize, .ref m_pSum, .int 0, .ref m_peer, .int 0, .int 0, .int 0, .int 0, .ref m_answer, .int 0, .int 0])), (m_row, .inl (cM, 2000, .inl f)), (m_in, .inl (cN, 5718, .inl g))] H := hP
  have hD : va_D A [(h0, .inr (12, [.ref m_row, .ref m_in, .ref m_out, .int 0, .int 0, .int 0, .int 0, .int 0, .ref m_kept, .ref m_keptSize, .ref m_nIp, .ref m_nHeard, .ref m_nHard, .int 0, .int 0, .ref m_gIp, .ref m_gNumber, .ref m_gProtocol, .ref m_gTold, .ref m_gBegun, .ref m_gOrder, .ref m_gBytes, .ref m_gThere, .int 0, .int 0, .ref m_pTarget, .ref m_pBytes, .ref m_pLong, .ref m_pSize, .ref m_pSum, .int 0, .ref m_peer, .int 0, .int 0, .int 0, .int 0, .ref m_answer, .int 0, .int 0])), (m_row, .inl (cM, 2000, .inl f)), (m_in, .inl (cN, 5718, .inl g))] := hD
  refine lv_aload_n hx hb d_Mo_arrive_19 rfl (lv_at hl 0 rfl) ?_
  refine va_get (D := (dC, dI)) (ci := 12) (v := .int 0) (C := R_Mo) (T := F_Mo) (N := 39) hx hb (u_Mo hT) (fun _ h => h) hown hK hP 0 rfl rfl 4 (by decide) (ux_T_at hT tw_1598 rfl) (fun _ h9 => h9) rfl d_Mo_arrive_20 ?_
  refine lv_if_le (tgt := 28) hx hb d_Mo_arrive_23 (by decide) (fun _ => ?_) (fun hc => absurd (by decide) hc)
  refine lv_aload_n hx hb d_Mo_arrive_28 rfl (lv_at hl 0 rfl) ?_
  refine va_get (D := (dC, dI)) (ci := 12) (v := .int 0) (C := R_Mo) (T := F_Mo) (N := 39) hx hb (u_Mo hT) (fun _ h => h) hown hK hP 0 rfl rfl 7 (by decide) (ux_T_at hT tw_1601 rfl) (fun _ h9 => h9) rfl d_Mo_arrive_29 ?_
  refine lv_istore_n hx hb d_Mo_arrive_32 rfl hl (by decide) rfl (fun ls hl => ?_)
  have hl : lv_has ls 2 [(1, .int 0), (0, .ref h0)] := hl
  refine lv_aload_n hx hb d_Mo_arrive_33 rfl (lv_at hl 1 rfl) ?_
  have hPc := hP.sub (ws' := [(h0, .inr (12, [.ref m_row, .ref m_in, .ref m_out, .int 0, .int 0, .int 0, .int 0, .int 0, .ref m_kept, .ref m_keptSize, .ref m_nIp, .ref m_nHeard, .ref m_nHard, .int 0, .int 0, .ref m_gIp, .ref m_gNumber, .ref m_gProtocol, .ref m_gTold, .ref m_gBegun, .ref m_gOrder, .ref m_gBytes, .ref m_gThere, .int 0, .int 0, .ref m_pTarget, .ref m_pBytes, .ref m_pLong, .ref m_pSize, .ref m_pSum, .int 0, .ref m_peer, .int 0, .int 0, .int 0, .int 0, .ref m_answer, .int 0, .int 0])), (m_row, .inl (cM, 2000, .inl f)), (m_in, .inl (cN, 5718, .inl g))]) [0, 1, 2] rfl
  have hDc := hD.sub (ws' := [(h0, .inr (12, [.ref m_row, .ref m_in, .ref m_out, .int 0, .int 0, .int 0, .int 0, .int 0, .ref m_kept, .ref m_keptSize, .ref m_nIp, .ref m_nHeard, .ref m_nHard, .int 0, .int 0, .ref m_gIp, .ref m_gNumber, .ref m_gProtocol, .ref m_gTold, .ref m_gBegun, .ref m_gOrder, .ref m_gBytes, .ref m_gThere, .int 0, .int 0, .ref m_pTarget, .ref m_pBytes, .ref m_pLong, .ref m_pSize, .ref m_pSum, .int 0, .ref m_peer, .int 0, .int 0, .int 0, .int 0, .ref m_answer, .int 0, .int 0])), (m_row, .inl (cM, 2000, .inl f)), (m_in, .inl (cN, 5718, .inl g))]) [0, 1, 2] (by decide) rfl
  have hKc := hK.sub (tys' := [(cM, .byte), (cN, .byte)]) [0, 1] rfl
  have hFc := va_free (wc := [(h0, .inr (12, [.ref m_row, .ref m_in, .ref m_out, .int 0, .int 0, .int 0, .int 0, .int 0, .ref m_kept, .ref m_keptSize, .ref m_nIp, .ref m_nHeard, .ref m_nHard, .int 0, .int 0, .ref m_gIp, .ref m_gNumber, .ref m_gProtocol, .ref m_gTold, .ref m_gBegun, .ref m_gOrder, .ref m_gBytes, .ref m_gThere, .int 0, .int 0, .ref m_pTarget, .ref m_pBytes, .ref m_pLong, .ref m_pSize, .ref m_pSum, .int 0, .ref m_peer, .int 0, .int 0, .int 0, .int 0, .ref m_answer, .int 0, .int 0])), (m_row, .inl (cM, 2000, .inl f)), (m_in, .inl (cN, 5718, .inl g))]) hD hS hA [0, 1, 2] rfl
  have hkc : 0 + 0 ≤ 0 := (Nat.le_of_ble_eq_true rfl)
  refine va_callv (va_runV (As := []) (rest := []) hfx (c_Mo_comes l dC dI h0 m_row m_in m_out m_kept m_keptSize m_nIp m_nHeard m_nHard m_gIp m_gNumber m_gProtocol m_gTold m_gBegun m_gOrder m_gBytes m_gThere m_pTarget m_pBytes m_pLong m_pSize m_pSum m_peer m_answer cM cN f g H.size) ⟨(ux_cb 0 hT tw_1734 tw_1731 tw_13 rfl rfl (by decide +kernel) ⟨(Nat.le_of_ble_eq_true rfl), (Nat.le_of_ble_eq_true rfl)⟩), (ux_T_at hT tw_1733 rfl), (ux_T_at hT (ux_tp (q := (⟨"UnikernelHttpModel", "comes", "()V"⟩, 39)) (by decide +kernel)) rfl)⟩ (ux_preV (r := (R_Mo, F_Mo, 39)) (ci := 12) (q0 := 0) [] hT hPc hKc hDc rfl rfl) rfl rfl hl.1 rfl (lv_room (Nat.le_of_ble_eq_true rfl)) d_Mo_arrive_34 ⟨(Nat.le_of_ble_eq_true rfl), (Nat.le_of_ble_eq_true rfl)⟩) hS (fun q _ h => hFc q h) hFc (fun u t H1 locs ht hvm hw hB hz1 hk1 hS => ?_)
  obtain ⟨hP1, hK1, hD1⟩ := hB
  rw [ht] at hP1
  have hK1 := va_K.moved hvm.symm hK1
  obtain ⟨hP, hD⟩ := va_join (wr := []) (w1 := [(h0, .inr (12, [.ref m_row, .ref m_in, .ref m_out, .int 0, .int 0, .int 0, .int 0, .int 0, .ref m_kept, .ref m_keptSize, .ref m_nIp, .ref m_nHeard, .ref m_nHard, .int 0, .int 0, .ref m_gIp, .ref m_gNumber, .ref m_gProtocol, .ref m_gTold, .ref m_gBegun, .ref m_gOrder, .ref m_gBytes, .ref m_gThere, .int 0, .int 0, .ref m_pTarget, .ref m_pBytes, .ref m_pLong, .ref m_pSize, .ref m_pSum, .int 0, .ref m_peer, .int 0, .int 0, .int 0, .int 0, .ref m_answer, .int 0, .int 0]))]) hP hD [0, 1, 2] [] rfl rfl (by decide) (by decide) hk1 hFc hP1 hD1
  have hK := (hK.sub (tys' := [(cM, .byte), (cN, .byte)]) [0, 1] rfl).app hK1
  generalize H1 = H at hP hS ⊢
  have hP : va_P (dC, dI) cls [(h0, .inr (12, [.ref m_row, .ref m_in, .ref m_out, .int 0, .int 0, .int 0, .int 0, .int 0, .ref m_kept, .ref m_keptSize, .ref m_nIp, .ref m_nHeard, .ref m_nHard, .int 0, .int 0, .ref m_gIp, .ref m_gNumber, .ref m_gProtocol, .ref m_gTold, .ref m_gBegun, .ref m_gOrder, .ref m_gBytes, .ref m_gThere, .int 0, .int 0, .ref m_pTarget, .ref m_pBytes, .ref m_pLong, .ref m_pSize, .ref m_pSum, .int 0, .ref m_peer, .int 0, .int 0, .int 0, .int 0, .ref m_answer, .int 0, .int 0]))] H := hP
  have hD : va_D A [(h0, .inr (12, [.ref m_row, .ref m_in, .ref m_out, .int 0, .int 0, .int 0, .int 0, .int 0, .ref m_kept, .ref m_keptSize, .ref m_nIp, .ref m_nHeard, .ref m_nHard, .int 0, .int 0, .ref m_gIp, .ref m_gNumber, .ref m_gProtocol, .ref m_gTold, .ref m_gBegun, .ref m_gOrder, .ref m_gBytes, .ref m_gThere, .int 0, .int 0, .ref m_pTarget, .ref m_pBytes, .ref m_pLong, .ref m_pSize, .ref m_pSum, .int 0, .ref m_peer, .int 0, .int 0, .int 0, .int 0, .ref m_answer, .int 0, .int 0]))] := hD
  have hK : va_K (dC, dI) cls [(cM, .byte), (cN, .byte)] s := hK
  refine lv_aload_n hx hb d_Mo_arrive_37 rfl (lv_at hl 1 rfl) ?_
  refine lv_iconst (v := 0) hx hb d_Mo_arrive_38 (by decide) ?_
  refine va_put (D := (dC, dI)) (ci := 12) (v := .int 0) (ty := .int) (C := R_Mo) (T := F_Mo) (N := 39) hx hb (u_Mo hT) (fun _ h => h) t_Mo k_Mo n_Mo hown hK hP hD hS 0 rfl rfl 3 (by decide) (ux_T_at hT tw_1597 rfl) (fun _ h9 => h9) rfl (by decide +kernel) rfl rfl (Nat.le_of_ble_eq_true rfl) d_Mo_arrive_39 (fun H locs hP hD hS => ?_)
  have hP : va_P (dC, dI) cls [(h0, .inr (12, [.ref m_row, .ref m_in, .ref m_out, .int 0, .int 0, .int 0, .int 0, .int 0, .ref m_kept, .ref m_keptSize, .ref m_nIp, .ref m_nHeard, .ref m_nHard, .int 0, .int 0, .ref m_gIp, .ref m_gNumber, .ref m_gProtocol, .ref m_gTold, .ref m_gBegun, .ref m_gOrder, .ref m_gBytes, .ref m_gThere, .int 0, .int 0, .ref m_pTarget, .ref m_pBytes, .ref m_pLong, .ref m_pSize, .ref m_pSum, .int 0, .ref m_peer, .int 0, .int 0, .int 0, .int 0, .ref m_answer, .int 0, .int 0]))] H := hP
  have hD : va_D A [(h0, .inr (12, [.ref m_row, .ref m_in, .ref m_out, .int 0, .int 0, .int 0, .int 0, .int 0, .ref m_kept, .ref m_keptSize, .ref m_nIp, .ref m_nHeard, .ref m_nHard, .int 0, .int 0, .ref m_gIp, .ref m_gNumber, .ref m_gProtocol, .ref m_gTold, .ref m_gBegun, .ref m_gOrder, .ref m_gBytes, .ref m_gThere, .int 0, .int 0, .ref m_pTarget, .ref m_pBytes, .ref m_pLong, .ref m_pSize, .ref m_pSum, .int 0, .ref m_peer, .int 0, .int 0, .int 0, .int 0, .ref m_answer, .int 0, .int 0]))] := hD
  refine lv_aload_n hx hb d_Mo_arrive_42 rfl (lv_at hl 1 rfl) ?_
  refine va_get (D := (dC, dI)) (ci := 12) (v := .int 0) (C := R_Mo) (T := F_Mo) (N := 39) hx hb (u_Mo hT) (fun _ h => h) hown hK hP 0 rfl rfl 7 (by decide) (ux_T_at hT tw_1601 rfl) (fun _ h9 => h9) rfl d_Mo_arrive_43 ?_
  refine lv_iload_n hx hb d_Mo_arrive_46 rfl (lv_at hl 0 rfl) ?_
  refine lv_isub hx hb d_Mo_arrive_47 ?_
  refine lv_topi (fun x2 ex2 => ?_)
  obtain rfl : x2 = 0 := ex2.trans (by decide)
  have hP9 := hP.sub (ws' := [(h0, .inr (12, [.ref m_row, .ref m_in, .ref m_out, .int 0, .int 0, .int 0, .int 0, .int 0, .ref m_kept, .ref m_keptSize, .ref m_nIp, .ref m_nHeard, .ref m_nHard, .int 0, .int 0, .ref m_gIp, .ref m_gNumber, .ref m_gProtocol, .ref m_gTold, .ref m_gBegun, .ref m_gOrder, .ref m_gBytes, .ref m_gThere, .int 0, .int 0, .ref m_pTarget, .ref m_pBytes, .ref m_pLong, .ref m_pSize, .ref m_pSum, .int 0, .ref m_peer, .int 0, .int 0, .int 0, .int 0, .ref m_answer, .int 0, .int 0]))]) [0] rfl
  have hD9 := hD.sub (ws' := [(h0, .inr (12, [.ref m_row, .ref m_in, .ref m_out, .int 0, .int 0, .int 0, .int 0, .int 0, .ref m_kept, .ref m_keptSize, .ref m_nIp, .ref m_nHeard, .ref m_nHard, .int 0, .int 0, .ref m_gIp, .ref m_gNumber, .ref m_gProtocol, .ref m_gTold, .ref m_gBegun, .ref m_gOrder, .ref m_gBytes, .ref m_gThere, .int 0, .int 0, .ref m_pTarget, .ref m_pBytes, .ref m_pLong, .ref m_pSize, .ref m_pSum, .int 0, .ref m_peer, .int 0, .int 0, .int 0, .int 0, .ref m_answer, .int 0, .int 0]))]) [0] (by decide) rfl
  have hK9 := hK.sub (tys' := []) [] rfl
  refine W.widen (k := 0) (n := 0) (Nat.le_of_ble_eq_true rfl) (Nat.le_of_ble_eq_true rfl) ?_
  exact W.iret (v := 0) hx hb hr (fun t ht hW => ⟨⟨_, (), rfl, rfl, by rw [ht]; exact hP9, va_K.moved hW.alike hK9, hD9⟩, hS.F ht⟩) hS.2.2 d_Mo_arrive_48
set_option maxHeartbeats 4000000 in
set_option maxRecDepth 100000 in
theorem c_Mo_page (l : Launch) (dC : Nat → ClassId) (dI : Nat → Nat → Nat) (h0 : Nat) (m_row : Nat) (m_in : Nat) (m_out : Nat) (m_kept : Nat) (m_keptSize : Nat) (m_nIp : Nat) (m_nHeard : Nat) (m_nHard : Nat) (m_gIp : Nat) (m_gNumber : Nat) (m_gProtocol : Nat) (m_gTold : Nat) (m_gBegun : Nat) (m_gOrder : Nat) (m_gBytes : Nat) (m_gThere : Nat) (m_pTarget : Nat) (m_pBytes : Nat) (m_pLong : Nat) (m_pSize : Nat) (m_pSum : Nat) (m_peer : Nat) (m_answer : Nat) (p0 : Int32) (sz : Nat) : Met l y_Mo_page [Cond.code y_Mo_page b_Mo_page 4 (some .int)] ({ frames := 40, cells := 0, slots := 0, locals := 600 }) (ux_Pc [.ref h0, .int p0] (dC, dI) cls [(h0, .inr (12, [.ref m_row, .ref m_in, .ref m_out, .int 0, .int 0, .int 0, .int 0, .int 0, .ref m_kept, .ref m_keptSize, .ref m_nIp, .ref m_nHeard, .ref m_nHard, .int 0, .int 0, .ref m_gIp, .ref m_gNumber, .ref m_gProtocol, .ref m_gTold, .ref m_gBegun, .ref m_gOrder, .ref m_gBytes, .ref m_gThere, .int 0, .int 0, .ref m_pTarget, .ref m_pBytes, .ref m_pLong, .ref m_pSize, .ref m_pSum, .int 0, .ref m_peer, .int 0, .int 0, .int 0, .int 0, .ref m_answer, .int 0, .int 0]))] [] sz) (va_Qi (fun (r : Int32) (_ : Unit) => r = 0) (fun (_ : Unit) (t : State) => ux_B (dC, dI) cls (va_A [(h0, .inr (12, [.ref m_row, .ref m_in, .ref m_out, .int 0, .int 0, .int 0, .int 0, .int 0, .ref m_kept, .ref m_keptSize, .ref m_nIp, .ref m_nHeard, .ref m_nHard, .int 0, .int 0, .ref m_gIp, .ref m_gNumber, .ref m_gProtocol, .ref m_gTold, .ref m_gBegun, .ref m_gOrder, .ref m_gBytes, .ref m_gThere, .int 0, .int 0, .ref m_pTarget, .ref m_pBytes, .ref m_pLong, .ref m_pSize, .ref m_pSum, .int 0, .ref m_peer, .int 0, .int 0, .int 0, .int 0, .ref m_answer, .int 0, .int 0]))] sz) [(h0, .inr (12, [.ref m_row, .ref m_in, .ref m_out, .int 0, .int 1, .int 0, .int 0, .int 0, .ref m_kept, .ref m_keptSize, .ref m_nIp, .ref m_nHeard, .ref m_nHard, .int 0, .int 0, .ref m_gIp, .ref m_gNumber, .ref m_gProtocol, .ref m_gTold, .ref m_gBegun, .ref m_gOrder, .ref m_gBytes, .ref m_gThere, .int 0, .int 0, .ref m_pTarget, .ref m_pBytes, .ref m_pLong, .ref m_pSize, .ref m_pSum, .int 0, .ref m_peer, .int 0, .int 0, .int 0, .int 0, .ref m_answer, .int 0, .int 0]))] [] t) (va_A [(h0, .inr (12, [.ref m_row, .ref m_in, .ref m_out, .int 0, .int 0, .int 0, .int 0, .int 0, .ref m_kept, .ref m_keptSize, .ref m_nIp, .ref m_nHeard, .ref m_nHard, .int 0, .int 0, .ref m_gIp, .ref m_gNumber, .ref m_gProtocol, .ref m_gTold, .ref m_gBegun, .ref m_gOrder, .ref m_gBytes, .ref m_gThere, .int 0, .int 0, .ref m_pTarget, .ref m_pBytes, .ref m_pLong, .ref m_pSize, .ref m_pSum, .int 0, .ref m_peer, .int 0, .int 0, .int 0, .int 0, .ref m_answer, .int 0, .int 0]))] sz)) 0 0 (va_A [(h0, .inr (12, [.ref m_row, .ref m_in, .ref m_out, .int 0, .int 0, .int 0, .int 0, .int 0, .ref m_kept, .ref m_keptSize, .ref m_nIp, .ref m_nHeard, .ref m_nHard, .int 0, .int 0, .ref m_gIp, .ref m_gNumber, .ref m_gProtocol, .ref m_gTold, .ref m_gBegun, .ref m_gOrder, .ref m_gBytes, .ref m_gThere, .int 0, .int 0, .ref m_pTarget, .ref m_pBytes, .ref m_pLong, .ref m_pSize, .ref m_pSum, .int 0, .ref m_peer, .int 0, .int 0, .int 0, .int 0, .ref m_answer, .int 0, .int 0]))] sz) := by
  refine Met.ofW (cc := b_Mo_page) (maxL := 4) (ret := some .int) (by decide) rfl ?_
  intro p e s m args below meth c s₁ B hml hv
  obtain ⟨rfl, hsz, hP, hK, hD0, hT⟩ := hv
  have hx := B.exec
  have hb := B.bytes
  have hr := B.returns
  have hown : s.vm.findClass "UnikernelHttpModel" = some m.cls := findClass_of_methodNamed B.named
  have hlocks := B.notSynchronized
  subst hsz
  have hD := hD0.self (sz := s.heap.size)
  have hns := ux_ns hP
  generalize hAe : va_A [(h0, .inr (12, [.ref m_row, .ref m_in, .ref m_out, .int 0, .int 0, .int 0, .int 0, .int 0, .ref m_kept, .ref m_keptSize, .ref m_nIp, .ref m_nHeard, .ref m_nHard, .int 0, .int 0, .ref m_gIp, .ref m_gNumber, .ref m_gProtocol, .ref m_gTold, .ref m_gBegun, .ref m_gOrder, .ref m_gBytes, .ref m_gThere, .int 0, .int 0, .ref m_pTarget, .ref m_pBytes, .ref m_pLong, .ref m_pSize, .ref m_pSum, .int 0, .ref m_peer, .int 0, .int 0, .int 0, .int 0, .ref m_answer, .int 0, .int 0]))] s.heap.size = A at hD hns ⊢
  have hA : ∀ q : Nat, s.heap.size ≤ q → A q := fun q h => by rw [← hAe]; exact Or.inr h
  have hS : va_S A s.heap s.heap [] := va_S.rf
  have hl := lv_entry ([.ref h0, .int p0]) (n := 4) (Nat.le_of_ble_eq_true rfl)
  rw [lg_entry_eq]
  generalize (lg_sl ([.ref h0, .int p0]) ++ List.replicate (4 - (lg_sl ([.ref h0, .int p0])).length) Slot.unset).toArray = ls at hl ⊢
  have hl : lv_has ls 4 [(0, .ref h0), (1, .int p0)] := hl
  have hfx : CallFix p m c b_Mo_page 4 s ([.ref h0, .int p0] : List Value).toArray [] "UnikernelHttpModel" := ⟨hx, hb, hml, hown, fun _ h => by cases h⟩
  refine lv_iload_n hx hb d_Mo_page_0 rfl (lv_at hl 1 rfl) ?_
  refine lv_iconst (v := 1) hx hb d_Mo_page_1 (by decide) ?_
  refine lv_icmp_lt (tgt := 46) hx hb d_Mo_page_2 (by decide) (fun hc1 => ?_) (fun hc1 => ?_)
  · refine lv_iconst (v := 0) hx hb d_Mo_page_46 (by decide) ?_
    refine lv_istore_n hx hb d_Mo_page_47 rfl hl (by decide) rfl (fun ls hl => ?_)
    have hl : lv_has ls 4 [(2, .int 0), (0, .ref h0), (1, .int p0)] := hl
    refine lv_iconst (v := 0) hx hb d_Mo_page_48 (by decide) ?_
    refine lv_istore_n hx hb d_Mo_page_49 rfl hl (by decide) rfl (fun ls hl => ?_)
    have hl : lv_has ls 4 [(3, .int 0), (2, .int 0), (0, .ref h0), (1, .int p0)] := hl
    refine lv_iload_n hx hb d_Mo_page_50 rfl (lv_at hl 0 rfl) ?_
    refine lv_iload_n hx hb d_Mo_page_51 rfl (lv_at hl 3 rfl) ?_
    refine lv_icmp_ge (tgt := 93) hx hb d_Mo_page_52 (by decide) (fun _ => ?_) (fun hc2 => by exfalso; simp only [Int32.lt_iff_toInt_lt, Int32.le_iff_toInt_le, ← Int32.toInt_inj, ux_l0, ux_l1] at hc2 hc1; omega)
    refine lv_iload_n hx hb d_Mo_page_93 rfl (lv_at hl 1 rfl) ?_
    refine lv_if_eq (tgt := 110) hx hb d_Mo_page_94 (by decide) (fun _ => ?_) (fun hc => absurd (by decide) hc)
    refine lv_iconst (v := (-1)) hx hb d_Mo_page_110 (by decide) ?_
    refine lv_istore_n hx hb d_Mo_page_111 rfl hl (by decide) rfl (fun ls hl => ?_)
    have hl : lv_has ls 4 [(3, .int (-1)), (2, .int 0), (0, .ref h0), (1, .int p0)] := hl
    refine lv_aload_n hx hb d_Mo_page_112 rfl (lv_at hl 2 rfl) ?_
    refine lv_iload_n hx hb d_Mo_page_113 rfl (lv_at hl 1 rfl) ?_
    refine lv_if_ne (tgt := 121) hx hb d_Mo_page_114 (by decide) (fun hc => absurd (by decide) hc) (fun _ => ?_)
    refine lv_iconst (v := 1) hx hb d_Mo_page_117 (by decide) ?_
    refine lv_goto hx hb d_Mo_page_118 (tgt := 139) (by decide) ?_
    refine va_put (D := (dC, dI)) (ci := 12) (v := .int 1) (ty := .int) (C := R_Mo) (T := F_Mo) (N := 39) hx hb (u_Mo hT) (fun _ h => h) t_Mo k_Mo n_Mo hown hK hP hD hS 0 rfl rfl 4 (by decide) (ux_T_at hT tw_1598 rfl) (fun _ h9 => h9) rfl (by decide +kernel) rfl rfl (Nat.le_of_ble_eq_true rfl) d_Mo_page_139 (fun H locs hP hD hS => ?_)
    have hP : va_P (dC, dI) cls [(h0, .inr (12, [.ref m_row, .ref m_in, .ref m_out, .int 0, .int 1, .int 0, .int 0, .int 0, .ref m_kept, .ref m_keptSize, .ref m_nIp, .ref m_nHeard, .ref m_nHard, .int 0, .int 0, .ref m_gIp, .ref m_gNumber, .ref m_gProtocol, .ref m_gTold, .ref m_gBegun, .ref m_gOrder, .ref m_gBytes, .ref m_gThere, .int 0, .int 0, .ref m_pTarget, .ref m_pBytes, .ref m_pLong, .ref m_pSize, .ref m_pSum, .int 0, .ref m_peer, .int 0, .int 0, .int 0, .int 0, .ref m_answer, .int 0, .int 0]))] H := hP
    have hD : va_D A [(h0, .inr (12, [.ref m_row, .ref m_in, .ref m_out, .int 0, .int 1, .int 0, .int 0, .int 0, .ref m_kept, .ref m_keptSize, .ref m_nIp, .ref m_nHeard, .ref m_nHard, .int 0, .int 0, .ref m_gIp, .ref m_gNumber, .ref m_gProtocol, .ref m_gTold, .ref m_gBegun, .ref m_gOrder, .ref m_gBytes, .ref m_gThere, .int 0, .int 0, .ref m_pTarget, .ref m_pBytes, .ref m_pLong, .ref m_pSize, .ref m_pSum, .int 0, .ref m_peer, .int 0, .int 0, .int 0, .int 0, .ref m_answer, .int 0, .int 0]))] := hD
    refine lv_aload_n hx hb d_Mo_page_142 rfl (lv_at hl 2 rfl) ?_
    refine va_get (D := (dC, dI)) (ci := 12) (v := .int 1) (C := R_Mo) (T := F_Mo) (N := 39) hx hb (u_Mo hT) (fun _ h => h) hown hK hP 0 rfl rfl 4 (by decide) (ux_T_at hT tw_1598 rfl) (fun _ h9 => h9) rfl d_Mo_page_143 ?_
    refine lv_if_le (tgt := 151) hx hb d_Mo_page_146 (by decide) (fun hc => absurd hc (by decide)) (fun _ => ?_)
    refine lv_iconst (v := 0) hx hb d_Mo_page_149 (by decide) ?_
    have hP9 := hP.sub (ws' := [(h0, .inr (12, [.ref m_row, .ref m_in, .ref m_out, .int 0, .int 1, .int 0, .int 0, .int 0, .ref m_kept, .ref m_keptSize, .ref m_nIp, .ref m_nHeard, .ref m_nHard, .int 0, .int 0, .ref m_gIp, .ref m_gNumber, .ref m_gProtocol, .ref m_gTold, .ref m_gBegun, .ref m_gOrder, .ref m_gBytes, .ref m_gThere, .int 0, .int 0, .ref m_pTarget, .ref m_pBytes, .ref m_pLong, .ref m_pSize, .ref m_pSum, .int 0, .ref m_peer, .int 0, .int 0, .int 0, .int 0, .ref m_answer, .int 0, .int 0]))]) [0] rfl
    have hD9 := hD.sub (ws' := [(h0, .inr (12, [.ref m_row, .ref m_in, .ref m_out, .int 0, .int 1, .int 0, .int 0, .int 0, .ref m_kept, .ref m_keptSize, .ref m_nIp, .ref m_nHeard, .ref m_nHard, .int 0, .int 0, .ref m_gIp, .ref m_gNumber, .ref m_gProtocol, .ref m_gTold, .ref m_gBegun, .ref m_gOrder, .ref m_gBytes, .ref m_gThere, .int 0, .int 0, .ref m_pTarget, .ref m_pBytes, .ref m_pLong, .ref m_pSize, .ref m_pSum, .int 0, .ref m_peer, .int 0, .int 0, .int 0, .int 0, .ref m_answer, .int 0, .int 0]))]) [0] (by decide) rfl
    have hK9 := hK.sub (tys' := []) [] rfl
    refine W.widen (k := 0) (n := 0) (Nat.le_of_ble_eq_true rfl) (Nat.le_of_ble_eq_true rfl) ?_
    exact W.iret (v := 0) hx hb hr (fun t ht hW => ⟨⟨_, (), rfl, rfl, by rw [ht]; exact hP9, va_K.moved hW.alike hK9, hD9⟩, hS.F ht⟩) hS.2.2 d_Mo_page_150
  · refine lv_iload_n hx hb d_Mo_page_5 rfl (lv_at hl 1 rfl) ?_
    refine lv_bipush (v := 64) hx hb d_Mo_page_6 (by decide) ?_
    refine lv_icmp_gt (tgt := 46) hx hb d_Mo_page_8 (by decide) (fun hc3 => ?_) (fun hc3 => ?_)
    · refine lv_iconst (v := 0) hx hb d_Mo_page_46 (by decide) ?_
      refine lv_istore_n hx hb d_Mo_page_47 rfl hl (by decide) rfl (fun ls hl => ?_)
      have hl : lv_has ls 4 [(2, .int 0), (0, .ref h0), (1, .int p0)] := hl
      refine lv_iconst (v := 0) hx hb d_Mo_page_48 (by decide) ?_
      refine lv_istore_n hx hb d_Mo_page_49 rfl hl (by decide) rfl (fun ls hl => ?_)
      have hl : lv_has ls 4 [(3, .int 0), (2, .int 0), (0, .ref h0), (1, .int p0)] := hl
      refine lv_iload_n hx hb d_Mo_page_50 rfl (lv_at hl 0 rfl) ?_
      refine lv_iload_n hx hb d_Mo_page_51 rfl (lv_at hl 3 rfl) ?_
      refine lv_icmp_ge (tgt := 93) hx hb d_Mo_page_52 (by decide) (fun hc4 => by exfalso; simp only [Int32.lt_iff_toInt_lt, Int32.le_iff_toInt_le, ← Int32.toInt_inj, ux_l0, ux_l1, ux_l64] at hc4 hc1 hc3; omega) (fun _ => ?_)
      refine lv_iload_n hx hb d_Mo_page_55 rfl (lv_at hl 1 rfl) ?_
      refine lv_if_eq (tgt := 93) hx hb d_Mo_page_56 (by decide) (fun _ => ?_) (fun hc => absurd (by decide) hc)
      refine lv_iload_n hx hb d_Mo_page_93 rfl (lv_at hl 1 rfl) ?_
      refine lv_if_eq (tgt := 110) hx hb d_Mo_page_94 (by decide) (fun _ => ?_) (fun hc => absurd (by decide) hc)
      refine lv_iconst (v := (-1)) hx hb d_Mo_page_110 (by decide) ?_
      refine lv_istore_n hx hb d_Mo_page_111 rfl hl (by decide) rfl (fun ls hl => ?_)
      have hl : lv_has ls 4 [(3, .int (-1)), (2, .int 0), (0, .ref h0), (1, .int p0)] := hl
      refine lv_aload_n hx hb d_Mo_page_112 rfl (lv_at hl 2 rfl) ?_
      refine lv_iload_n hx hb d_Mo_page_113 rfl (lv_at hl 1 rfl) ?_
      refine lv_if_ne (tgt := 121) hx hb d_Mo_page_114 (by decide) (fun hc => absurd (by decide) hc) (fun _ => ?_)
      refine lv_iconst (v := 1) hx hb d_Mo_page_117 (by decide) ?_
      refine lv_goto hx hb d_Mo_page_118 (tgt := 139) (by decide) ?_
      refine va_put (D := (dC, dI)) (ci := 12) (v := .int 1) (ty := .int) (C := R_Mo) (T := F_Mo) (N := 39) hx hb (u_Mo hT) (fun _ h => h) t_Mo k_Mo n_Mo hown hK hP hD hS 0 rfl rfl 4 (by decide) (ux_T_at hT tw_1598 rfl) (fun _ h9 => h9) rfl (by decide +kernel) rfl rfl (Nat.le_of_ble_eq_true rfl) d_Mo_page_139 (fun H locs hP hD hS => ?_)
      have hP : va_P (dC, dI) cls [(h0, .inr (12, [.ref m_row, .ref m_in, .ref m_out, .int 0, .int 1, .int 0, .int 0, .int 0, .ref m_kept, .ref m_keptSize, .ref m_nIp, .ref m_nHeard, .ref m_nHard, .int 0, .int 0, .ref m_gIp, .ref m_gNumber, .ref m_gProtocol, .ref m_gTold, .ref m_gBegun, .ref m_gOrder, .ref m_gBytes, .ref m_gThere, .int 0, .int 0, .ref m_pTarget, .ref m_pBytes, .ref m_pLong, .ref m_pSize, .ref m_pSum, .int 0, .ref m_peer, .int 0, .int 0, .int 0, .int 0, .ref m_answer, .int 0, .int 0]))] H := hP
      have hD : va_D A [(h0, .inr (12, [.ref m_row, .ref m_in, .ref m_out, .int 0, .int 1, .int 0, .int 0, .int 0, .ref m_kept, .ref m_keptSize, .ref m_nIp, .ref m_nHeard, .ref m_nHard, .int 0, .int 0, .ref m_gIp, .ref m_gNumber, .ref m_gProtocol, .ref m_gTold, .ref m_gBegun, .ref m_gOrder, .ref m_gBytes, .ref m_gThere, .int 0, .int 0, .ref m_pTarget, .ref m_pBytes, .ref m_pLong, .ref m_pSize, .ref m_pSum, .int 0, .ref m_peer, .int 0, .int 0, .int 0, .int 0, .ref m_answer, .int 0, .int 0]))] := hD
      refine lv_aload_n hx hb d_Mo_page_142 rfl (lv_at hl 2 rfl) ?_
      refine va_get (D := (dC, dI)) (ci := 12) (v := .int 1) (C := R_Mo) (T := F_Mo) (N := 39) hx hb (u_Mo hT) (fun _ h => h) hown hK hP 0 rfl rfl 4 (by decide) (ux_T_at hT tw_1598 rfl) (fun _ h9 => h9) rfl d_Mo_page_143 ?_
      refine lv_if_le (tgt := 151) hx hb d_Mo_page_146 (by decide) (fun hc => absurd hc (by decide)) (fun _ => ?_)
      refine lv_iconst (v := 0) hx hb d_Mo_page_149 (by decide) ?_
      have hP9 := hP.sub (ws' := [(h0, .inr (12, [.ref m_row, .ref m_in, .ref m_out, .int 0, .int 1, .int 0, .int 0, .int 0, .ref m_kept, .ref m_keptSize, .ref m_nIp, .ref m_nHeard, .ref m_nHard, .int 0, .int 0, .ref m_gIp, .ref m_gNumber, .ref m_gProtocol, .ref m_gTold, .ref m_gBegun, .ref m_gOrder, .ref m_gBytes, .ref m_gThere, .int 0, .int 0, .ref m_pTarget, .ref m_pBytes, .ref m_pLong, .ref m_pSize, .ref m_pSum, .int 0, .ref m_peer, .int 0, .int 0, .int 0, .int 0, .ref m_answer, .int 0, .int 0]))]) [0] rfl
      have hD9 := hD.sub (ws' := [(h0, .inr (12, [.ref m_row, .ref m_in, .ref m_out, .int 0, .int 1, .int 0, .int 0, .int 0, .ref m_kept, .ref m_keptSize, .ref m_nIp, .ref m_nHeard, .ref m_nHard, .int 0, .int 0, .ref m_gIp, .ref m_gNumber, .ref m_gProtocol, .ref m_gTold, .ref m_gBegun, .ref m_gOrder, .ref m_gBytes, .ref m_gThere, .int 0, .int 0, .ref m_pTarget, .ref m_pBytes, .ref m_pLong, .ref m_pSize, .ref m_pSum, .int 0, .ref m_peer, .int 0, .int 0, .int 0, .int 0, .ref m_answer, .int 0, .int 0]))]) [0] (by decide) rfl
      have hK9 := hK.sub (tys' := []) [] rfl
      refine W.widen (k := 0) (n := 0) (Nat.le_of_ble_eq_true rfl) (Nat.le_of_ble_eq_true rfl) ?_
      exact W.iret (v := 0) hx hb hr (fun t ht hW => ⟨⟨_, (), rfl, rfl, by rw [ht]; exact hP9, va_K.moved hW.alike hK9, hD9⟩, hS.F ht⟩) hS.2.2 d_Mo_page_150
    · refine lv_aload_n hx hb d_Mo_page_11 rfl (lv_at hl 0 rfl) ?_
      refine va_get (D := (dC, dI)) (ci := 12) (v := .int 0) (C := R_Mo) (T := F_Mo) (N := 39) hx hb (u_Mo hT) (fun _ h => h) hown hK hP 0 rfl rfl 3 (by decide) (ux_T_at hT tw_1597 rfl) (fun _ h9 => h9) rfl d_Mo_page_12 ?_
      refine lv_iload_n hx hb d_Mo_page_15 rfl (lv_at hl 1 rfl) ?_
      refine lv_icmp_lt (tgt := 46) hx hb d_Mo_page_16 (by decide) (fun _ => ?_) (fun hc5 => by exfalso; simp only [Int32.lt_iff_toInt_lt, Int32.le_iff_toInt_le, ← Int32.toInt_inj, ux_l0, ux_l1, ux_l64] at hc5 hc1 hc3; omega)
      refine lv_iconst (v := 0) hx hb d_Mo_page_46 (by decide) ?_
      refine lv_istore_n hx hb d_Mo_page_47 rfl hl (by decide) rfl (fun ls hl => ?_)
      have hl : lv_has ls 4 [(2, .int 0), (0, .ref h0), (1, .int p0)] := hl
      refine lv_iconst (v := 0) hx hb d_Mo_page_48 (by decide) ?_
      refine lv_istore_n hx hb d_Mo_page_49 rfl hl (by decide) rfl (fun ls hl => ?_)
      have hl : lv_has ls 4 [(3, .int 0), (2, .int 0), (0, .ref h0), (1, .int p0)] := hl
      refine lv_iload_n hx hb d_Mo_page_50 rfl (lv_at hl 0 rfl) ?_
      refine lv_iload_n hx hb d_Mo_page_51 rfl (lv_at hl 3 rfl) ?_
      refine lv_icmp_ge (tgt := 93) hx hb d_Mo_page_52 (by decide) (fun hc6 => by exfalso; simp only [Int32.lt_iff_toInt_lt, Int32.le_iff_toInt_le, ← Int32.toInt_inj, ux_l0, ux_l1, ux_l64] at hc6 hc1 hc3; omega) (fun _ => ?_)
      refine lv_iload_n hx hb d_Mo_page_55 rfl (lv_at hl 1 rfl) ?_
      refine lv_if_eq (tgt := 93) hx hb d_Mo_page_56 (by decide) (fun _ => ?_) (fun hc => absurd (by decide) hc)
      refine lv_iload_n hx hb d_Mo_page_93 rfl (lv_at hl 1 rfl) ?_
      refine lv_if_eq (tgt := 110) hx hb d_Mo_page_94 (by decide) (fun _ => ?_) (fun hc => absurd (by decide) hc)
      refine lv_iconst (v := (-1)) hx hb d_Mo_page_110 (by decide) ?_
      refine lv_istore_n hx hb d_Mo_page_111 rfl hl (by decide) rfl (fun ls hl => ?_)
      have hl : lv_has ls 4 [(3, .int (-1)), (2, .int 0), (0, .ref h0), (1, .int p0)] := hl
      refine lv_aload_n hx hb d_Mo_page_112 rfl (lv_at hl 2 rfl) ?_
      refine lv_iload_n hx hb d_Mo_page_113 rfl (lv_at hl 1 rfl) ?_
      refine lv_if_ne (tgt := 121) hx hb d_Mo_page_114 (by decide) (fun hc => absurd (by decide) hc) (fun _ => ?_)
      refine lv_iconst (v := 1) hx hb d_Mo_page_117 (by decide) ?_
      refine lv_goto hx hb d_Mo_page_118 (tgt := 139) (by decide) ?_
      refine va_put (D := (dC, dI)) (ci := 12) (v := .int 1) (ty := .int) (C := R_Mo) (T := F_Mo) (N := 39) hx hb (u_Mo hT) (fun _ h => h) t_Mo k_Mo n_Mo hown hK hP hD hS 0 rfl rfl 4 (by decide) (ux_T_at hT tw_1598 rfl) (fun _ h9 => h9) rfl (by decide +kernel) rfl rfl (Nat.le_of_ble_eq_true rfl) d_Mo_page_139 (fun H locs hP hD hS => ?_)
      have hP : va_P (dC, dI) cls [(h0, .inr (12, [.ref m_row, .ref m_in, .ref m_out, .int 0, .int 1, .int 0, .int 0, .int 0, .ref m_kept, .ref m_keptSize, .ref m_nIp, .ref m_nHeard, .ref m_nHard, .int 0, .int 0, .ref m_gIp, .ref m_gNumber, .ref m_gProtocol, .ref m_gTold, .ref m_gBegun, .ref m_gOrder, .ref m_gBytes, .ref m_gThere, .int 0, .int 0, .ref m_pTarget, .ref m_pBytes, .ref m_pLong, .ref m_pSize, .ref m_pSum, .int 0, .ref m_peer, .int 0, .int 0, .int 0, .int 0, .ref m_answer, .int 0, .int 0]))] H := hP
      have hD : va_D A [(h0, .inr (12, [.ref m_row, .ref m_in, .ref m_out, .int 0, .int 1, .int 0, .int 0, .int 0, .ref m_kept, .ref m_keptSize, .ref m_nIp, .ref m_nHeard, .ref m_nHard, .int 0, .int 0, .ref m_gIp, .ref m_gNumber, .ref m_gProtocol, .ref m_gTold, .ref m_gBegun, .ref m_gOrder, .ref m_gBytes, .ref m_gThere, .int 0, .int 0, .ref m_pTarget, .ref m_pBytes, .ref m_pLong, .ref m_pSize, .ref m_pSum, .int 0, .ref m_peer, .int 0, .int 0, .int 0, .int 0, .ref m_answer, .int 0, .int 0]))] := hD
      refine lv_aload_n hx hb d_Mo_page_142 rfl (lv_at hl 2 rfl) ?_
      refine va_get (D := (dC, dI)) (ci := 12) (v := .int 1) (C := R_Mo) (T := F_Mo) (N := 39) hx hb (u_Mo hT) (fun _ h => h) hown hK hP 0 rfl rfl 4 (by decide) (ux_T_at hT tw_1598 rfl) (fun _ h9 => h9) rfl d_Mo_page_143 ?_
      refine lv_if_le (tgt := 151) hx hb d_Mo_page_146 (by decide) (fun hc => absurd hc (by decide)) (fun _ => ?_)
      refine lv_iconst (v := 0) hx hb d_Mo_page_149 (by decide) ?_
      have hP9 := hP.sub (ws' := [(h0, .inr (12, [.ref m_row, .ref m_in, .ref m_out, .int 0, .int 1, .int 0, .int 0, .int 0, .ref m_kept, .ref m_keptSize, .ref m_nIp, .ref m_nHeard, .ref m_nHard, .int 0, .int 0, .ref m_gIp, .ref m_gNumber, .ref m_gProtocol, .ref m_gTold, .ref m_gBegun, .ref m_gOrder, .ref m_gBytes, .ref m_gThere, .int 0, .int 0, .ref m_pTarget, .ref m_pBytes, .ref m_pLong, .ref m_pSize, .ref m_pSum, .int 0, .ref m_peer, .int 0, .int 0, .int 0, .int 0, .ref m_answer, .int 0, .int 0]))]) [0] rfl
      have hD9 := hD.sub (ws' := [(h0, .inr (12, [.ref m_row, .ref m_in, .ref m_out, .int 0, .int 1, .int 0, .int 0, .int 0, .ref m_kept, .ref m_keptSize, .ref m_nIp, .ref m_nHeard, .ref m_nHard, .int 0, .int 0, .ref m_gIp, .ref m_gNumber, .ref m_gProtocol, .ref m_gTold, .ref m_gBegun, .ref m_gOrder, .ref m_gBytes, .ref m_gThere, .int 0, .int 0, .ref m_pTarget, .ref m_pBytes, .ref m_pLong, .ref m_pSize, .ref m_pSum, .int 0, .ref m_peer, .int 0, .int 0, .int 0, .int 0, .ref m_answer, .int 0, .int 0]))]) [0] (by decide) rfl
      have hK9 := hK.sub (tys' := []) [] rfl
      refine W.widen (k := 0) (n := 0) (Nat.le_of_ble_eq_true rfl) (Nat.le_of_ble_eq_true rfl) ?_
      exact W.iret (v := 0) hx hb hr (fun t ht hW => ⟨⟨_, (), rfl, rfl, by rw [ht]; exact hP9, va_K.moved hW.alike hK9, hD9⟩, hS.F ht⟩) hS.2.2 d_Mo_page_150
set_option maxHeartbeats 4000000 in
set_option maxRecDepth 100000 in
theorem c_Mo_damage (l : Launch) (dC : Nat → ClassId) (dI : Nat → Nat → Nat) (h0 : Nat) (m_row : Nat) (m_in : Nat) (m_out : Nat) (m_kept : Nat) (m_keptSize : Nat) (m_nIp : Nat) (m_nHeard : Nat) (m_nHard : Nat) (m_gIp : Nat) (m_gNumber : Nat) (m_gProtocol : Nat) (m_gTold : Nat) (m_gBegun : Nat) (m_gOrder : Nat) (m_gBytes : Nat) (m_gThere : Nat) (m_pTarget : Nat) (m_pBytes : Nat) (m_pLong : Nat) (m_pSize : Nat) (m_pSum : Nat) (m_peer : Nat) (m_answer : Nat) (p0 : Int32) (p1 : Int32) (p2 : Int32) (sz : Nat) : Met l y_Mo_damage [Cond.code y_Mo_damage b_Mo_damage 4 (some .int)] ({ frames := 40, cells := 0, slots := 0, locals := 600 }) (ux_Pc [.ref h0, .int p0, .int p1, .int p2] (dC, dI) cls [(h0, .inr (12, [.ref m_row, .ref m_in, .ref m_out, .int 0, .int 0, .int 0, .int 0, .int 0, .ref m_kept, .ref m_keptSize, .ref m_nIp, .ref m_nHeard, .ref m_nHard, .int 0, .int 0, .ref m_gIp, .ref m_gNumber, .ref m_gProtocol, .ref m_gTold, .ref m_gBegun, .ref m_gOrder, .ref m_gBytes, .ref m_gThere, .int 0, .int 0, .ref m_pTarget, .ref m_pBytes, .ref m_pLong, .ref m_pSize, .ref m_pSum, .int 0, .ref m_peer, .int 0, .int 0, .int 0, .int 0, .ref m_answer, .int 0, .int 0]))] [] sz) (va_Qi (fun (r : Int32) (_ : Unit) => r = 0) (fun (_ : Unit) (t : State) => ux_B (dC, dI) cls (va_A [(h0, .inr (12, [.ref m_row, .ref m_in, .ref m_out, .int 0, .int 0, .int 0, .int 0, .int 0, .ref m_kept, .ref m_keptSize, .ref m_nIp, .ref m_nHeard, .ref m_nHard, .int 0, .int 0, .ref m_gIp, .ref m_gNumber, .ref m_gProtocol, .ref m_gTold, .ref m_gBegun, .ref m_gOrder, .ref m_gBytes, .ref m_gThere, .int 0, .int 0, .ref m_pTarget, .ref m_pBytes, .ref m_pLong, .ref m_pSize, .ref m_pSum, .int 0, .ref m_peer, .int 0, .int 0, .int 0, .int 0, .ref m_answer, .int 0, .int 0]))] sz) [(h0, .inr (12, [.ref m_row, .ref m_in, .ref m_out, .int 0, .int 1, .int 0, .int 0, .int 0, .ref m_kept, .ref m_keptSize, .ref m_nIp, .ref m_nHeard, .ref m_nHard, .int 0, .int 0, .ref m_gIp, .ref m_gNumber, .ref m_gProtocol, .ref m_gTold, .ref m_gBegun, .ref m_gOrder, .ref m_gBytes, .ref m_gThere, .int 0, .int 0, .ref m_pTarget, .ref m_pBytes, .ref m_pLong, .ref m_pSize, .ref m_pSum, .int 0, .ref m_peer, .int 0, .int 0, .int 0, .int 0, .ref m_answer, .int 0, .int 0]))] [] t) (va_A [(h0, .inr (12, [.ref m_row, .ref m_in, .ref m_out, .int 0, .int 0, .int 0, .int 0, .int 0, .ref m_kept, .ref m_keptSize, .ref m_nIp, .ref m_nHeard, .ref m_nHard, .int 0, .int 0, .ref m_gIp, .ref m_gNumber, .ref m_gProtocol, .ref m_gTold, .ref m_gBegun, .ref m_gOrder, .ref m_gBytes, .ref m_gThere, .int 0, .int 0, .ref m_pTarget, .ref m_pBytes, .ref m_pLong, .ref m_pSize, .ref m_pSum, .int 0, .ref m_peer, .int 0, .int 0, .int 0, .int 0, .ref m_answer, .int 0, .int 0]))] sz)) 0 0 (va_A [(h0, .inr (12, [.ref m_row, .ref m_in, .ref m_out, .int 0, .int 0, .int 0, .int 0, .int 0, .ref m_kept, .ref m_keptSize, .ref m_nIp, .ref m_nHeard, .ref m_nHard, .int 0, .int 0, .ref m_gIp, .ref m_gNumber, .ref m_gProtocol, .ref m_gTold, .ref m_gBegun, .ref m_gOrder, .ref m_gBytes, .ref m_gThere, .int 0, .int 0, .ref m_pTarget, .ref m_pBytes, .ref m_pLong, .ref m_pSize, .ref m_pSum, .int 0, .ref m_peer, .int 0, .int 0, .int 0, .int 0, .ref m_answer, .int 0, .int 0]))] sz) := by
  refine Met.ofW (cc := b_Mo_damage) (maxL := 4) (ret := some .int) (by decide) rfl ?_
  intro p e s m args below meth c s₁ B hml hv
  obtain ⟨rfl, hsz, hP, hK, hD0, hT⟩ := hv
  have hx := B.exec
  have hb := B.bytes
  have hr := B.returns
  have hown : s.vm.findClass "UnikernelHttpModel" = some m.cls := findClass_of_methodNamed B.named
  have hlocks := B.notSynchronized
  subst hsz
  have hD := hD0.self (sz := s.heap.size)
  have hns := ux_ns hP
  generalize hAe : va_A [(h0, .inr (12, [.ref m_row, .ref m_in, .ref m_out, .int 0, .int 0, .int 0, .int 0, .int 0, .ref m_kept, .ref m_keptSize, .ref m_nIp, .ref m_nHeard, .ref m_nHard, .int 0, .int 0, .ref m_gIp, .ref m_gNumber, .ref m_gProtocol, .ref m_gTold, .ref m_gBegun, .ref m_gOrder, .ref m_gBytes, .ref m_gThere, .int 0, .int 0, .ref m_pTarget, .ref m_pBytes, .ref m_pLong, .ref m_pSize, .ref m_pSum, .int 0, .ref m_peer, .int 0, .int 0, .int 0, .int 0, .ref m_answer, .int 0, .int 0]))] s.heap.size = A at hD hns ⊢
  have hA : ∀ q : Nat, s.heap.size ≤ q → A q := fun q h => by rw [← hAe]; exact Or.inr h
  have hS : va_S A s.heap s.heap [] := va_S.rf
  have hl := lv_entry ([.ref h0, .int p0, .int p1, .int p2]) (n := 4) (Nat.le_of_ble_eq_true rfl)
  rw [lg_entry_eq]
  generalize (lg_sl ([.ref h0, .int p0, .int p1, .int p2]) ++ List.replicate (4 - (lg_sl ([.ref h0, .int p0, .int p1, .int p2])).length) Slot.unset).toArray = ls at hl ⊢
  have hl : lv_has ls 4 [(0, .ref h0), (1, .int p0), (2, .int p1), (3, .int p2)] := hl
  have hfx : CallFix p m c b_Mo_damage 4 s ([.ref h0, .int p0, .int p1, .int p2] : List Value).toArray [] "UnikernelHttpModel" := ⟨hx, hb, hml, hown, fun _ h => by cases h⟩
  refine lv_aload_n hx hb d_Mo_damage_0 rfl (lv_at hl 0 rfl) ?_
  refine lv_iload_n hx hb d_Mo_damage_1 rfl (lv_at hl 1 rfl) ?_
  refine lv_if_lt (tgt := 27) hx hb d_Mo_damage_2 (by decide) (fun hc1 => ?_) (fun hc1 => ?_)
  · refine lv_iconst (v := 1) hx hb d_Mo_damage_27 (by decide) ?_
    refine lv_goto hx hb d_Mo_damage_28 (tgt := 32) (by decide) ?_
    refine va_put (D := (dC, dI)) (ci := 12) (v := .int 1) (ty := .int) (C := R_Mo) (T := F_Mo) (N := 39) hx hb (u_Mo hT) (fun _ h => h) t_Mo k_Mo n_Mo hown hK hP hD hS 0 rfl rfl 4 (by decide) (ux_T_at hT tw_1598 rfl) (fun _ h9 => h9) rfl (by decide +kernel) rfl rfl (Nat.le_of_ble_eq_true rfl) d_Mo_damage_32 (fun H locs hP hD hS => ?_)
    have hP : va_P (dC, dI) cls [(h0, .inr (12, [.ref m_row, .ref m_in, .ref m_out, .int 0, .int 1, .int 0, .int 0, .int 0, .ref m_kept, .ref m_keptSize, .ref m_nIp, .ref m_nHeard, .ref m_nHard, .int 0, .int 0, .ref m_gIp, .ref m_gNumber, .ref m_gProtocol, .ref m_gTold, .ref m_gBegun, .ref m_gOrder, .ref m_gBytes, .ref m_gThere, .int 0, .int 0, .ref m_pTarget, .ref m_pBytes, .ref m_pLong, .ref m_pSize, .ref m_pSum, .int 0, .ref m_peer, .int 0, .int 0, .int 0, .int 0, .ref m_answer, .int 0, .int 0]))] H := hP
    have hD : va_D A [(h0, .inr (12, [.ref m_row, .ref m_in, .ref m_out, .int 0, .int 1, .int 0, .int 0, .int 0, .ref m_kept, .ref m_keptSize, .ref m_nIp, .ref m_nHeard, .ref m_nHard, .int 0, .int 0, .ref m_gIp, .ref m_gNumber, .ref m_gProtocol, .ref m_gTold, .ref m_gBegun, .ref m_gOrder, .ref m_gBytes, .ref m_gThere, .int 0, .int 0, .ref m_pTarget, .ref m_pBytes, .ref m_pLong, .ref m_pSize, .ref m_pSum, .int 0, .ref m_peer, .int 0, .int 0, .int 0, .int 0, .ref m_answer, .int 0, .int 0]))] := hD
    refine lv_aload_n hx hb d_Mo_damage_35 rfl (lv_at hl 0 rfl) ?_
    refine va_get (D := (dC, dI)) (ci := 12) (v := .int 1) (C := R_Mo) (T := F_Mo) (N := 39) hx hb (u_Mo hT) (fun _ h => h) hown hK hP 0 rfl rfl 4 (by decide) (ux_T_at hT tw_1598 rfl) (fun _ h9 => h9) rfl d_Mo_damage_36 ?_
    refine lv_if_le (tgt := 44) hx hb d_Mo_damage_39 (by decide) (fun hc => absurd hc (by decide)) (fun _ => ?_)
    refine lv_iconst (v := 0) hx hb d_Mo_damage_42 (by decide) ?_
    have hP9 := hP.sub (ws' := [(h0, .inr (12, [.ref m_row, .ref m_in, .ref m_out, .int 0, .int 1, .int 0, .int 0, .int 0, .ref m_kept, .ref m_keptSize, .ref m_nIp, .ref m_nHeard, .ref m_nHard, .int 0, .int 0, .ref m_gIp, .ref m_gNumber, .ref m_gProtocol, .ref m_gTold, .ref m_gBegun, .ref m_gOrder, .ref m_gBytes, .ref m_gThere, .int 0, .int 0, .ref m_pTarget, .ref m_pBytes, .ref m_pLong, .ref m_pSize, .ref m_pSum, .int 0, .ref m_peer, .int 0, .int 0, .int 0, .int 0, .ref m_answer, .int 0, .int 0]))]) [0] rfl
    have hD9 := hD.sub (ws' := [(h0, .inr (12, [.ref m_row, .ref m_in, .ref m_out, .int 0, .int 1, .int 0, .int 0, .int 0, .ref m_kept, .ref m_keptSize, .ref m_nIp, .ref m_nHeard, .ref m_nHard, .int 0, .int 0, .ref m_gIp, .ref m_gNumber, .ref m_gProtocol, .ref m_gTold, .ref m_gBegun, .ref m_gOrder, .ref m_gBytes, .ref m_gThere, .int 0, .int 0, .ref m_pTarget, .ref m_pBytes, .ref m_pLong, .ref m_pSize, .ref m_pSum, .int 0, .ref m_peer, .int 0, .int 0, .int 0, .int 0, .ref m_answer, .int 0, .int 0]))]) [0] (by decide) rfl
    have hK9 := hK.sub (tys' := []) [] rfl
    refine W.widen (k := 0) (n := 0) (Nat.le_of_ble_eq_true rfl) (Nat.le_of_ble_eq_true rfl) ?_
    exact W.iret (v := 0) hx hb hr (fun t ht hW => ⟨⟨_, (), rfl, rfl, by rw [ht]; exact hP9, va_K.moved hW.alike hK9, hD9⟩, hS.F ht⟩) hS.2.2 d_Mo_damage_43
  · refine lv_iload_n hx hb d_Mo_damage_5 rfl (lv_at hl 1 rfl) ?_
    refine lv_aload_n hx hb d_Mo_damage_6 rfl (lv_at hl 0 rfl) ?_
    refine va_get (D := (dC, dI)) (ci := 12) (v := .int 0) (C := R_Mo) (T := F_Mo) (N := 39) hx hb (u_Mo hT) (fun _ h => h) hown hK hP 0 rfl rfl 30 (by decide) (ux_T_at hT tw_1623 rfl) (fun _ h9 => h9) rfl d_Mo_damage_7 ?_
    refine lv_icmp_ge (tgt := 27) hx hb d_Mo_damage_10 (by decide) (fun _ => ?_) (fun hc2 => by exfalso; simp only [Int32.lt_iff_toInt_lt, Int32.le_iff_toInt_le, ← Int32.toInt_inj, ux_l0] at hc2 hc1; omega)
    refine lv_iconst (v := 1) hx hb d_Mo_damage_27 (by decide) ?_
    refine lv_goto hx hb d_Mo_damage_28 (tgt := 32) (by decide) ?_
    refine va_put (D := (dC, dI)) (ci := 12) (v := .int 1) (ty := .int) (C := R_Mo) (T := F_Mo) (N := 39) hx hb (u_Mo hT) (fun _ h => h) t_Mo k_Mo n_Mo hown hK hP hD hS 0 rfl rfl 4 (by decide) (ux_T_at hT tw_1598 rfl) (fun _ h9 => h9) rfl (by decide +kernel) rfl rfl (Nat.le_of_ble_eq_true rfl) d_Mo_damage_32 (fun H locs hP hD hS => ?_)
    have hP : va_P (dC, dI) cls [(h0, .inr (12, [.ref m_row, .ref m_in, .ref m_out, .int 0, .int 1, .int 0, .int 0, .int 0, .ref m_kept, .ref m_keptSize, .ref m_nIp, .ref m_nHeard, .ref m_nHard, .int 0, .int 0, .ref m_gIp, .ref m_gNumber, .ref m_gProtocol, .ref m_gTold, .ref m_gBegun, .ref m_gOrder, .ref m_gBytes, .ref m_gThere, .int 0, .int 0, .ref m_pTarget, .ref m_pBytes, .ref m_pLong, .ref m_pSize, .ref m_pSum, .int 0, .ref m_peer, .int 0, .int 0, .int 0, .int 0, .ref m_answer, .int 0, .int 0]))] H := hP
    have hD : va_D A [(h0, .inr (12, [.ref m_row, .ref m_in, .ref m_out, .int 0, .int 1, .int 0, .int 0, .int 0, .ref m_kept, .ref m_keptSize, .ref m_nIp, .ref m_nHeard, .ref m_nHard, .int 0, .int 0, .ref m_gIp, .ref m_gNumber, .ref m_gProtocol, .ref m_gTold, .ref m_gBegun, .ref m_gOrder, .ref m_gBytes, .ref m_gThere, .int 0, .int 0, .ref m_pTarget, .ref m_pBytes, .ref m_pLong, .ref m_pSize, .ref m_pSum, .int 0, .ref m_peer, .int 0, .int 0, .int 0, .int 0, .ref m_answer, .int 0, .int 0]))] := hD
    refine lv_aload_n hx hb d_Mo_damage_35 rfl (lv_at hl 0 rfl) ?_
    refine va_get (D := (dC, dI)) (ci := 12) (v := .int 1) (C := R_Mo) (T := F_Mo) (N := 39) hx hb (u_Mo hT) (fun _ h => h) hown hK hP 0 rfl rfl 4 (by decide) (ux_T_at hT tw_1598 rfl) (fun _ h9 => h9) rfl d_Mo_damage_36 ?_
    refine lv_if_le (tgt := 44) hx hb d_Mo_damage_39 (by decide) (fun hc => absurd hc (by decide)) (fun _ => ?_)
    refine lv_iconst (v := 0) hx hb d_Mo_damage_42 (by decide) ?_
    have hP9 := hP.sub (ws' := [(h0, .inr (12, [.ref m_row, .ref m_in, .ref m_out, .int 0, .int 1, .int 0, .int 0, .int 0, .ref m_kept, .ref m_keptSize, .ref m_nIp, .ref m_nHeard, .ref m_nHard, .int 0, .int 0, .ref m_gIp, .ref m_gNumber, .ref m_gProtocol, .ref m_gTold, .ref m_gBegun, .ref m_gOrder, .ref m_gBytes, .ref m_gThere, .int 0, .int 0, .ref m_pTarget, .ref m_pBytes, .ref m_pLong, .ref m_pSize, .ref m_pSum, .int 0, .ref m_peer, .int 0, .int 0, .int 0, .int 0, .ref m_answer, .int 0, .int 0]))]) [0] rfl
    have hD9 := hD.sub (ws' := [(h0, .inr (12, [.ref m_row, .ref m_in, .ref m_out, .int 0, .int 1, .int 0, .int 0, .int 0, .ref m_kept, .ref m_keptSize, .ref m_nIp, .ref m_nHeard, .ref m_nHard, .int 0, .int 0, .ref m_gIp, .ref m_gNumber, .ref m_gProtocol, .ref m_gTold, .ref m_gBegun, .ref m_gOrder, .ref m_gBytes, .ref m_gThere, .int 0, .int 0, .ref m_pTarget, .ref m_pBytes, .ref m_pLong, .ref m_pSize, .ref m_pSum, .int 0, .ref m_peer, .int 0, .int 0, .int 0, .int 0, .ref m_answer, .int 0, .int 0]))]) [0] (by decide) rfl
    have hK9 := hK.sub (tys' := []) [] rfl
    refine W.widen (k := 0) (n := 0) (Nat.le_of_ble_eq_true rfl) (Nat.le_of_ble_eq_true rfl) ?_
    exact W.iret (v := 0) hx hb hr (fun t ht hW => ⟨⟨_, (), rfl, rfl, by rw [ht]; exact hP9, va_K.moved hW.alike hK9, hD9⟩, hS.F ht⟩) hS.2.2 d_Mo_damage_43
set_option maxHeartbeats 4000000 in
set_option maxRecDepth 100000 in
theorem c_Mo_tick_ok (l : Launch) (dC : Nat → ClassId) (dI : Nat → Nat → Nat) (h0 : Nat) (m_row : Nat) (m_in : Nat) (m_out : Nat) (m_kept : Nat) (m_keptSize : Nat) (m_nIp : Nat) (m_nHeard : Nat) (m_nHard : Nat) (m_gIp : Nat) (m_gNumber : Nat) (m_gProtocol : Nat) (m_gTold : Nat) (m_gBegun : Nat) (m_gOrder : Nat) (m_gBytes : Nat) (m_gThere : Nat) (m_pTarget : Nat) (m_pBytes : Nat) (m_pLong : Nat) (m_pSize : Nat) (m_pSum : Nat) (m_peer : Nat) (m_answer : Nat) (p0 : Int32) (hn : 0 ≤ p0.toInt ∧ p0.toInt ≤ 100000) (sz : Nat) : Met l y_Mo_tick [Cond.code y_Mo_tick b_Mo_tick 10 (some .int)] ({ frames := 40, cells := 0, slots := 0, locals := 600 }) (ux_Pc [.ref h0, .int p0] (dC, dI) cls [(h0, .inr (12, [.ref m_row, .ref m_in, .ref m_out, .int 0, .int 0, .int 0, .int 0, .int 0, .ref m_kept, .ref m_keptSize, .ref m_nIp, .ref m_nHeard, .ref m_nHard, .int 0, .int 0, .ref m_gIp, .ref m_gNumber, .ref m_gProtocol, .ref m_gTold, .ref m_gBegun, .ref m_gOrder, .ref m_gBytes, .ref m_gThere, .int 0, .int 0, .ref m_pTarget, .ref m_pBytes, .ref m_pLong, .ref m_pSize, .ref m_pSum, .int 0, .ref m_peer, .int 0, .int 0, .int 0, .int 0, .ref m_answer, .int 0, .int 0]))] [] sz) (va_Qi (fun (r : Int32) (_ : Unit) => r = 0) (fun (_ : Unit) (t : State) => ∃ (tm : Int32), ux_B (dC, dI) cls (va_A [(h0, .inr (12, [.ref m_row, .ref m_in, .ref m_out, .int 0, .int 0, .int 0, .int 0, .int 0, .ref m_kept, .ref m_keptSize, .ref m_nIp, .ref m_nHeard, .ref m_nHard, .int 0, .int 0, .ref m_gIp, .ref m_gNumber, .ref m_gProtocol, .ref m_gTold, .ref m_gBegun, .ref m_gOrder, .ref m_gBytes, .ref m_gThere, .int 0, .int 0, .ref m_pTarget, .ref m_pBytes, .ref m_pLong, .ref m_pSize, .ref m_pSum, .int 0, .ref m_peer, .int 0, .int 0, .int 0, .int 0, .ref m_answer, .int 0, .int 0]))] sz) [(h0, .inr (12, [.ref m_row, .ref m_in, .ref m_out, .int 0, .int 0, .int tm, .int 0, .int 0, .ref m_kept, .ref m_keptSize, .ref m_nIp, .ref m_nHeard, .ref m_nHard, .int 0, .int 0, .ref m_gIp, .ref m_gNumber, .ref m_gProtocol, .ref m_gTold, .ref m_gBegun, .ref m_gOrder, .ref m_gBytes, .ref m_gThere, .int 0, .int 0, .ref m_pTarget, .ref m_pBytes, .ref m_pLong, .ref m_pSize, .ref m_pSum, .int 0, .ref m_peer, .int 0, .int 0, .int 0, .int 0, .ref m_answer, .int 0, .int 0]))] [] t) (va_A [(h0, .inr (12, [.ref m_row, .ref m_in, .ref m_out, .int 0, .int 0, .int 0, .int 0, .int 0, .ref m_kept, .ref m_keptSize, .ref m_nIp, .ref m_nHeard, .ref m_nHard, .int 0, .int 0, .ref m_gIp, .ref m_gNumber, .ref m_gProtocol, .ref m_gTold, .ref m_gBegun, .ref m_gOrder, .ref m_gBytes, .ref m_gThere, .int 0, .int 0, .ref m_pTarget, .ref m_pBytes, .ref m_pLong, .ref m_pSize, .ref m_pSum, .int 0, .ref m_peer, .int 0, .int 0, .int 0, .int 0, .ref m_answer, .int 0, .int 0]))] sz)) 0 0 (va_A [(h0, .inr (12, [.ref m_row, .ref m_in, .ref m_out, .int 0, .int 0, .int 0, .int 0, .int 0, .ref m_kept, .ref m_keptSize, .ref m_nIp, .ref m_nHeard, .ref m_nHard, .int 0, .int 0, .ref m_gIp, .ref m_gNumber, .ref m_gProtocol, .ref m_gTold, .ref m_gBegun, .ref m_gOrder, .ref m_gBytes, .ref m_gThere, .int 0, .int 0, .ref m_pTarget, .ref m_pBytes, .ref m_pLong, .ref m_pSize, .ref m_pSum, .int 0, .ref m_peer, .int 0, .int 0, .int 0, .int 0, .ref m_answer, .int 0, .int 0]))] sz) := by
  refine Met.ofW (cc := b_Mo_tick) (maxL := 10) (ret := some .int) (by decide) rfl ?_
  intro p e s m args below meth c s₁ B hml hv
  obtain ⟨rfl, hsz, hP, hK, hD0, hT⟩ := hv
  have hx := B.exec
  have hb := B.bytes
  have hr := B.returns
  have hown : s.vm.findClass "UnikernelHttpModel" = some m.cls := findClass_of_methodNamed B.named
  have hlocks := B.notSynchronized
  subst hsz
  have hD := hD0.self (sz := s.heap.size)
  have hns := ux_ns hP
  generalize hAe : va_A [(h0, .inr (12, [.ref m_row, .ref m_in, .ref m_out, .int 0, .int 0, .int 0, .int 0, .int 0, .ref m_kept, .ref m_keptSize, .ref m_nIp, .ref m_nHeard, .ref m_nHard, .int 0, .int 0, .ref m_gIp, .ref m_gNumber, .ref m_gProtocol, .ref m_gTold, .ref m_gBegun, .ref m_gOrder, .ref m_gBytes, .ref m_gThere, .int 0, .int 0, .ref m_pTarget, .ref m_pBytes, .ref m_pLong, .ref m_pSize, .ref m_pSum, .int 0, .ref m_peer, .int 0, .int 0, .int 0, .int 0, .ref m_answer, .int 0, .int 0]))] s.heap.size = A at hD hns ⊢
  have hA : ∀ q : Nat, s.heap.size ≤ q → A q := fun q h => by rw [← hAe]; exact Or.inr h
  have hS : va_S A s.heap s.heap [] := va_S.rf
  have hl := lv_entry ([.ref h0, .int p0]) (n := 10) (Nat.le_of_ble_eq_true rfl)
  rw [lg_entry_eq]
  generalize (lg_sl ([.ref h0, .int p0]) ++ List.replicate (10 - (lg_sl ([.ref h0, .int p0])).length) Slot.unset).toArray = ls at hl ⊢
  have hl : lv_has ls 10 [(0, .ref h0), (1, .int p0)] := hl
  have hfx : CallFix p m c b_Mo_tick 10 s ([.ref h0, .int p0] : List Value).toArray [] "UnikernelHttpModel" := ⟨hx, hb, hml, hown, fun _ h => by cases h⟩
  refine lv_aload_n hx hb d_Mo_tick_0 rfl (lv_at hl 0 rfl) ?_
  refine lv_iload_n hx hb d_Mo_tick_1 rfl (lv_at hl 1 rfl) ?_
  refine lv_if_lt (tgt := 12) hx hb d_Mo_tick_2 (by decide) (fun hc1 => by exfalso; simp only [Int32.lt_iff_toInt_lt, Int32.le_iff_toInt_le, ← Int32.toInt_inj, ux_l0] at hc1; omega) (fun _ => ?_)
  refine lv_iload_n hx hb d_Mo_tick_5 rfl (lv_at hl 1 rfl) ?_
  refine lv_ldcw (own := "UnikernelHttpModel") (v := 100000) hx hb hown (ux_T_at hT tw_1932 rfl) d_Mo_tick_6 ?_
  refine lv_icmp_le (tgt := 16) hx hb d_Mo_tick_9 (by decide) (fun _ => ?_) (fun hc2 => by exfalso; simp only [Int32.lt_iff_toInt_lt, Int32.le_iff_toInt_le, ← Int32.toInt_inj, ux_l100000] at hc2; omega)
  refine lv_iconst (v := 0) hx hb d_Mo_tick_16 (by decide) ?_
  refine va_put (D := (dC, dI)) (ci := 12) (v := .int 0) (ty := .int) (C := R_Mo) (T := F_Mo) (N := 39) hx hb (u_Mo hT) (fun _ h => h) t_Mo k_Mo n_Mo hown hK hP hD hS 0 rfl rfl 4 (by decide) (ux_T_at hT tw_1598 rfl) (fun _ h9 => h9) rfl (by decide +kernel) rfl rfl (Nat.le_of_ble_eq_true rfl) d_Mo_tick_17 (fun H locs hP hD hS => ?_)
  have hP : va_P (dC, dI) cls [(h0, .inr (12, [.ref m_row, .ref m_in, .ref m_out, .int 0, .int 0, .int 0, .int 0, .int 0, .ref m_kept, .ref m_keptSize, .ref m_nIp, .ref m_nHeard, .ref m_nHard, .int 0, .int 0, .ref m_gIp, .ref m_gNumber, .ref m_gProtocol, .ref m_gTold, .ref m_gBegun, .ref m_gOrder, .ref m_gBytes, .ref m_gThere, .int 0, .int 0, .ref m_pTarget, .ref m_pBytes, .ref m_pLong, .ref m_pSize, .ref m_pSum, .int 0, .ref m_peer, .int 0, .int 0, .int 0, .int 0, .ref m_answer, .int 0, .int 0]))] H := hP
  have hD : va_D A [(h0, .inr (12, [.ref m_row, .ref m_in, .ref m_out, .int 0, .int 0, .int 0, .int 0, .int 0, .ref m_kept, .ref m_keptSize, .ref m_nIp, .ref m_nHeard, .ref m_nHard, .int 0, .int 0, .ref m_gIp, .ref m_gNumber, .ref m_gProtocol, .ref m_gTold, .ref m_gBegun, .ref m_gOrder, .ref m_gBytes, .ref m_gThere, .int 0, .int 0, .ref m_pTarget, .ref m_pBytes, .ref m_pLong, .ref m_pSize, .ref m_pSum, .int 0, .ref m_peer, .int 0, .int 0, .int 0, .int 0, .ref m_answer, .int 0, .int 0]))] := hD
  refine lv_aload_n hx hb d_Mo_tick_20 rfl (lv_at hl 0 rfl) ?_
  refine va_get (D := (dC, dI)) (ci := 12) (v := .int 0) (C := R_Mo) (T := F_Mo) (N := 39) hx hb (u_Mo hT) (fun _ h => h) hown hK hP 0 rfl rfl 4 (by decide) (ux_T_at hT tw_1598 rfl) (fun _ h9 => h9) rfl d_Mo_tick_21 ?_
  refine lv_if_le (tgt := 29) hx hb d_Mo_tick_24 (by decide) (fun _ => ?_) (fun hc => absurd (by decide) hc)
  refine lv_aload_n hx hb d_Mo_tick_29 rfl (lv_at hl 0 rfl) ?_
  refine va_get (D := (dC, dI)) (ci := 12) (v := .int 0) (C := R_Mo) (T := F_Mo) (N := 39) hx hb (u_Mo hT) (fun _ h => h) hown hK hP 0 rfl rfl 7 (by decide) (ux_T_at hT tw_1601 rfl) (fun _ h9 => h9) rfl d_Mo_tick_30 ?_
  refine lv_istore_n hx hb d_Mo_tick_33 rfl hl (by decide) rfl (fun ls hl => ?_)
  have hl : lv_has ls 10 [(2, .int 0), (0, .ref h0), (1, .int p0)] := hl
  refine lv_aload_n hx hb d_Mo_tick_34 rfl (lv_at hl 1 rfl) ?_
  refine va_get (D := (dC, dI)) (ci := 12) (v := .int 0) (C := R_Mo) (T := F_Mo) (N := 39) hx hb (u_Mo hT) (fun _ h => h) hown hK hP 0 rfl rfl 5 (by decide) (ux_T_at hT tw_1599 rfl) (fun _ h9 => h9) rfl d_Mo_tick_35 ?_
  refine lv_iload_n hx hb d_Mo_tick_38 rfl (lv_at hl 2 rfl) ?_
  refine lv_iadd hx hb d_Mo_tick_39 ?_
  refine lv_topi (fun x3 ex3 => ?_)
  refine lv_istore_n hx hb d_Mo_tick_40 rfl hl (by decide) rfl (fun ls hl => ?_)
  have hl : lv_has ls 10 [(3, .int x3), (2, .int 0), (0, .ref h0), (1, .int p0)] := hl
  refine lv_iload_n hx hb d_Mo_tick_41 rfl (lv_at hl 0 rfl) ?_
  refine lv_iconst (v := 1) hx hb d_Mo_tick_42 (by decide) ?_
  refine lv_iadd hx hb d_Mo_tick_43 ?_
  refine lv_topi (fun x4 ex4 => ?_)
  refine lv_istore hx hb d_Mo_tick_44 hl (by decide) rfl (fun ls hl => ?_)
  have hl : lv_has ls 10 [(4, .int x4), (3, .int x3), (2, .int 0), (0, .ref h0), (1, .int p0)] := hl
  refine lv_iconst (v := (-1)) hx hb d_Mo_tick_46 (by decide) ?_
  refine lv_istore hx hb d_Mo_tick_47 hl (by decide) rfl (fun ls hl => ?_)
  have hl : lv_has ls 10 [(5, .int (-1)), (4, .int x4), (3, .int x3), (2, .int 0), (0, .ref h0), (1, .int p0)] := hl
  refine lv_iconst (v := (-1)) hx hb d_Mo_tick_49 (by decide) ?_
  refine lv_istore hx hb d_Mo_tick_50 hl (by decide) rfl (fun ls hl => ?_)
  have hl : lv_has ls 10 [(6, .int (-1)), (5, .int (-1)), (4, .int x4), (3, .int x3), (2, .int 0), (0, .ref h0), (1, .int p0)] := hl
  refine lv_iconst (v := 0) hx hb d_Mo_tick_52 (by decide) ?_
  refine lv_istore hx hb d_Mo_tick_53 hl (by decide) rfl (fun ls hl => ?_)
  have hl : lv_has ls 10 [(7, .int 0), (6, .int (-1)), (5, .int (-1)), (4, .int x4), (3, .int x3), (2, .int 0), (0, .ref h0), (1, .int p0)] := hl
  refine lv_iload hx hb d_Mo_tick_55 (lv_at hl 0 rfl) ?_
  refine lv_aload_n hx hb d_Mo_tick_57 rfl (lv_at hl 6 rfl) ?_
  refine va_get (D := (dC, dI)) (ci := 12) (v := .int 0) (C := R_Mo) (T := F_Mo) (N := 39) hx hb (u_Mo hT) (fun _ h => h) hown hK hP 0 rfl rfl 23 (by decide) (ux_T_at hT tw_1617 rfl) (fun _ h9 => h9) rfl d_Mo_tick_58 ?_
  refine lv_icmp_ge (tgt := 103) hx hb d_Mo_tick_61 (by decide) (fun _ => ?_) (fun hc => absurd (by decide) hc)
  refine lv_iconst (v := 0) hx hb d_Mo_tick_103 (by decide) ?_
  refine lv_istore hx hb d_Mo_tick_104 hl (by decide) rfl (fun ls hl => ?_)
  have hl : lv_has ls 10 [(7, .int 0), (6, .int (-1)), (5, .int (-1)), (4, .int x4), (3, .int x3), (2, .int 0), (0, .ref h0), (1, .int p0)] := hl
  refine lv_iload hx hb d_Mo_tick_106 (lv_at hl 0 rfl) ?_
  refine lv_aload_n hx hb d_Mo_tick_108 rfl (lv_at hl 6 rfl) ?_
  refine va_get (D := (dC, dI)) (ci := 12) (v := .int 0) (C := R_Mo) (T := F_Mo) (N := 39) hx hb (u_Mo hT) (fun _ h => h) hown hK hP 0 rfl rfl 32 (by decide) (ux_T_at hT tw_1625 rfl) (fun _ h9 => h9) rfl d_Mo_tick_109 ?_
  refine lv_icmp_ge (tgt := 200) hx hb d_Mo_tick_112 (by decide) (fun _ => ?_) (fun hc => absurd (by decide) hc)
  refine lv_iload hx hb d_Mo_tick_200 (lv_at hl 3 rfl) ?_
  refine lv_iload_n hx hb d_Mo_tick_202 rfl (lv_at hl 4 rfl) ?_
  refine lv_icmp_le (tgt := 209) hx hb d_Mo_tick_203 (by decide) (fun hc => absurd hc (ux_tk hn ex3 ex4)) (fun _ => ?_)
  refine lv_goto hx hb d_Mo_tick_206 (tgt := 266) (by decide) ?_
  refine lv_aload_n hx hb d_Mo_tick_266 rfl (lv_at hl 6 rfl) ?_
  refine lv_iload_n hx hb d_Mo_tick_267 rfl (lv_at hl 4 rfl) ?_
  refine va_put (D := (dC, dI)) (ci := 12) (v := .int x3) (ty := .int) (C := R_Mo) (T := F_Mo) (N := 39) hx hb (u_Mo hT) (fun _ h => h) t_Mo k_Mo n_Mo hown hK hP hD hS 0 rfl rfl 5 (by decide) (ux_T_at hT tw_1599 rfl) (fun _ h9 => h9) rfl (by decide +kernel) rfl rfl (Nat.le_of_ble_eq_true rfl) d_Mo_tick_268 (fun H locs hP hD hS => ?_)
  have hP : va_P (dC, dI) cls [(h0, .inr (12, [.ref m_row, .ref m_in, .ref m_out, .int 0, .int 0, .int x3, .int 0, .int 0, .ref m_kept, .ref m_keptSize, .ref m_nIp, .ref m_nHeard, .ref m_nHard, .int 0, .int 0, .ref m_gIp, .ref m_gNumber, .ref m_gProtocol, .ref m_gTold, .ref m_gBegun, .ref m_gOrder, .ref m_gBytes, .ref m_gThere, .int 0, .int 0, .ref m_pTarget, .ref m_pBytes, .ref m_pLong, .ref m_pSize, .ref m_pSum, .int 0, .ref m_peer, .int 0, .int 0, .int 0, .int 0, .ref m_answer, .int 0, .int 0]))] H := hP
  have hD : va_D A [(h0, .inr (12, [.ref m_row, .ref m_in, .ref m_out, .int 0, .int 0, .int x3, .int 0, .int 0, .ref m_kept, .ref m_keptSize, .ref m_nIp, .ref m_nHeard, .ref m_nHard, .int 0, .int 0, .ref m_gIp, .ref m_gNumber, .ref m_gProtocol, .ref m_gTold, .ref m_gBegun, .ref m_gOrder, .ref m_gBytes, .ref m_gThere, .int 0, .int 0, .ref m_pTarget, .ref m_pBytes, .ref m_pLong, .ref m_pSize, .ref m_pSum, .int 0, .ref m_peer, .int 0, .int 0, .int 0, .int 0, .ref m_answer, .int 0, .int 0]))] := hD
  refine lv_aload_n hx hb d_Mo_tick_271 rfl (lv_at hl 6 rfl) ?_
  refine va_get (D := (dC, dI)) (ci := 12) (v := .int 0) (C := R_Mo) (T := F_Mo) (N := 39) hx hb (u_Mo hT) (fun _ h => h) hown hK hP 0 rfl rfl 7 (by decide) (ux_T_at hT tw_1601 rfl) (fun _ h9 => h9) rfl d_Mo_tick_272 ?_
  refine lv_iload_n hx hb d_Mo_tick_275 rfl (lv_at hl 5 rfl) ?_
  refine lv_isub hx hb d_Mo_tick_276 ?_
  refine lv_topi (fun x5 ex5 => ?_)
  obtain rfl : x5 = 0 := ex5.trans (by decide)
  have hP9 := hP.sub (ws' := [(h0, .inr (12, [.ref m_row, .ref m_in, .ref m_out, .int 0, .int 0, .int x3, .int 0, .int 0, .ref m_kept, .ref m_keptSize, .ref m_nIp, .ref m_nHeard, .ref m_nHard, .int 0, .int 0, .ref m_gIp, .ref m_gNumber, .ref m_gProtocol, .ref m_gTold, .ref m_gBegun, .ref m_gOrder, .ref m_gBytes, .ref m_gThere, .int 0, .int 0, .ref m_pTarget, .ref m_pBytes, .ref m_pLong, .ref m_pSize, .ref m_pSum, .int 0, .ref m_peer, .int 0, .int 0, .int 0, .int 0, .ref m_answer, .int 0, .int 0]))]) [0] rfl
  have hD9 := hD.sub (ws' := [(h0, .inr (12, [.ref m_row, .ref m_in, .ref m_out, .int 0, .int 0, .int x3, .int 0, .int 0, .ref m_kept, .ref m_keptSize, .ref m_nIp, .ref m_nHeard, .ref m_nHard, .int 0, .int 0, .ref m_gIp, .ref m_gNumber, .ref m_gProtocol, .ref m_gTold, .ref m_gBegun, .ref m_gOrder, .ref m_gBytes, .ref m_gThere, .int 0, .int 0, .ref m_pTarget, .ref m_pBytes, .ref m_pLong, .ref m_pSize, .ref m_pSum, .int 0, .ref m_peer, .int 0, .int 0, .int 0, .int 0, .ref m_answer, .int 0, .int 0]))]) [0] (by decide) rfl
  have hK9 := hK.sub (tys' := []) [] rfl
  refine W.widen (k := 0) (n := 0) (Nat.le_of_ble_eq_true rfl) (Nat.le_of_ble_eq_true rfl) ?_
  exact W.iret (v := 0) hx hb hr (fun t ht hW => ⟨⟨_, (), rfl, rfl, x3, by rw [ht]; exact hP9, va_K.moved hW.alike hK9, hD9⟩, hS.F ht⟩) hS.2.2 d_Mo_tick_277
set_option maxHeartbeats 4000000 in
set_option maxRecDepth 100000 in
theorem c_Mo_tick_no (l : Launch) (dC : Nat → ClassId) (dI : Nat → Nat → Nat) (h0 : Nat) (m_row : Nat) (m_in : Nat) (m_out : Nat) (m_kept : Nat) (m_keptSize : Nat) (m_nIp : Nat) (m_nHeard : Nat) (m_nHard : Nat) (m_gIp : Nat) (m_gNumber : Nat) (m_gProtocol : Nat) (m_gTold : Nat) (m_gBegun : Nat) (m_gOrder : Nat) (m_gBytes : Nat) (m_gThere : Nat) (m_pTarget : Nat) (m_pBytes : Nat) (m_pLong : Nat) (m_pSize : Nat) (m_pSum : Nat) (m_peer : Nat) (m_answer : Nat) (p0 : Int32) (hn : p0.toInt < 0 ∨ 100000 < p0.toInt) (sz : Nat) : Met l y_Mo_tick [Cond.code y_Mo_tick b_Mo_tick 10 (some .int)] ({ frames := 40, cells := 0, slots := 0, locals := 600 }) (ux_Pc [.ref h0, .int p0] (dC, dI) cls [(h0, .inr (12, [.ref m_row, .ref m_in, .ref m_out, .int 0, .int 0, .int 0, .int 0, .int 0, .ref m_kept, .ref m_keptSize, .ref m_nIp, .ref m_nHeard, .ref m_nHard, .int 0, .int 0, .ref m_gIp, .ref m_gNumber, .ref m_gProtocol, .ref m_gTold, .ref m_gBegun, .ref m_gOrder, .ref m_gBytes, .ref m_gThere, .int 0, .int 0, .ref m_pTarget, .ref m_pBytes, .ref m_pLong, .ref m_pSize, .ref m_pSum, .int 0, .ref m_peer, .int 0, .int 0, .int 0, .int 0, .ref m_answer, .int 0, .int 0]))] [] sz) (va_Qi (fun (r : Int32) (_ : Unit) => r = 0) (fun (_ : Unit) (t : State) => ux_B (dC, dI) cls (va_A [(h0, .inr (12, [.ref m_row, .ref m_in, .ref m_out, .int 0, .int 0, .int 0, .int 0, .int 0, .ref m_kept, .ref m_keptSize, .ref m_nIp, .ref m_nHeard, .ref m_nHard, .int 0, .int 0, .ref m_gIp, .ref m_gNumber, .ref m_gProtocol, .ref m_gTold, .ref m_gBegun, .ref m_gOrder, .ref m_gBytes, .ref m_gThere, .int 0, .int 0, .ref m_pTarget, .ref m_pBytes, .ref m_pLong, .ref m_pSize, .ref m_pSum, .int 0, .ref m_peer, .int 0, .int 0, .int 0, .int 0, .ref m_answer, .int 0, .int 0]))] sz) [(h0, .inr (12, [.ref m_row, .ref m_in, .ref m_out, .int 0, .int 1, .int 0, .int 0, .int 0, .ref m_kept, .ref m_keptSize, .ref m_nIp, .ref m_nHeard, .ref m_nHard, .int 0, .int 0, .ref m_gIp, .ref m_gNumber, .ref m_gProtocol, .ref m_gTold, .ref m_gBegun, .ref m_gOrder, .ref m_gBytes, .ref m_gThere, .int 0, .int 0, .ref m_pTarget, .ref m_pBytes, .ref m_pLong, .ref m_pSize, .ref m_pSum, .int 0, .ref m_peer, .int 0, .int 0, .int 0, .int 0, .ref m_answer, .int 0, .int 0]))] [] t) (va_A [(h0, .inr (12, [.ref m_row, .ref m_in, .ref m_out, .int 0, .int 0, .int 0, .int 0, .int 0, .ref m_kept, .ref m_keptSize, .ref m_nIp, .ref m_nHeard, .ref m_nHard, .int 0, .int 0, .ref m_gIp, .ref m_gNumber, .ref m_gProtocol, .ref m_gTold, .ref m_gBegun, .ref m_gOrder, .ref m_gBytes, .ref m_gThere, .int 0, .int 0, .ref m_pTarget, .ref m_pBytes, .ref m_pLong, .ref m_pSize, .ref m_pSum, .int 0, .ref m_peer, .int 0, .int 0, .int 0, .int 0, .ref m_answer, .int 0, .int 0]))] sz)) 0 0 (va_A [(h0, .inr (12, [.ref m_row, .ref m_in, .ref m_out, .int 0, .int 0, .int 0, .int 0, .int 0, .ref m_kept, .ref m_keptSize, .ref m_nIp, .ref m_nHeard, .ref m_nHard, .int 0, .int 0, .ref m_gIp, .ref m_gNumber, .ref m_gProtocol, .ref m_gTold, .ref m_gBegun, .ref m_gOrder, .ref m_gBytes, .ref m_gThere, .int 0, .int 0, .ref m_pTarget, .ref m_pBytes, .ref m_pLong, .ref m_pSize, .ref m_pSum, .int 0, .ref m_peer, .int 0, .int 0, .int 0, .int 0, .ref m_answer, .int 0, .int 0]))] sz) := by
  refine Met.ofW (cc := b_Mo_tick) (maxL := 10) (ret := some .int) (by decide) rfl ?_
  intro p e s m args below meth c s₁ B hml hv
  obtain ⟨rfl, hsz, hP, hK, hD0, hT⟩ := hv
  have hx := B.exec
  have hb := B.bytes
  have hr := B.returns
  have hown : s.vm.findClass "UnikernelHttpModel" = some m.cls := findClass_of_methodNamed B.named
  have hlocks := B.notSynchronized
  subst hsz
  have hD := hD0.self (sz := s.heap.size)
  have hns := ux_ns hP
  generalize hAe : va_A [(h0, .inr (12, [.ref m_row, .ref m_in, .ref m_out, .int 0, .int 0, .int 0, .int 0, .int 0, .ref m_kept, .ref m_keptSize, .ref m_nIp, .ref m_nHeard, .ref m_nHard, .int 0, .int 0, .ref m_gIp, .ref m_gNumber, .ref m_gProtocol, .ref m_gTold, .ref m_gBegun, .ref m_gOrder, .ref m_gBytes, .ref m_gThere, .int 0, .int 0, .ref m_pTarget, .ref m_pBytes, .ref m_pLong, .ref m_pSize, .ref m_pSum, .int 0, .ref m_peer, .int 0, .int 0, .int 0, .int 0, .ref m_answer, .int 0, .int 0]))] s.heap.size = A at hD hns ⊢
  have hA : ∀ q : Nat, s.heap.size ≤ q → A q := fun q h => by rw [← hAe]; exact Or.inr h
  have hS : va_S A s.heap s.heap [] := va_S.rf
  have hl := lv_entry ([.ref h0, .int p0]) (n := 10) (Nat.le_of_ble_eq_true rfl)
  rw [lg_entry_eq]
  generalize (lg_sl ([.ref h0, .int p0]) ++ List.replicate (10 - (lg_sl ([.ref h0, .int p0])).length) Slot.unset).toArray = ls at hl ⊢
  have hl : lv_has ls 10 [(0, .ref h0), (1, .int p0)] := hl
  have hfx : CallFix p m c b_Mo_tick 10 s ([.ref h0, .int p0] : List Value).toArray [] "UnikernelHttpModel" := ⟨hx, hb, hml, hown, fun _ h => by cases h⟩
  refine lv_aload_n hx hb d_Mo_tick_0 rfl (lv_at hl 0 rfl) ?_
  refine lv_iload_n hx hb d_Mo_tick_1 rfl (lv_at hl 1 rfl) ?_
  refine lv_if_lt (tgt := 12) hx hb d_Mo_tick_2 (by decide) (fun hc1 => ?_) (fun hc1 => ?_)
  · refine lv_iconst (v := 1) hx hb d_Mo_tick_12 (by decide) ?_
    refine lv_goto hx hb d_Mo_tick_13 (tgt := 17) (by decide) ?_
    refine va_put (D := (dC, dI)) (ci := 12) (v := .int 1) (ty := .int) (C := R_Mo) (T := F_Mo) (N := 39) hx hb (u_Mo hT) (fun _ h => h) t_Mo k_Mo n_Mo hown hK hP hD hS 0 rfl rfl 4 (by decide) (ux_T_at hT tw_1598 rfl) (fun _ h9 => h9) rfl (by decide +kernel) rfl rfl (Nat.le_of_ble_eq_true rfl) d_Mo_tick_17 (fun H locs hP hD hS => ?_)
    have hP : va_P (dC, dI) cls [(h0, .inr (12, [.ref m_row, .ref m_in, .ref m_out, .int 0, .int 1, .int 0, .int 0, .int 0, .ref m_kept, .ref m_keptSize, .ref m_nIp, .ref m_nHeard, .ref m_nHard, .int 0, .int 0, .ref m_gIp, .ref m_gNumber, .ref m_gProtocol, .ref m_gTold, .ref m_gBegun, .ref m_gOrder, .ref m_gBytes, .ref m_gThere, .int 0, .int 0, .ref m_pTarget, .ref m_pBytes, .ref m_pLong, .ref m_pSize, .ref m_pSum, .int 0, .ref m_peer, .int 0, .int 0, .int 0, .int 0, .ref m_answer, .int 0, .int 0]))] H := hP
    have hD : va_D A [(h0, .inr (12, [.ref m_row, .ref m_in, .ref m_out, .int 0, .int 1, .int 0, .int 0, .int 0, .ref m_kept, .ref m_keptSize, .ref m_nIp, .ref m_nHeard, .ref m_nHard, .int 0, .int 0, .ref m_gIp, .ref m_gNumber, .ref m_gProtocol, .ref m_gTold, .ref m_gBegun, .ref m_gOrder, .ref m_gBytes, .ref m_gThere, .int 0, .int 0, .ref m_pTarget, .ref m_pBytes, .ref m_pLong, .ref m_pSize, .ref m_pSum, .int 0, .ref m_peer, .int 0, .int 0, .int 0, .int 0, .ref m_answer, .int 0, .int 0]))] := hD
    refine lv_aload_n hx hb d_Mo_tick_20 rfl (lv_at hl 0 rfl) ?_
    refine va_get (D := (dC, dI)) (ci := 12) (v := .int 1) (C := R_Mo) (T := F_Mo) (N := 39) hx hb (u_Mo hT) (fun _ h => h) hown hK hP 0 rfl rfl 4 (by decide) (ux_T_at hT tw_1598 rfl) (fun _ h9 => h9) rfl d_Mo_tick_21 ?_
    refine lv_if_le (tgt := 29) hx hb d_Mo_tick_24 (by decide) (fun hc => absurd hc (by decide)) (fun _ => ?_)
    refine lv_iconst (v := 0) hx hb d_Mo_tick_27 (by decide) ?_
    have hP9 := hP.sub (ws' := [(h0, .inr (12, [.ref m_row, .ref m_in, .ref m_out, .int 0, .int 1, .int 0, .int 0, .int 0, .ref m_kept, .ref m_keptSize, .ref m_nIp, .ref m_nHeard, .ref m_nHard, .int 0, .int 0, .ref m_gIp, .ref m_gNumber, .ref m_gProtocol, .ref m_gTold, .ref m_gBegun, .ref m_gOrder, .ref m_gBytes, .ref m_gThere, .int 0, .int 0, .ref m_pTarget, .ref m_pBytes, .ref m_pLong, .ref m_pSize, .ref m_pSum, .int 0, .ref m_peer, .int 0, .int 0, .int 0, .int 0, .ref m_answer, .int 0, .int 0]))]) [0] rfl
    have hD9 := hD.sub (ws' := [(h0, .inr (12, [.ref m_row, .ref m_in, .ref m_out, .int 0, .int 1, .int 0, .int 0, .int 0, .ref m_kept, .ref m_keptSize, .ref m_nIp, .ref m_nHeard, .ref m_nHard, .int 0, .int 0, .ref m_gIp, .ref m_gNumber, .ref m_gProtocol, .ref m_gTold, .ref m_gBegun, .ref m_gOrder, .ref m_gBytes, .ref m_gThere, .int 0, .int 0, .ref m_pTarget, .ref m_pBytes, .ref m_pLong, .ref m_pSize, .ref m_pSum, .int 0, .ref m_peer, .int 0, .int 0, .int 0, .int 0, .ref m_answer, .int 0, .int 0]))]) [0] (by decide) rfl
    have hK9 := hK.sub (tys' := []) [] rfl
    refine W.widen (k := 0) (n := 0) (Nat.le_of_ble_eq_true rfl) (Nat.le_of_ble_eq_true rfl) ?_
    exact W.iret (v := 0) hx hb hr (fun t ht hW => ⟨⟨_, (), rfl, rfl, by rw [ht]; exact hP9, va_K.moved hW.alike hK9, hD9⟩, hS.F ht⟩) hS.2.2 d_Mo_tick_28
  · refine lv_iload_n hx hb d_Mo_tick_5 rfl (lv_at hl 1 rfl) ?_
    refine lv_ldcw (own := "UnikernelHttpModel") (v := 100000) hx hb hown (ux_T_at hT tw_1932 rfl) d_Mo_tick_6 ?_
    refine lv_icmp_le (tgt := 16) hx hb d_Mo_tick_9 (by decide) (fun hc2 => by exfalso; simp only [Int32.lt_iff_toInt_lt, Int32.le_iff_toInt_le, ← Int32.toInt_inj, ux_l0, ux_l100000] at hc2 hc1; omega) (fun _ => ?_)
    refine lv_iconst (v := 1) hx hb d_Mo_tick_12 (by decide) ?_
    refine lv_goto hx hb d_Mo_tick_13 (tgt := 17) (by decide) ?_
    refine va_put (D := (dC, dI)) (ci := 12) (v := .int 1) (ty := .int) (C := R_Mo) (T := F_Mo) (N := 39) hx hb (u_Mo hT) (fun _ h => h) t_Mo k_Mo n_Mo hown hK hP hD hS 0 rfl rfl 4 (by decide) (ux_T_at hT tw_1598 rfl) (fun _ h9 => h9) rfl (by decide +kernel) rfl rfl (Nat.le_of_ble_eq_true rfl) d_Mo_tick_17 (fun H locs hP hD hS => ?_)
    have hP : va_P (dC, dI) cls [(h0, .inr (12, [.ref m_row, .ref m_in, .ref m_out, .int 0, .int 1, .int 0, .int 0, .int 0, .ref m_kept, .ref m_keptSize, .ref m_nIp, .ref m_nHeard, .ref m_nHard, .int 0, .int 0, .ref m_gIp, .ref m_gNumber, .ref m_gProtocol, .ref m_gTold, .ref m_gBegun, .ref m_gOrder, .ref m_gBytes, .ref m_gThere, .int 0, .int 0, .ref m_pTarget, .ref m_pBytes, .ref m_pLong, .ref m_pSize, .ref m_pSum, .int 0, .ref m_peer, .int 0, .int 0, .int 0, .int 0, .ref m_answer, .int 0, .int 0]))] H := hP
    have hD : va_D A [(h0, .inr (12, [.ref m_row, .ref m_in, .ref m_out, .int 0, .int 1, .int 0, .int 0, .int 0, .ref m_kept, .ref m_keptSize, .ref m_nIp, .ref m_nHeard, .ref m_nHard, .int 0, .int 0, .ref m_gIp, .ref m_gNumber, .ref m_gProtocol, .ref m_gTold, .ref m_gBegun, .ref m_gOrder, .ref m_gBytes, .ref m_gThere, .int 0, .int 0, .ref m_pTarget, .ref m_pBytes, .ref m_pLong, .ref m_pSize, .ref m_pSum, .int 0, .ref m_peer, .int 0, .int 0, .int 0, .int 0, .ref m_answer, .int 0, .int 0]))] := hD
    refine lv_aload_n hx hb d_Mo_tick_20 rfl (lv_at hl 0 rfl) ?_
    refine va_get (D := (dC, dI)) (ci := 12) (v := .int 1) (C := R_Mo) (T := F_Mo) (N := 39) hx hb (u_Mo hT) (fun _ h => h) hown hK hP 0 rfl rfl 4 (by decide) (ux_T_at hT tw_1598 rfl) (fun _ h9 => h9) rfl d_Mo_tick_21 ?_
    refine lv_if_le (tgt := 29) hx hb d_Mo_tick_24 (by decide) (fun hc => absurd hc (by decide)) (fun _ => ?_)
    refine lv_iconst (v := 0) hx hb d_Mo_tick_27 (by decide) ?_
    have hP9 := hP.sub (ws' := [(h0, .inr (12, [.ref m_row, .ref m_in, .ref m_out, .int 0, .int 1, .int 0, .int 0, .int 0, .ref m_kept, .ref m_keptSize, .ref m_nIp, .ref m_nHeard, .ref m_nHard, .int 0, .int 0, .ref m_gIp, .ref m_gNumber, .ref m_gProtocol, .ref m_gTold, .ref m_gBegun, .ref m_gOrder, .ref m_gBytes, .ref m_gThere, .int 0, .int 0, .ref m_pTarget, .ref m_pBytes, .ref m_pLong, .ref m_pSize, .ref m_pSum, .int 0, .ref m_peer, .int 0, .int 0, .int 0, .int 0, .ref m_answer, .int 0, .int 0]))]) [0] rfl
    have hD9 := hD.sub (ws' := [(h0, .inr (12, [.ref m_row, .ref m_in, .ref m_out, .int 0, .int 1, .int 0, .int 0, .int 0, .ref m_kept, .ref m_keptSize, .ref m_nIp, .ref m_nHeard, .ref m_nHard, .int 0, .int 0, .ref m_gIp, .ref m_gNumber, .ref m_gProtocol, .ref m_gTold, .ref m_gBegun, .ref m_gOrder, .ref m_gBytes, .ref m_gThere, .int 0, .int 0, .ref m_pTarget, .ref m_pBytes, .ref m_pLong, .ref m_pSize, .ref m_pSum, .int 0, .ref m_peer, .int 0, .int 0, .int 0, .int 0, .ref m_answer, .int 0, .int 0]))]) [0] (by decide) rfl
    have hK9 := hK.sub (tys' := []) [] rfl
    refine W.widen (k := 0) (n := 0) (Nat.le_of_ble_eq_true rfl) (Nat.le_of_ble_eq_true rfl) ?_
    exact W.iret (v := 0) hx hb hr (fun t ht hW => ⟨⟨_, (), rfl, rfl, by rw [ht]; exact hP9, va_K.moved hW.alike hK9, hD9⟩, hS.F ht⟩) hS.2.2 d_Mo_tick_28
set_option maxHeartbeats 4000000 in
set_option maxRecDepth 100000 in
theorem c_Mo_size (l : Launch) (dC : Nat → ClassId) (dI : Nat → Nat → Nat) (h0 : Nat) (m_row : Nat) (m_in : Nat) (m_out : Nat) (m_kept : Nat) (m_keptSize : Nat) (m_nIp : Nat) (m_nHeard : Nat) (m_nHard : Nat) (m_gIp : Nat) (m_gNumber : Nat) (m_gProtocol : Nat) (m_gTold : Nat) (m_gBegun : Nat) (m_gOrder : Nat) (m_gBytes : Nat) (m_gThere : Nat) (m_pTarget : Nat) (m_pBytes : Nat) (m_pLong : Nat) (m_pSize : Nat) (m_pSum : Nat) (m_peer : Nat) (m_answer : Nat) (p0 : Int32) (sz : Nat) : Met l y_Mo_size [Cond.code y_Mo_size b_Mo_size 2 (some .int)] ({ frames := 40, cells := 0, slots := 0, locals := 600 }) (ux_Pc [.ref h0, .int p0] (dC, dI) cls [(h0, .inr (12, [.ref m_row, .ref m_in, .ref m_out, .int 0, .int 0, .int 0, .int 0, .int 0, .ref m_kept, .ref m_keptSize, .ref m_nIp, .ref m_nHeard, .ref m_nHard, .int 0, .int 0, .ref m_gIp, .ref m_gNumber, .ref m_gProtocol, .ref m_gTold, .ref m_gBegun, .ref m_gOrder, .ref m_gBytes, .ref m_gThere, .int 0, .int 0, .ref m_pTarget, .ref m_pBytes, .ref m_pLong, .ref m_pSize, .ref m_pSum, .int 0, .ref m_peer, .int 0, .int 0, .int 0, .int 0, .ref m_answer, .int 0, .int 0]))] [] sz) (va_Qi (fun (r : Int32) (_ : Unit) => r = 0) (fun (_ : Unit) (t : State) => ux_B (dC, dI) cls (va_A [(h0, .inr (12, [.ref m_row, .ref m_in, .ref m_out, .int 0, .int 0, .int 0, .int 0, .int 0, .ref m_kept, .ref m_keptSize, .ref m_nIp, .ref m_nHeard, .ref m_nHard, .int 0, .int 0, .ref m_gIp, .ref m_gNumber, .ref m_gProtocol, .ref m_gTold, .ref m_gBegun, .ref m_gOrder, .ref m_gBytes, .ref m_gThere, .int 0, .int 0, .ref m_pTarget, .ref m_pBytes, .ref m_pLong, .ref m_pSize, .ref m_pSum, .int 0, .ref m_peer, .int 0, .int 0, .int 0, .int 0, .ref m_answer, .int 0, .int 0]))] sz) [(h0, .inr (12, [.ref m_row, .ref m_in, .ref m_out, .int 0, .int 1, .int 0, .int 0, .int 0, .ref m_kept, .ref m_keptSize, .ref m_nIp, .ref m_nHeard, .ref m_nHard, .int 0, .int 0, .ref m_gIp, .ref m_gNumber, .ref m_gProtocol, .ref m_gTold, .ref m_gBegun, .ref m_gOrder, .ref m_gBytes, .ref m_gThere, .int 0, .int 0, .ref m_pTarget, .ref m_pBytes, .ref m_pLong, .ref m_pSize, .ref m_pSum, .int 0, .ref m_peer, .int 0, .int 0, .int 0, .int 0, .ref m_answer, .int 0, .int 0]))] [] t) (va_A [(h0, .inr (12, [.ref m_row, .ref m_in, .ref m_out, .int 0, .int 0, .int 0, .int 0, .int 0, .ref m_kept, .ref m_keptSize, .ref m_nIp, .ref m_nHeard, .ref m_nHard, .int 0, .int 0, .ref m_gIp, .ref m_gNumber, .ref m_gProtocol, .ref m_gTold, .ref m_gBegun, .ref m_gOrder, .ref m_gBytes, .ref m_gThere, .int 0, .int 0, .ref m_pTarget, .ref m_pBytes, .ref m_pLong, .ref m_pSize, .ref m_pSum, .int 0, .ref m_peer, .int 0, .int 0, .int 0, .int 0, .ref m_answer, .int 0, .int 0]))] sz)) 0 0 (va_A [(h0, .inr (12, [.ref m_row, .ref m_in, .ref m_out, .int 0, .int 0, .int 0, .int 0, .int 0, .ref m_kept, .ref m_keptSize, .ref m_nIp, .ref m_nHeard, .ref m_nHard, .int 0, .int 0, .ref m_gIp, .ref m_gNumber, .ref m_gProtocol, .ref m_gTold, .ref m_gBegun, .ref m_gOrder, .ref m_gBytes, .ref m_gThere, .int 0, .int 0, .ref m_pTarget, .ref m_pBytes, .ref m_pLong, .ref m_pSize, .ref m_pSum, .int 0, .ref m_peer, .int 0, .int 0, .int 0, .int 0, .ref m_answer, .int 0, .int 0]))] sz) := by
  refine Met.ofW (cc := b_Mo_size) (maxL := 2) (ret := some .int) (by decide) rfl ?_
  intro p e s m args below meth c s₁ B hml hv
  obtain ⟨rfl, hsz, hP, hK, hD0, hT⟩ := hv
  have hx := B.exec
  have hb := B.bytes
  have hr := B.returns
  have hown : s.vm.findClass "UnikernelHttpModel" = some m.cls := findClass_of_methodNamed B.named
  have hlocks := B.notSynchronized
  subst hsz
  have hD := hD0.self (sz := s.heap.size)
  have hns := ux_ns hP
  generalize hAe : va_A [(h0, .inr (12, [.ref m_row, .ref m_in, .ref m_out, .int 0, .int 0, .int 0, .int 0, .int 0, .ref m_kept, .ref m_keptSize, .ref m_nIp, .ref m_nHeard, .ref m_nHard, .int 0, .int 0, .ref m_gIp, .ref m_gNumber, .ref m_gProtocol, .ref m_gTold, .ref m_gBegun, .ref m_gOrder, .ref m_gBytes, .ref m_gThere, .int 0, .int 0, .ref m_pTarget, .ref m_pBytes, .ref m_pLong, .ref m_pSize, .ref m_pSum, .int 0, .ref m_peer, .int 0, .int 0, .int 0, .int 0, .ref m_answer, .int 0, .int 0]))] s.heap.size = A at hD hns ⊢
  have hA : ∀ q : Nat, s.heap.size ≤ q → A q := fun q h => by rw [← hAe]; exact Or.inr h
  have hS : va_S A s.heap s.heap [] := va_S.rf
  have hl := lv_entry ([.ref h0, .int p0]) (n := 2) (Nat.le_of_ble_eq_true rfl)
  rw [lg_entry_eq]
  generalize (lg_sl ([.ref h0, .int p0]) ++ List.replicate (2 - (lg_sl ([.ref h0, .int p0])).length) Slot.unset).toArray = ls at hl ⊢
  have hl : lv_has ls 2 [(0, .ref h0), (1, .int p0)] := hl
  have hfx : CallFix p m c b_Mo_size 2 s ([.ref h0, .int p0] : List Value).toArray [] "UnikernelHttpModel" := ⟨hx, hb, hml, hown, fun _ h => by cases h⟩
  refine lv_aload_n hx hb d_Mo_size_0 rfl (lv_at hl 0 rfl) ?_
  refine lv_aload_n hx hb d_Mo_size_1 rfl (lv_at hl 0 rfl) ?_
  refine lv_iload_n hx hb d_Mo_size_2 rfl (lv_at hl 1 rfl) ?_
  have hPc := hP.sub (ws' := [(h0, .inr (12, [.ref m_row, .ref m_in, .ref m_out, .int 0, .int 0, .int 0, .int 0, .int 0, .ref m_kept, .ref m_keptSize, .ref m_nIp, .ref m_nHeard, .ref m_nHard, .int 0, .int 0, .ref m_gIp, .ref m_gNumber, .ref m_gProtocol, .ref m_gTold, .ref m_gBegun, .ref m_gOrder, .ref m_gBytes, .ref m_gThere, .int 0, .int 0, .ref m_pTarget, .ref m_pBytes, .ref m_pLong, .ref m_pSize, .ref m_pSum, .int 0, .ref m_peer, .int 0, .int 0, .int 0, .int 0, .ref m_answer, .int 0, .int 0]))]) [0] rfl
  have hDc := hD.sub (ws' := [(h0, .inr (12, [.ref m_row, .ref m_in, .ref m_out, .int 0, .int 0, .int 0, .int 0, .int 0, .ref m_kept, .ref m_keptSize, .ref m_nIp, .ref m_nHeard, .ref m_nHard, .int 0, .int 0, .ref m_gIp, .ref m_gNumber, .ref m_gProtocol, .ref m_gTold, .ref m_gBegun, .ref m_gOrder, .ref m_gBytes, .ref m_gThere, .int 0, .int 0, .ref m_pTarget, .ref m_pBytes, .ref m_pLong, .ref m_pSize, .ref m_pSum, .int 0, .ref m_peer, .int 0, .int 0, .int 0, .int 0, .ref m_answer, .int 0, .int 0]))]) [0] (by decide) rfl
  have hKc := hK.sub (tys' := []) [] rfl
  have hFc := va_free (wc := [(h0, .inr (12, [.ref m_row, .ref m_in, .ref m_out, .int 0, .int 0, .int 0, .int 0, .int 0, .ref m_kept, .ref m_keptSize, .ref m_nIp, .ref m_nHeard, .ref m_nHard, .int 0, .int 0, .ref m_gIp, .ref m_gNumber, .ref m_gProtocol, .ref m_gTold, .ref m_gBegun, .ref m_gOrder, .ref m_gBytes, .ref m_gThere, .int 0, .int 0, .ref m_pTarget, .ref m_pBytes, .ref m_pLong, .ref m_pSize, .ref m_pSum, .int 0, .ref m_peer, .int 0, .int 0, .int 0, .int 0, .ref m_answer, .int 0, .int 0]))]) hD hS hA [0] rfl
  have hkc : 0 + 0 ≤ 0 := (Nat.le_of_ble_eq_true rfl)
  refine va_calli (va_runV (As := [.int p0]) (rest := [.ref h0]) hfx (c_Mo_isKept l dC dI h0 m_row m_in m_out m_kept m_keptSize m_nIp m_nHeard m_nHard m_gIp m_gNumber m_gProtocol m_gTold m_gBegun m_gOrder m_gBytes m_gThere m_pTarget m_pBytes m_pLong m_pSize m_pSum m_peer m_answer p0 s.heap.size) ⟨(ux_cb 1 hT tw_1964 tw_1961 tw_13 rfl rfl (by decide +kernel) ⟨(Nat.le_of_ble_eq_true rfl), (Nat.le_of_ble_eq_true rfl)⟩), (ux_T_at hT tw_1963 rfl), (ux_T_at hT (ux_tp (q := (⟨"UnikernelHttpModel", "isKept", "(I)Z"⟩, 39)) (by decide +kernel)) rfl)⟩ (ux_preV (r := (R_Mo, F_Mo, 39)) (ci := 12) (q0 := 0) [.int p0] hT hPc hKc hDc rfl rfl) rfl rfl hl.1 rfl (lv_room (Nat.le_of_ble_eq_true rfl)) d_Mo_size_3 ⟨(Nat.le_of_ble_eq_true rfl), (Nat.le_of_ble_eq_true rfl)⟩) hS (fun q _ h => hFc q h) hFc (fun r1 u t H1 locs ht hvm hw hB hz1 hk1 hS => ?_)
  obtain ⟨hP1, hK1, hD1⟩ := hB
  rw [ht] at hP1
  have hK1 := va_K.moved hvm.symm hK1
  obtain ⟨hP, hD⟩ := va_join (wr := []) (w1 := [(h0, .inr (12, [.ref m_row, .ref m_in, .ref m_out, .int 0, .int 0, .int 0, .int 0, .int 0, .ref m_kept, .ref m_keptSize, .ref m_nIp, .ref m_nHeard, .ref m_nHard, .int 0, .int 0, .ref m_gIp, .ref m_gNumber, .ref m_gProtocol, .ref m_gTold, .ref m_gBegun, .ref m_gOrder, .ref m_gBytes, .ref m_gThere, .int 0, .int 0, .ref m_pTarget, .ref m_pBytes, .ref m_pLong, .ref m_pSize, .ref m_pSum, .int 0, .ref m_peer, .int 0, .int 0, .int 0, .int 0, .ref m_answer, .int 0, .int 0]))]) hP hD [0] [] rfl rfl (by decide) (by decide) hk1 hFc hP1 hD1
  have hK := (hK.sub (tys' := []) [] rfl).app hK1
  generalize H1 = H at hP hS ⊢
  have hP : va_P (dC, dI) cls [(h0, .inr (12, [.ref m_row, .ref m_in, .ref m_out, .int 0, .int 0, .int 0, .int 0, .int 0, .ref m_kept, .ref m_keptSize, .ref m_nIp, .ref m_nHeard, .ref m_nHard, .int 0, .int 0, .ref m_gIp, .ref m_gNumber, .ref m_gProtocol, .ref m_gTold, .ref m_gBegun, .ref m_gOrder, .ref m_gBytes, .ref m_gThere, .int 0, .int 0, .ref m_pTarget, .ref m_pBytes, .ref m_pLong, .ref m_pSize, .ref m_pSum, .int 0, .ref m_peer, .int 0, .int 0, .int 0, .int 0, .ref m_answer, .int 0, .int 0]))] H := hP
  have hD : va_D A [(h0, .inr (12, [.ref m_row, .ref m_in, .ref m_out, .int 0, .int 0, .int 0, .int 0, .int 0, .ref m_kept, .ref m_keptSize, .ref m_nIp, .ref m_nHeard, .ref m_nHard, .int 0, .int 0, .ref m_gIp, .ref m_gNumber, .ref m_gProtocol, .ref m_gTold, .ref m_gBegun, .ref m_gOrder, .ref m_gBytes, .ref m_gThere, .int 0, .int 0, .ref m_pTarget, .ref m_pBytes, .ref m_pLong, .ref m_pSize, .ref m_pSum, .int 0, .ref m_peer, .int 0, .int 0, .int 0, .int 0, .ref m_answer, .int 0, .int 0]))] := hD
  have hK : va_K (dC, dI) cls [] s := hK
  obtain rfl : r1 = 0 := hw
  refine lv_if_eq (tgt := 13) hx hb d_Mo_size_6 (by decide) (fun _ => ?_) (fun hc => absurd (by decide) hc)
  refine lv_iconst (v := 1) hx hb d_Mo_size_13 (by decide) ?_
  refine va_put (D := (dC, dI)) (ci := 12) (v := .int 1) (ty := .int) (C := R_Mo) (T := F_Mo) (N := 39) hx hb (u_Mo hT) (fun _ h => h) t_Mo k_Mo n_Mo hown hK hP hD hS 0 rfl rfl 4 (by decide) (ux_T_at hT tw_1598 rfl) (fun _ h9 => h9) rfl (by decide +kernel) rfl rfl (Nat.le_of_ble_eq_true rfl) d_Mo_size_14 (fun H locs hP hD hS => ?_)
  have hP : va_P (dC, dI) cls [(h0, .inr (12, [.ref m_row, .ref m_in, .ref m_out, .int 0, .int 1, .int 0, .int 0, .int 0, .ref m_kept, .ref m_keptSize, .ref m_nIp, .ref m_nHeard, .ref m_nHard, .int 0, .int 0, .ref m_gIp, .ref m_gNumber, .ref m_gProtocol, .ref m_gTold, .ref m_gBegun, .ref m_gOrder, .ref m_gBytes, .ref m_gThere, .int 0, .int 0, .ref m_pTarget, .ref m_pBytes, .ref m_pLong, .ref m_pSize, .ref m_pSum, .int 0, .ref m_peer, .int 0, .int 0, .int 0, .int 0, .ref m_answer, .int 0, .int 0]))] H := hP
  have hD : va_D A [(h0, .inr (12, [.ref m_row, .ref m_in, .ref m_out, .int 0, .int 1, .int 0, .int 0, .int 0, .ref m_kept, .ref m_keptSize, .ref m_nIp, .ref m_nHeard, .ref m_nHard, .int 0, .int 0, .ref m_gIp, .ref m_gNumber, .ref m_gProtocol, .ref m_gTold, .ref m_gBegun, .ref m_gOrder, .ref m_gBytes, .ref m_gThere, .int 0, .int 0, .ref m_pTarget, .ref m_pBytes, .ref m_pLong, .ref m_pSize, .ref m_pSum, .int 0, .ref m_peer, .int 0, .int 0, .int 0, .int 0, .ref m_answer, .int 0, .int 0]))] := hD
  refine lv_aload_n hx hb d_Mo_size_17 rfl (lv_at hl 0 rfl) ?_
  refine va_get (D := (dC, dI)) (ci := 12) (v := .int 1) (C := R_Mo) (T := F_Mo) (N := 39) hx hb (u_Mo hT) (fun _ h => h) hown hK hP 0 rfl rfl 4 (by decide) (ux_T_at hT tw_1598 rfl) (fun _ h9 => h9) rfl d_Mo_size_18 ?_
  refine lv_if_le (tgt := 28) hx hb d_Mo_size_21 (by decide) (fun hc => absurd hc (by decide)) (fun _ => ?_)
  refine lv_iconst (v := 0) hx hb d_Mo_size_24 (by decide) ?_
  refine lv_goto hx hb d_Mo_size_25 (tgt := 37) (by decide) ?_
  have hP9 := hP.sub (ws' := [(h0, .inr (12, [.ref m_row, .ref m_in, .ref m_out, .int 0, .int 1, .int 0, .int 0, .int 0, .ref m_kept, .ref m_keptSize, .ref m_nIp, .ref m_nHeard, .ref m_nHard, .int 0, .int 0, .ref m_gIp, .ref m_gNumber, .ref m_gProtocol, .ref m_gTold, .ref m_gBegun, .ref m_gOrder, .ref m_gBytes, .ref m_gThere, .int 0, .int 0, .ref m_pTarget, .ref m_pBytes, .ref m_pLong, .ref m_pSize, .ref m_pSum, .int 0, .ref m_peer, .int 0, .int 0, .int 0, .int 0, .ref m_answer, .int 0, .int 0]))]) [0] rfl
  have hD9 := hD.sub (ws' := [(h0, .inr (12, [.ref m_row, .ref m_in, .ref m_out, .int 0, .int 1, .int 0, .int 0, .int 0, .ref m_kept, .ref m_keptSize, .ref m_nIp, .ref m_nHeard, .ref m_nHard, .int 0, .int 0, .ref m_gIp, .ref m_gNumber, .ref m_gProtocol, .ref m_gTold, .ref m_gBegun, .ref m_gOrder, .ref m_gBytes, .ref m_gThere, .int 0, .int 0, .ref m_pTarget, .ref m_pBytes, .ref m_pLong, .ref m_pSize, .ref m_pSum, .int 0, .ref m_peer, .int 0, .int 0, .int 0, .int 0, .ref m_answer, .int 0, .int 0]))]) [0] (by decide) rfl
  have hK9 := hK.sub (tys' := []) [] rfl
  refine W.widen (k := 0) (n := 0) (Nat.le_of_ble_eq_true rfl) (Nat.le_of_ble_eq_true rfl) ?_
  exact W.iret (v := 0) hx hb hr (fun t ht hW => ⟨⟨_, (), rfl, rfl, by rw [ht]; exact hP9, va_K.moved hW.alike hK9, hD9⟩, hS.F ht⟩) hS.2.2 d_Mo_size_37
set_option maxHeartbeats 4000000 in
set_option maxRecDepth 100000 in
theorem c_Mo_bytes (l : Launch) (dC : Nat → ClassId) (dI : Nat → Nat → Nat) (h0 : Nat) (m_row : Nat) (m_in : Nat) (m_out : Nat) (m_kept : Nat) (m_keptSize : Nat) (m_nIp : Nat) (m_nHeard : Nat) (m_nHard : Nat) (m_gIp : Nat) (m_gNumber : Nat) (m_gProtocol : Nat) (m_gTold : Nat) (m_gBegun : Nat) (m_gOrder : Nat) (m_gBytes : Nat) (m_gThere : Nat) (m_pTarget : Nat) (m_pBytes : Nat) (m_pLong : Nat) (m_pSize : Nat) (m_pSum : Nat) (m_peer : Nat) (m_answer : Nat) (p0 : Int32) (p1 : Int32) (sz : Nat) : Met l y_Mo_bytes [Cond.code y_Mo_bytes b_Mo_bytes 6 (some .long)] ({ frames := 40, cells := 0, slots := 0, locals := 600 }) (ux_Pc [.ref h0, .int p0, .int p1] (dC, dI) cls [(h0, .inr (12, [.ref m_row, .ref m_in, .ref m_out, .int 0, .int 0, .int 0, .int 0, .int 0, .ref m_kept, .ref m_keptSize, .ref m_nIp, .ref m_nHeard, .ref m_nHard, .int 0, .int 0, .ref m_gIp, .ref m_gNumber, .ref m_gProtocol, .ref m_gTold, .ref m_gBegun, .ref m_gOrder, .ref m_gBytes, .ref m_gThere, .int 0, .int 0, .ref m_pTarget, .ref m_pBytes, .ref m_pLong, .ref m_pSize, .ref m_pSum, .int 0, .ref m_peer, .int 0, .int 0, .int 0, .int 0, .ref m_answer, .int 0, .int 0]))] [] sz) (va_Ql (fun (r : Int64) (_ : Unit) => r = 0) (fun (_ : Unit) (t : State) => ux_B (dC, dI) cls (va_A [(h0, .inr (12, [.ref m_row, .ref m_in, .ref m_out, .int 0, .int 0, .int 0, .int 0, .int 0, .ref m_kept, .ref m_keptSize, .ref m_nIp, .ref m_nHeard, .ref m_nHard, .int 0, .int 0, .ref m_gIp, .ref m_gNumber, .ref m_gProtocol, .ref m_gTold, .ref m_gBegun, .ref m_gOrder, .ref m_gBytes, .ref m_gThere, .int 0, .int 0, .ref m_pTarget, .ref m_pBytes, .ref m_pLong, .ref m_pSize, .ref m_pSum, .int 0, .ref m_peer, .int 0, .int 0, .int 0, .int 0, .ref m_answer, .int 0, .int 0]))] sz) [(h0, .inr (12, [.ref m_row, .ref m_in, .ref m_out, .int 0, .int 1, .int 0, .int 0, .int 0, .ref m_kept, .ref m_keptSize, .ref m_nIp, .ref m_nHeard, .ref m_nHard, .int 0, .int 0, .ref m_gIp, .ref m_gNumber, .ref m_gProtocol, .ref m_gTold, .ref m_gBegun, .ref m_gOrder, .ref m_gBytes, .ref m_gThere, .int 0, .int 0, .ref m_pTarget, .ref m_pBytes, .ref m_pLong, .ref m_pSize, .ref m_pSum, .int 0, .ref m_peer, .int 0, .int 0, .int 0, .int 0, .ref m_answer, .int 0, .int 0]))] [] t) (va_A [(h0, .inr (12, [.ref m_row, .ref m_in, .ref m_out, .int 0, .int 0, .int 0, .int 0, .int 0, .ref m_kept, .ref m_keptSize, .ref m_nIp, .ref m_nHeard, .ref m_nHard, .int 0, .int 0, .ref m_gIp, .ref m_gNumber, .ref m_gProtocol, .ref m_gTold, .ref m_gBegun, .ref m_gOrder, .ref m_gBytes, .ref m_gThere, .int 0, .int 0, .ref m_pTarget, .ref m_pBytes, .ref m_pLong, .ref m_pSize, .ref m_pSum, .int 0, .ref m_peer, .int 0, .int 0, .int 0, .int 0, .ref m_answer, .int 0, .int 0]))] sz)) 0 0 (va_A [(h0, .inr (12, [.ref m_row, .ref m_in, .ref m_out, .int 0, .int 0, .int 0, .int 0, .int 0, .ref m_kept, .ref m_keptSize, .ref m_nIp, .ref m_nHeard, .ref m_nHard, .int 0, .int 0, .ref m_gIp, .ref m_gNumber, .ref m_gProtocol, .ref m_gTold, .ref m_gBegun, .ref m_gOrder, .ref m_gBytes, .ref m_gThere, .int 0, .int 0, .ref m_pTarget, .ref m_pBytes, .ref m_pLong, .ref m_pSize, .ref m_pSum, .int 0, .ref m_peer, .int 0, .int 0, .int 0, .int 0, .ref m_answer, .int 0, .int 0]))] sz) := by
  refine Met.ofW (cc := b_Mo_bytes) (maxL := 6) (ret := some .long) (by decide) rfl ?_
  intro p e s m args below meth c s₁ B hml hv
  obtain ⟨rfl, hsz, hP, hK, hD0, hT⟩ := hv
  have hx := B.exec
  have hb := B.bytes
  have hr := B.returns
  have hown : s.vm.findClass "UnikernelHttpModel" = some m.cls := findClass_of_methodNamed B.named
  have hlocks := B.notSynchronized
  subst hsz
  have hD := hD0.self (sz := s.heap.size)
  have hns := ux_ns hP
  generalize hAe : va_A [(h0, .inr (12, [.ref m_row, .ref m_in, .ref m_out, .int 0, .int 0, .int 0, .int 0, .int 0, .ref m_kept, .ref m_keptSize, .ref m_nIp, .ref m_nHeard, .ref m_nHard, .int 0, .int 0, .ref m_gIp, .ref m_gNumber, .ref m_gProtocol, .ref m_gTold, .ref m_gBegun, .ref m_gOrder, .ref m_gBytes, .ref m_gThere, .int 0, .int 0, .ref m_pTarget, .ref m_pBytes, .ref m_pLong, .ref m_pSize, .ref m_pSum, .int 0, .ref m_peer, .int 0, .int 0, .int 0, .int 0, .ref m_answer, .int 0, .int 0]))] s.heap.size = A at hD hns ⊢
  have hA : ∀ q : Nat, s.heap.size ≤ q → A q := fun q h => by rw [← hAe]; exact Or.inr h
  have hS : va_S A s.heap s.heap [] := va_S.rf
  have hl := lv_entry ([.ref h0, .int p0, .int p1]) (n := 6) (Nat.le_of_ble_eq_true rfl)
  rw [lg_entry_eq]
  generalize (lg_sl ([.ref h0, .int p0, .int p1]) ++ List.replicate (6 - (lg_sl ([.ref h0, .int p0, .int p1])).length) Slot.unset).toArray = ls at hl ⊢
  have hl : lv_has ls 6 [(0, .ref h0), (1, .int p0), (2, .int p1)] := hl
  have hfx : CallFix p m c b_Mo_bytes 6 s ([.ref h0, .int p0, .int p1] : List Value).toArray [] "UnikernelHttpModel" := ⟨hx, hb, hml, hown, fun _ h => by cases h⟩
  refine lv_aload_n hx hb d_Mo_bytes_0 rfl (lv_at hl 0 rfl) ?_
  refine lv_aload_n hx hb d_Mo_bytes_1 rfl (lv_at hl 0 rfl) ?_
  refine lv_iload_n hx hb d_Mo_bytes_2 rfl (lv_at hl 1 rfl) ?_
  have hPc := hP.sub (ws' := [(h0, .inr (12, [.ref m_row, .ref m_in, .ref m_out, .int 0, .int 0, .int 0, .int 0, .int 0, .ref m_kept, .ref m_keptSize, .ref m_nIp, .ref m_nHeard, .ref m_nHard, .int 0, .int 0, .ref m_gIp, .ref m_gNumber, .ref m_gProtocol, .ref m_gTold, .ref m_gBegun, .ref m_gOrder, .ref m_gBytes, .ref m_gThere, .int 0, .int 0, .ref m_pTarget, .ref m_pBytes, .ref m_pLong, .ref m_pSize, .ref m_pSum, .int 0, .ref m_peer, .int 0, .int 0, .int 0, .int 0, .ref m_answer, .int 0, .int 0]))]) [0] rfl
  have hDc := hD.sub (ws' := [(h0, .inr (12, [.ref m_row, .ref m_in, .ref m_out, .int 0, .int 0, .int 0, .int 0, .int 0, .ref m_kept, .ref m_keptSize, .ref m_nIp, .ref m_nHeard, .ref m_nHard, .int 0, .int 0, .ref m_gIp, .ref m_gNumber, .ref m_gProtocol, .ref m_gTold, .ref m_gBegun, .ref m_gOrder, .ref m_gBytes, .ref m_gThere, .int 0, .int 0, .ref m_pTarget, .ref m_pBytes, .ref m_pLong, .ref m_pSize, .ref m_pSum, .int 0, .ref m_peer, .int 0, .int 0, .int 0, .int 0, .ref m_answer, .int 0, .int 0]))]) [0] (by decide) rfl
  have hKc := hK.sub (tys' := []) [] rfl
  have hFc := va_free (wc := [(h0, .inr (12, [.ref m_row, .ref m_in, .ref m_out, .int 0, .int 0, .int 0, .int 0, .int 0, .ref m_kept, .ref m_keptSize, .ref m_nIp, .ref m_nHeard, .ref m_nHard, .int 0, .int 0, .ref m_gIp, .ref m_gNumber, .ref m_gProtocol, .ref m_gTold, .ref m_gBegun, .ref m_gOrder, .ref m_gBytes, .ref m_gThere, .int 0, .int 0, .ref m_pTarget, .ref m_pBytes, .ref m_pLong, .ref m_pSize, .ref m_pSum, .int 0, .ref m_peer, .int 0, .int 0, .int 0, .int 0, .ref m_answer, .int 0, .int 0]))]) hD hS hA [0] rfl
  have hkc : 0 + 0 ≤ 0 := (Nat.le_of_ble_eq_true rfl)
  refine va_calli (va_runV (As := [.int p0]) (rest := [.ref h0]) hfx (c_Mo_isKept l dC dI h0 m_row m_in m_out m_kept m_keptSize m_nIp m_nHeard m_nHard m_gIp m_gNumber m_gProtocol m_gTold m_gBegun m_gOrder m_gBytes m_gThere m_pTarget m_pBytes m_pLong m_pSize m_pSum m_peer m_answer p0 s.heap.size) ⟨(ux_cb 1 hT tw_1964 tw_1961 tw_13 rfl rfl (by decide +kernel) ⟨(Nat.le_of_ble_eq_true rfl), (Nat.le_of_ble_eq_true rfl)⟩), (ux_T_at hT tw_1963 rfl), (ux_T_at hT (ux_tp (q := (⟨"UnikernelHttpModel", "isKept", "(I)Z"⟩, 39)) (by decide +kernel)) rfl)⟩ (ux_preV (r := (R_Mo, F_Mo, 39)) (ci := 12) (q0 := 0) [.int p0] hT hPc hKc hDc rfl rfl) rfl rfl hl.1 rfl (lv_room (Nat.le_of_ble_eq_true rfl)) d_Mo_bytes_3 ⟨(Nat.le_of_ble_eq_true rfl), (Nat.le_of_ble_eq_true rfl)⟩) hS (fun q _ h => hFc q h) hFc (fun r1 u t H1 locs ht hvm hw hB hz1 hk1 hS => ?_)
  obtain ⟨hP1, hK1, hD1⟩ := hB
  rw [ht] at hP1
  have hK1 := va_K.moved hvm.symm hK1
  obtain ⟨hP, hD⟩ := va_join (wr := []) (w1 := [(h0, .inr (12, [.ref m_row, .ref m_in, .ref m_out, .int 0, .int 0, .int 0, .int 0, .int 0, .ref m_kept, .ref m_keptSize, .ref m_nIp, .ref m_nHeard, .ref m_nHard, .int 0, .int 0, .ref m_gIp, .ref m_gNumber, .ref m_gProtocol, .ref m_gTold, .ref m_gBegun, .ref m_gOrder, .ref m_gBytes, .ref m_gThere, .int 0, .int 0, .ref m_pTarget, .ref m_pBytes, .ref m_pLong, .ref m_pSize, .ref m_pSum, .int 0, .ref m_peer, .int 0, .int 0, .int 0, .int 0, .ref m_answer, .int 0, .int 0]))]) hP hD [0] [] rfl rfl (by decide) (by decide) hk1 hFc hP1 hD1
  have hK := (hK.sub (tys' := []) [] rfl).app hK1
  generalize H1 = H at hP hS ⊢
  have hP : va_P (dC, dI) cls [(h0, .inr (12, [.ref m_row, .ref m_in, .ref m_out, .int 0, .int 0, .int 0, .int 0, .int 0, .ref m_kept, .ref m_keptSize, .ref m_nIp, .ref m_nHeard, .ref m_nHard, .int 0, .int 0, .ref m_gIp, .ref m_gNumber, .ref m_gProtocol, .ref m_gTold, .ref m_gBegun, .ref m_gOrder, .ref m_gBytes, .ref m_gThere, .int 0, .int 0, .ref m_pTarget, .ref m_pBytes, .ref m_pLong, .ref m_pSize, .ref m_pSum, .int 0, .ref m_peer, .int 0, .int 0, .int 0, .int 0, .ref m_answer, .int 0, .int 0]))] H := hP
  have hD : va_D A [(h0, .inr (12, [.ref m_row, .ref m_in, .ref m_out, .int 0, .int 0, .int 0, .int 0, .int 0, .ref m_kept, .ref m_keptSize, .ref m_nIp, .ref m_nHeard, .ref m_nHard, .int 0, .int 0, .ref m_gIp, .ref m_gNumber, .ref m_gProtocol, .ref m_gTold, .ref m_gBegun, .ref m_gOrder, .ref m_gBytes, .ref m_gThere, .int 0, .int 0, .ref m_pTarget, .ref m_pBytes, .ref m_pLong, .ref m_pSize, .ref m_pSum, .int 0, .ref m_peer, .int 0, .int 0, .int 0, .int 0, .ref m_answer, .int 0, .int 0]))] := hD
  have hK : va_K (dC, dI) cls [] s := hK
  obtain rfl : r1 = 0 := hw
  refine lv_if_eq (tgt := 24) hx hb d_Mo_bytes_6 (by decide) (fun _ => ?_) (fun hc => absurd (by decide) hc)
  refine lv_iconst (v := 1) hx hb d_Mo_bytes_24 (by decide) ?_
  refine va_put (D := (dC, dI)) (ci := 12) (v := .int 1) (ty := .int) (C := R_Mo) (T := F_Mo) (N := 39) hx hb (u_Mo hT) (fun _ h => h) t_Mo k_Mo n_Mo hown hK hP hD hS 0 rfl rfl 4 (by decide) (ux_T_at hT tw_1598 rfl) (fun _ h9 => h9) rfl (by decide +kernel) rfl rfl (Nat.le_of_ble_eq_true rfl) d_Mo_bytes_25 (fun H locs hP hD hS => ?_)
  have hP : va_P (dC, dI) cls [(h0, .inr (12, [.ref m_row, .ref m_in, .ref m_out, .int 0, .int 1, .int 0, .int 0, .int 0, .ref m_kept, .ref m_keptSize, .ref m_nIp, .ref m_nHeard, .ref m_nHard, .int 0, .int 0, .ref m_gIp, .ref m_gNumber, .ref m_gProtocol, .ref m_gTold, .ref m_gBegun, .ref m_gOrder, .ref m_gBytes, .ref m_gThere, .int 0, .int 0, .ref m_pTarget, .ref m_pBytes, .ref m_pLong, .ref m_pSize, .ref m_pSum, .int 0, .ref m_peer, .int 0, .int 0, .int 0, .int 0, .ref m_answer, .int 0, .int 0]))] H := hP
  have hD : va_D A [(h0, .inr (12, [.ref m_row, .ref m_in, .ref m_out, .int 0, .int 1, .int 0, .int 0, .int 0, .ref m_kept, .ref m_keptSize, .ref m_nIp, .ref m_nHeard, .ref m_nHard, .int 0, .int 0, .ref m_gIp, .ref m_gNumber, .ref m_gProtocol, .ref m_gTold, .ref m_gBegun, .ref m_gOrder, .ref m_gBytes, .ref m_gThere, .int 0, .int 0, .ref m_pTarget, .ref m_pBytes, .ref m_pLong, .ref m_pSize, .ref m_pSum, .int 0, .ref m_peer, .int 0, .int 0, .int 0, .int 0, .ref m_answer, .int 0, .int 0]))] := hD
  refine lv_aload_n hx hb d_Mo_bytes_28 rfl (lv_at hl 0 rfl) ?_
  refine va_get (D := (dC, dI)) (ci := 12) (v := .int 1) (C := R_Mo) (T := F_Mo) (N := 39) hx hb (u_Mo hT) (fun _ h => h) hown hK hP 0 rfl rfl 4 (by decide) (ux_T_at hT tw_1598 rfl) (fun _ h9 => h9) rfl d_Mo_bytes_29 ?_
  refine lv_if_le (tgt := 37) hx hb d_Mo_bytes_32 (by decide) (fun hc => absurd hc (by decide)) (fun _ => ?_)
  refine lv_lconst (v := 0) hx hb d_Mo_bytes_35 (by decide) ?_
  have hP9 := hP.sub (ws' := [(h0, .inr (12, [.ref m_row, .ref m_in, .ref m_out, .int 0, .int 1, .int 0, .int 0, .int 0, .ref m_kept, .ref m_keptSize, .ref m_nIp, .ref m_nHeard, .ref m_nHard, .int 0, .int 0, .ref m_gIp, .ref m_gNumber, .ref m_gProtocol, .ref m_gTold, .ref m_gBegun, .ref m_gOrder, .ref m_gBytes, .ref m_gThere, .int 0, .int 0, .ref m_pTarget, .ref m_pBytes, .ref m_pLong, .ref m_pSize, .ref m_pSum, .int 0, .ref m_peer, .int 0, .int 0, .int 0, .int 0, .ref m_answer, .int 0, .int 0]))]) [0] rfl
  have hD9 := hD.sub (ws' := [(h0, .inr (12, [.ref m_row, .ref m_in, .ref m_out, .int 0, .int 1, .int 0, .int 0, .int 0, .ref m_kept, .ref m_keptSize, .ref m_nIp, .ref m_nHeard, .ref m_nHard, .int 0, .int 0, .ref m_gIp, .ref m_gNumber, .ref m_gProtocol, .ref m_gTold, .ref m_gBegun, .ref m_gOrder, .ref m_gBytes, .ref m_gThere, .int 0, .int 0, .ref m_pTarget, .ref m_pBytes, .ref m_pLong, .ref m_pSize, .ref m_pSum, .int 0, .ref m_peer, .int 0, .int 0, .int 0, .int 0, .ref m_answer, .int 0, .int 0]))]) [0] (by decide) rfl
  have hK9 := hK.sub (tys' := []) [] rfl
  refine W.widen (k := 0) (n := 0) (Nat.le_of_ble_eq_true rfl) (Nat.le_of_ble_eq_true rfl) ?_
  exact W.lret (v := 0) hx hb hr (fun t ht hW => ⟨⟨_, (), rfl, rfl, by rw [ht]; exact hP9, va_K.moved hW.alike hK9, hD9⟩, hS.F ht⟩) hS.2.2 d_Mo_bytes_36
set_option maxHeartbeats 4000000 in
set_option maxRecDepth 100000 in
theorem c_Mo_count_0 (l : Launch) (dC : Nat → ClassId) (dI : Nat → Nat → Nat) (h0 : Nat) (m_row : Nat) (m_in : Nat) (m_out : Nat) (m_kept : Nat) (m_keptSize : Nat) (m_nIp : Nat) (m_nHeard : Nat) (m_nHard : Nat) (m_gIp : Nat) (m_gNumber : Nat) (m_gProtocol : Nat) (m_gTold : Nat) (m_gBegun : Nat) (m_gOrder : Nat) (m_gBytes : Nat) (m_gThere : Nat) (m_pTarget : Nat) (m_pBytes : Nat) (m_pLong : Nat) (m_pSize : Nat) (m_pSum : Nat) (m_peer : Nat) (m_answer : Nat) (sz : Nat) : Met l y_Mo_count [Cond.code y_Mo_count b_Mo_count 2 (some .int)] ({ frames := 40, cells := 0, slots := 0, locals := 600 }) (ux_Pc [.ref h0, .int 0] (dC, dI) cls [(h0, .inr (12, [.ref m_row, .ref m_in, .ref m_out, .int 0, .int 0, .int 0, .int 0, .int 0, .ref m_kept, .ref m_keptSize, .ref m_nIp, .ref m_nHeard, .ref m_nHard, .int 0, .int 0, .ref m_gIp, .ref m_gNumber, .ref m_gProtocol, .ref m_gTold, .ref m_gBegun, .ref m_gOrder, .ref m_gBytes, .ref m_gThere, .int 0, .int 0, .ref m_pTarget, .ref m_pBytes, .ref m_pLong, .ref m_pSize, .ref m_pSum, .int 0, .ref m_peer, .int 0, .int 0, .int 0, .int 0, .ref m_answer, .int 0, .int 0]))] [] sz) (va_Qi (fun (r : Int32) (_ : Unit) => r = 0) (fun (_ : Unit) (t : State) => ux_B (dC, dI) cls (va_A [(h0, .inr (12, [.ref m_row, .ref m_in, .ref m_out, .int 0, .int 0, .int 0, .int 0, .int 0, .ref m_kept, .ref m_keptSize, .ref m_nIp, .ref m_nHeard, .ref m_nHard, .int 0, .int 0, .ref m_gIp, .ref m_gNumber, .ref m_gProtocol, .ref m_gTold, .ref m_gBegun, .ref m_gOrder, .ref m_gBytes, .ref m_gThere, .int 0, .int 0, .ref m_pTarget, .ref m_pBytes, .ref m_pLong, .ref m_pSize, .ref m_pSum, .int 0, .ref m_peer, .int 0, .int 0, .int 0, .int 0, .ref m_answer, .int 0, .int 0]))] sz) [(h0, .inr (12, [.ref m_row, .ref m_in, .ref m_out, .int 0, .int 0, .int 0, .int 0, .int 0, .ref m_kept, .ref m_keptSize, .ref m_nIp, .ref m_nHeard, .ref m_nHard, .int 0, .int 0, .ref m_gIp, .ref m_gNumber, .ref m_gProtocol, .ref m_gTold, .ref m_gBegun, .ref m_gOrder, .ref m_gBytes, .ref m_gThere, .int 0, .int 0, .ref m_pTarget, .ref m_pBytes, .ref m_pLong, .ref m_pSize, .ref m_pSum, .int 0, .ref m_peer, .int 0, .int 0, .int 0, .int 0, .ref m_answer, .int 0, .int 0]))] [] t) (va_A [(h0, .inr (12, [.ref m_row, .ref m_in, .ref m_out, .int 0, .int 0, .int 0, .int 0, .int 0, .ref m_kept, .ref m_keptSize, .ref m_nIp, .ref m_nHeard, .ref m_nHard, .int 0, .int 0, .ref m_gIp, .ref m_gNumber, .ref m_gProtocol, .ref m_gTold, .ref m_gBegun, .ref m_gOrder, .ref m_gBytes, .ref m_gThere, .int 0, .int 0, .ref m_pTarget, .ref m_pBytes, .ref m_pLong, .ref m_pSize, .ref m_pSum, .int 0, .ref m_peer, .int 0, .int 0, .int 0, .int 0, .ref m_answer, .int 0, .int 0]))] sz)) 0 0 (va_A [(h0, .inr (12, [.ref m_row, .ref m_in, .ref m_out, .int 0, .int 0, .int 0, .int 0, .int 0, .ref m_kept, .ref m_keptSize, .ref m_nIp, .ref m_nHeard, .ref m_nHard, .int 0, .int 0, .ref m_gIp, .ref m_gNumber, .ref m_gProtocol, .ref m_gTold, .ref m_gBegun, .ref m_gOrder, .ref m_gBytes, .ref m_gThere, .int 0, .int 0, .ref m_pTarget, .ref m_pBytes, .ref m_pLong, .ref m_pSize, .ref m_pSum, .int 0, .ref m_peer, .int 0, .int 0, .int 0, .int 0, .ref m_answer, .int 0, .int 0]))] sz) := by
  refine Met.ofW (cc := b_Mo_count) (maxL := 2) (ret := some .int) (by decide) rfl ?_
  intro p e s m args below meth c s₁ B hml hv
  obtain ⟨rfl, hsz, hP, hK, hD0, hT⟩ := hv
  have hx := B.exec
  have hb := B.bytes
  have hr := B.returns
  have hown : s.vm.findClass "UnikernelHttpModel" = some m.cls := findClass_of_methodNamed B.named
  have hlocks := B.notSynchronized
  subst hsz
  have hD := hD0.self (sz := s.heap.size)
  have hns := ux_ns hP
  generalize hAe : va_A [(h0, .inr (12, [.ref m_row, .ref m_in, .ref m_out, .int 0, .int 0, .int 0, .int 0, .int 0, .ref m_kept, .ref m_keptSize, .ref m_nIp, .ref m_nHeard, .ref m_nHard, .int 0, .int 0, .ref m_gIp, .ref m_gNumber, .ref m_gProtocol, .ref m_gTold, .ref m_gBegun, .ref m_gOrder, .ref m_gBytes, .ref m_gThere, .int 0, .int 0, .ref m_pTarget, .ref m_pBytes, .ref m_pLong, .ref m_pSize, .ref m_pSum, .int 0, .ref m_peer, .int 0, .int 0, .int 0, .int 0, .ref m_answer, .int 0, .int 0]))] s.heap.size = A at hD hns ⊢
  have hA : ∀ q : Nat, s.heap.size ≤ q → A q := fun q h => by rw [← hAe]; exact Or.inr h
  have hS : va_S A s.heap s.heap [] := va_S.rf
  have hl := lv_entry ([.ref h0, .int 0]) (n := 2) (Nat.le_of_ble_eq_true rfl)
  rw [lg_entry_eq]
  generalize (lg_sl ([.ref h0, .int 0]) ++ List.replicate (2 - (lg_sl ([.ref h0, .int 0])).length) Slot.unset).toArray = ls at hl ⊢
  have hl : lv_has ls 2 [(0, .ref h0), (1, .int 0)] := hl
  have hfx : CallFix p m c b_Mo_count 2 s ([.ref h0, .int 0] : List Value).toArray [] "UnikernelHttpModel" := ⟨hx, hb, hml, hown, fun _ h => by cases h⟩
  refine lv_aload_n hx hb d_Mo_count_0 rfl (lv_at hl 0 rfl) ?_
  refine lv_iload_n hx hb d_Mo_count_1 rfl (lv_at hl 1 rfl) ?_
  refine lv_if_lt (tgt := 11) hx hb d_Mo_count_2 (by decide) (fun hc => absurd hc (by decide)) (fun _ => ?_)
  refine lv_iload_n hx hb d_Mo_count_5 rfl (lv_at hl 1 rfl) ?_
  refine lv_bipush (v := 7) hx hb d_Mo_count_6 (by decide) ?_
  refine lv_icmp_le (tgt := 15) hx hb d_Mo_count_8 (by decide) (fun _ => ?_) (fun hc => absurd (by decide) hc)
  refine lv_iconst (v := 0) hx hb d_Mo_count_15 (by decide) ?_
  refine va_put (D := (dC, dI)) (ci := 12) (v := .int 0) (ty := .int) (C := R_Mo) (T := F_Mo) (N := 39) hx hb (u_Mo hT) (fun _ h => h) t_Mo k_Mo n_Mo hown hK hP hD hS 0 rfl rfl 4 (by decide) (ux_T_at hT tw_1598 rfl) (fun _ h9 => h9) rfl (by decide +kernel) rfl rfl (Nat.le_of_ble_eq_true rfl) d_Mo_count_16 (fun H locs hP hD hS => ?_)
  have hP : va_P (dC, dI) cls [(h0, .inr (12, [.ref m_row, .ref m_in, .ref m_out, .int 0, .int 0, .int 0, .int 0, .int 0, .ref m_kept, .ref m_keptSize, .ref m_nIp, .ref m_nHeard, .ref m_nHard, .int 0, .int 0, .ref m_gIp, .ref m_gNumber, .ref m_gProtocol, .ref m_gTold, .ref m_gBegun, .ref m_gOrder, .ref m_gBytes, .ref m_gThere, .int 0, .int 0, .ref m_pTarget, .ref m_pBytes, .ref m_pLong, .ref m_pSize, .ref m_pSum, .int 0, .ref m_peer, .int 0, .int 0, .int 0, .int 0, .ref m_answer, .int 0, .int 0]))] H := hP
  have hD : va_D A [(h0, .inr (12, [.ref m_row, .ref m_in, .ref m_out, .int 0, .int 0, .int 0, .int 0, .int 0, .ref m_kept, .ref m_keptSize, .ref m_nIp, .ref m_nHeard, .ref m_nHard, .int 0, .int 0, .ref m_gIp, .ref m_gNumber, .ref m_gProtocol, .ref m_gTold, .ref m_gBegun, .ref m_gOrder, .ref m_gBytes, .ref m_gThere, .int 0, .int 0, .ref m_pTarget, .ref m_pBytes, .ref m_pLong, .ref m_pSize, .ref m_pSum, .int 0, .ref m_peer, .int 0, .int 0, .int 0, .int 0, .ref m_answer, .int 0, .int 0]))] := hD
  refine lv_aload_n hx hb d_Mo_count_19 rfl (lv_at hl 0 rfl) ?_
  refine va_get (D := (dC, dI)) (ci := 12) (v := .int 0) (C := R_Mo) (T := F_Mo) (N := 39) hx hb (u_Mo hT) (fun _ h => h) hown hK hP 0 rfl rfl 4 (by decide) (ux_T_at hT tw_1598 rfl) (fun _ h9 => h9) rfl d_Mo_count_20 ?_
  refine lv_if_le (tgt := 28) hx hb d_Mo_count_23 (by decide) (fun _ => ?_) (fun hc => absurd (by decide) hc)
  refine lv_iload_n hx hb d_Mo_count_28 rfl (lv_at hl 1 rfl) ?_
  refine lv_tableIn (tgt := 72) hx hb d_Mo_count_29 (by decide) (by decide) rfl (by decide) ?_
  refine lv_aload_n hx hb d_Mo_count_72 rfl (lv_at hl 0 rfl) ?_
  refine va_get (D := (dC, dI)) (ci := 12) (v := .int 0) (C := R_Mo) (T := F_Mo) (N := 39) hx hb (u_Mo hT) (fun _ h => h) hown hK hP 0 rfl rfl 7 (by decide) (ux_T_at hT tw_1601 rfl) (fun _ h9 => h9) rfl d_Mo_count_73 ?_
  have hP9 := hP.sub (ws' := [(h0, .inr (12, [.ref m_row, .ref m_in, .ref m_out, .int 0, .int 0, .int 0, .int 0, .int 0, .ref m_kept, .ref m_keptSize, .ref m_nIp, .ref m_nHeard, .ref m_nHard, .int 0, .int 0, .ref m_gIp, .ref m_gNumber, .ref m_gProtocol, .ref m_gTold, .ref m_gBegun, .ref m_gOrder, .ref m_gBytes, .ref m_gThere, .int 0, .int 0, .ref m_pTarget, .ref m_pBytes, .ref m_pLong, .ref m_pSize, .ref m_pSum, .int 0, .ref m_peer, .int 0, .int 0, .int 0, .int 0, .ref m_answer, .int 0, .int 0]))]) [0] rfl
  have hD9 := hD.sub (ws' := [(h0, .inr (12, [.ref m_row, .ref m_in, .ref m_out, .int 0, .int 0, .int 0, .int 0, .int 0, .ref m_kept, .ref m_keptSize, .ref m_nIp, .ref m_nHeard, .ref m_nHard, .int 0, .int 0, .ref m_gIp, .ref m_gNumber, .ref m_gProtocol, .ref m_gTold, .ref m_gBegun, .ref m_gOrder, .ref m_gBytes, .ref m_gThere, .int 0, .int 0, .ref m_pTarget, .ref m_pBytes, .ref m_pLong, .ref m_pSize, .ref m_pSum, .int 0, .ref m_peer, .int 0, .int 0, .int 0, .int 0, .ref m_answer, .int 0, .int 0]))]) [0] (by decide) rfl
  have hK9 := hK.sub (tys' := []) [] rfl
  refine W.widen (k := 0) (n := 0) (Nat.le_of_ble_eq_true rfl) (Nat.le_of_ble_eq_true rfl) ?_
  exact W.iret (v := 0) hx hb hr (fun t ht hW => ⟨⟨_, (), rfl, rfl, by rw [ht]; exact hP9, va_K.moved hW.alike hK9, hD9⟩, hS.F ht⟩) hS.2.2 d_Mo_count_76
set_option maxHeartbeats 4000000 in
set_option maxRecDepth 100000 in
theorem c_Mo_count_1 (l : Launch) (dC : Nat → ClassId) (dI : Nat → Nat → Nat) (h0 : Nat) (m_row : Nat) (m_in : Nat) (m_out : Nat) (m_kept : Nat) (m_keptSize : Nat) (m_nIp : Nat) (m_nHeard : Nat) (m_nHard : Nat) (m_gIp : Nat) (m_gNumber : Nat) (m_gProtocol : Nat) (m_gTold : Nat) (m_gBegun : Nat) (m_gOrder : Nat) (m_gBytes : Nat) (m_gThere : Nat) (m_pTarget : Nat) (m_pBytes : Nat) (m_pLong : Nat) (m_pSize : Nat) (m_pSum : Nat) (m_peer : Nat) (m_answer : Nat) (sz : Nat) : Met l y_Mo_count [Cond.code y_Mo_count b_Mo_count 2 (some .int)] ({ frames := 40, cells := 0, slots := 0, locals := 600 }) (ux_Pc [.ref h0, .int 1] (dC, dI) cls [(h0, .inr (12, [.ref m_row, .ref m_in, .ref m_out, .int 0, .int 0, .int 0, .int 0, .int 0, .ref m_kept, .ref m_keptSize, .ref m_nIp, .ref m_nHeard, .ref m_nHard, .int 0, .int 0, .ref m_gIp, .ref m_gNumber, .ref m_gProtocol, .ref m_gTold, .ref m_gBegun, .ref m_gOrder, .ref m_gBytes, .ref m_gThere, .int 0, .int 0, .ref m_pTarget, .ref m_pBytes, .ref m_pLong, .ref m_pSize, .ref m_pSum, .int 0, .ref m_peer, .int 0, .int 0, .int 0, .int 0, .ref m_answer, .int 0, .int 0]))] [] sz) (va_Qi (fun (r : Int32) (_ : Unit) => r = 0) (fun (_ : Unit) (t : State) => ux_B (dC, dI) cls (va_A [(h0, .inr (12, [.ref m_row, .ref m_in, .ref m_out, .int 0, .int 0, .int 0, .int 0, .int 0, .ref m_kept, .ref m_keptSize, .ref m_nIp, .ref m_nHeard, .ref m_nHard, .int 0, .int 0, .ref m_gIp, .ref m_gNumber, .ref m_gProtocol, .ref m_gTold, .ref m_gBegun, .ref m_gOrder, .ref m_gBytes, .ref m_gThere, .int 0, .int 0, .ref m_pTarget, .ref m_pBytes, .ref m_pLong, .ref m_pSize, .ref m_pSum, .int 0, .ref m_peer, .int 0, .int 0, .int 0, .int 0, .ref m_answer, .int 0, .int 0]))] sz) [(h0, .inr (12, [.ref m_row, .ref m_in, .ref m_out, .int 0, .int 0, .int 0, .int 0, .int 0, .ref m_kept, .ref m_keptSize, .ref m_nIp, .ref m_nHeard, .ref m_nHard, .int 0, .int 0, .ref m_gIp, .ref m_gNumber, .ref m_gProtocol, .ref m_gTold, .ref m_gBegun, .ref m_gOrder, .ref m_gBytes, .ref m_gThere, .int 0, .int 0, .ref m_pTarget, .ref m_pBytes, .ref m_pLong, .ref m_pSize, .ref m_pSum, .int 0, .ref m_peer, .int 0, .int 0, .int 0, .int 0, .ref m_answer, .int 0, .int 0]))] [] t) (va_A [(h0, .inr (12, [.ref m_row, .ref m_in, .ref m_out, .int 0, .int 0, .int 0, .int 0, .int 0, .ref m_kept, .ref m_keptSize, .ref m_nIp, .ref m_nHeard, .ref m_nHard, .int 0, .int 0, .ref m_gIp, .ref m_gNumber, .ref m_gProtocol, .ref m_gTold, .ref m_gBegun, .ref m_gOrder, .ref m_gBytes, .ref m_gThere, .int 0, .int 0, .ref m_pTarget, .ref m_pBytes, .ref m_pLong, .ref m_pSize, .ref m_pSum, .int 0, .ref m_peer, .int 0, .int 0, .int 0, .int 0, .ref m_answer, .int 0, .int 0]))] sz)) 0 0 (va_A [(h0, .inr (12, [.ref m_row, .ref m_in, .ref m_out, .int 0, .int 0, .int 0, .int 0, .int 0, .ref m_kept, .ref m_keptSize, .ref m_nIp, .ref m_nHeard, .ref m_nHard, .int 0, .int 0, .ref m_gIp, .ref m_gNumber, .ref m_gProtocol, .ref m_gTold, .ref m_gBegun, .ref m_gOrder, .ref m_gBytes, .ref m_gThere, .int 0, .int 0, .ref m_pTarget, .ref m_pBytes, .ref m_pLong, .ref m_pSize, .ref m_pSum, .int 0, .ref m_peer, .int 0, .int 0, .int 0, .int 0, .ref m_answer, .int 0, .int 0]))] sz) := by
  refine Met.ofW (cc := b_Mo_count) (maxL := 2) (ret := some .int) (by decide) rfl ?_
  intro p e s m args below meth c s₁ B hml hv
  obtain ⟨rfl, hsz, hP, hK, hD0, hT⟩ := hv
  have hx := B.exec
  have hb := B.bytes
  have hr := B.returns
  have hown : s.vm.findClass "UnikernelHttpModel" = some m.cls := findClass_of_methodNamed B.named
  have hlocks := B.notSynchronized
  subst hsz
  have hD := hD0.self (sz := s.heap.size)
  have hns := ux_ns hP
  generalize hAe : va_A [(h0, .inr (12, [.ref m_row, .ref m_in, .ref m_out, .int 0, .int 0, .int 0, .int 0, .int 0, .ref m_kept, .ref m_keptSize, .ref m_nIp, .ref m_nHeard, .ref m_nHard, .int 0, .int 0, .ref m_gIp, .ref m_gNumber, .ref m_gProtocol, .ref m_gTold, .ref m_gBegun, .ref m_gOrder, .ref m_gBytes, .ref m_gThere, .int 0, .int 0, .ref m_pTarget, .ref m_pBytes, .ref m_pLong, .ref m_pSize, .ref m_pSum, .int 0, .ref m_peer, .int 0, .int 0, .int 0, .int 0, .ref m_answer, .int 0, .int 0]))] s.heap.size = A at hD hns ⊢
  have hA : ∀ q : Nat, s.heap.size ≤ q → A q := fun q h => by rw [← hAe]; exact Or.inr h
  have hS : va_S A s.heap s.heap [] := va_S.rf
  have hl := lv_entry ([.ref h0, .int 1]) (n := 2) (Nat.le_of_ble_eq_true rfl)
  rw [lg_entry_eq]
  generalize (lg_sl ([.ref h0, .int 1]) ++ List.replicate (2 - (lg_sl ([.ref h0, .int 1])).length) Slot.unset).toArray = ls at hl ⊢
  have hl : lv_has ls 2 [(0, .ref h0), (1, .int 1)] := hl
  have hfx : CallFix p m c b_Mo_count 2 s ([.ref h0, .int 1] : List Value).toArray [] "UnikernelHttpModel" := ⟨hx, hb, hml, hown, fun _ h => by cases h⟩
  refine lv_aload_n hx hb d_Mo_count_0 rfl (lv_at hl 0 rfl) ?_
  refine lv_iload_n hx hb d_Mo_count_1 rfl (lv_at hl 1 rfl) ?_
  refine lv_if_lt (tgt := 11) hx hb d_Mo_count_2 (by decide) (fun hc => absurd hc (by decide)) (fun _ => ?_)
  refine lv_iload_n hx hb d_Mo_count_5 rfl (lv_at hl 1 rfl) ?_
  refine lv_bipush (v := 7) hx hb d_Mo_count_6 (by decide) ?_
  refine lv_icmp_le (tgt := 15) hx hb d_Mo_count_8 (by decide) (fun _ => ?_) (fun hc => absurd (by decide) hc)
  refine lv_iconst (v := 0) hx hb d_Mo_count_15 (by decide) ?_
  refine va_put (D := (dC, dI)) (ci := 12) (v := .int 0) (ty := .int) (C := R_Mo) (T := F_Mo) (N := 39) hx hb (u_Mo hT) (fun _ h => h) t_Mo k_Mo n_Mo hown hK hP hD hS 0 rfl rfl 4 (by decide) (ux_T_at hT tw_1598 rfl) (fun _ h9 => h9) rfl (by decide +kernel) rfl rfl (Nat.le_of_ble_eq_true rfl) d_Mo_count_16 (fun H locs hP hD hS => ?_)
  have hP : va_P (dC, dI) cls [(h0, .inr (12, [.ref m_row, .ref m_in, .ref m_out, .int 0, .int 0, .int 0, .int 0, .int 0, .ref m_kept, .ref m_keptSize, .ref m_nIp, .ref m_nHeard, .ref m_nHard, .int 0, .int 0, .ref m_gIp, .ref m_gNumber, .ref m_gProtocol, .ref m_gTold, .ref m_gBegun, .ref m_gOrder, .ref m_gBytes, .ref m_gThere, .int 0, .int 0, .ref m_pTarget, .ref m_pBytes, .ref m_pLong, .ref m_pSize, .ref m_pSum, .int 0, .ref m_peer, .int 0, .int 0, .int 0, .int 0, .ref m_answer, .int 0, .int 0]))] H := hP
  have hD : va_D A [(h0, .inr (12, [.ref m_row, .ref m_in, .ref m_out, .int 0, .int 0, .int 0, .int 0, .int 0, .ref m_kept, .ref m_keptSize, .ref m_nIp, .ref m_nHeard, .ref m_nHard, .int 0, .int 0, .ref m_gIp, .ref m_gNumber, .ref m_gProtocol, .ref m_gTold, .ref m_gBegun, .ref m_gOrder, .ref m_gBytes, .ref m_gThere, .int 0, .int 0, .ref m_pTarget, .ref m_pBytes, .ref m_pLong, .ref m_pSize, .ref m_pSum, .int 0, .ref m_peer, .int 0, .int 0, .int 0, .int 0, .ref m_answer, .int 0, .int 0]))] := hD
  refine lv_aload_n hx hb d_Mo_count_19 rfl (lv_at hl 0 rfl) ?_
  refine va_get (D := (dC, dI)) (ci := 12) (v := .int 0) (C := R_Mo) (T := F_Mo) (N := 39) hx hb (u_Mo hT) (fun _ h => h) hown hK hP 0 rfl rfl 4 (by decide) (ux_T_at hT tw_1598 rfl) (fun _ h9 => h9) rfl d_Mo_count_20 ?_
  refine lv_if_le (tgt := 28) hx hb d_Mo_count_23 (by decide) (fun _ => ?_) (fun hc => absurd (by decide) hc)
  refine lv_iload_n hx hb d_Mo_count_28 rfl (lv_at hl 1 rfl) ?_
  refine lv_tableIn (tgt := 77) hx hb d_Mo_count_29 (by decide) (by decide) rfl (by decide) ?_
  refine lv_aload_n hx hb d_Mo_count_77 rfl (lv_at hl 0 rfl) ?_
  refine va_get (D := (dC, dI)) (ci := 12) (v := .int 0) (C := R_Mo) (T := F_Mo) (N := 39) hx hb (u_Mo hT) (fun _ h => h) hown hK hP 0 rfl rfl 5 (by decide) (ux_T_at hT tw_1599 rfl) (fun _ h9 => h9) rfl d_Mo_count_78 ?_
  have hP9 := hP.sub (ws' := [(h0, .inr (12, [.ref m_row, .ref m_in, .ref m_out, .int 0, .int 0, .int 0, .int 0, .int 0, .ref m_kept, .ref m_keptSize, .ref m_nIp, .ref m_nHeard, .ref m_nHard, .int 0, .int 0, .ref m_gIp, .ref m_gNumber, .ref m_gProtocol, .ref m_gTold, .ref m_gBegun, .ref m_gOrder, .ref m_gBytes, .ref m_gThere, .int 0, .int 0, .ref m_pTarget, .ref m_pBytes, .ref m_pLong, .ref m_pSize, .ref m_pSum, .int 0, .ref m_peer, .int 0, .int 0, .int 0, .int 0, .ref m_answer, .int 0, .int 0]))]) [0] rfl
  have hD9 := hD.sub (ws' := [(h0, .inr (12, [.ref m_row, .ref m_in, .ref m_out, .int 0, .int 0, .int 0, .int 0, .int 0, .ref m_kept, .ref m_keptSize, .ref m_nIp, .ref m_nHeard, .ref m_nHard, .int 0, .int 0, .ref m_gIp, .ref m_gNumber, .ref m_gProtocol, .ref m_gTold, .ref m_gBegun, .ref m_gOrder, .ref m_gBytes, .ref m_gThere, .int 0, .int 0, .ref m_pTarget, .ref m_pBytes, .ref m_pLong, .ref m_pSize, .ref m_pSum, .int 0, .ref m_peer, .int 0, .int 0, .int 0, .int 0, .ref m_answer, .int 0, .int 0]))]) [0] (by decide) rfl
  have hK9 := hK.sub (tys' := []) [] rfl
  refine W.widen (k := 0) (n := 0) (Nat.le_of_ble_eq_true rfl) (Nat.le_of_ble_eq_true rfl) ?_
  exact W.iret (v := 0) hx hb hr (fun t ht hW => ⟨⟨_, (), rfl, rfl, by rw [ht]; exact hP9, va_K.moved hW.alike hK9, hD9⟩, hS.F ht⟩) hS.2.2 d_Mo_count_81
set_option maxHeartbeats 4000000 in
set_option maxRecDepth 100000 in
theorem c_Mo_count_2 (l : Launch) (dC : Nat → ClassId) (dI : Nat → Nat → Nat) (h0 : Nat) (m_row : Nat) (m_in : Nat) (m_out : Nat) (m_kept : Nat) (m_keptSize : Nat) (m_nIp : Nat) (m_nHeard : Nat) (m_nHard : Nat) (m_gIp : Nat) (m_gNumber : Nat) (m_gProtocol : Nat) (m_gTold : Nat) (m_gBegun : Nat) (m_gOrder : Nat) (m_gBytes : Nat) (m_gThere : Nat) (m_pTarget : Nat) (m_pBytes : Nat) (m_pLong : Nat) (m_pSize : Nat) (m_pSum : Nat) (m_peer : Nat) (m_answer : Nat) (sz : Nat) : Met l y_Mo_count [Cond.code y_Mo_count b_Mo_count 2 (some .int)] ({ frames := 40, cells := 0, slots := 0, locals := 600 }) (ux_Pc [.ref h0, .int 2] (dC, dI) cls [(h0, .inr (12, [.ref m_row, .ref m_in, .ref m_out, .int 0, .int 0, .int 0, .int 0, .int 0, .ref m_kept, .ref m_keptSize, .ref m_nIp, .ref m_nHeard, .ref m_nHard, .int 0, .int 0, .ref m_gIp, .ref m_gNumber, .ref m_gProtocol, .ref m_gTold, .ref m_gBegun, .ref m_gOrder, .ref m_gBytes, .ref m_gThere, .int 0, .int 0, .ref m_pTarget, .ref m_pBytes, .ref m_pLong, .ref m_pSize, .ref m_pSum, .int 0, .ref m_peer, .int 0, .int 0, .int 0, .int 0, .ref m_answer, .int 0, .int 0]))] [] sz) (va_Qi (fun (r : Int32) (_ : Unit) => r = 0) (fun (_ : Unit) (t : State) => ux_B (dC, dI) cls (va_A [(h0, .inr (12, [.ref m_row, .ref m_in, .ref m_out, .int 0, .int 0, .int 0, .int 0, .int 0, .ref m_kept, .ref m_keptSize, .ref m_nIp, .ref m_nHeard, .ref m_nHard, .int 0, .int 0, .ref m_gIp, .ref m_gNumber, .ref m_gProtocol, .ref m_gTold, .ref m_gBegun, .ref m_gOrder, .ref m_gBytes, .ref m_gThere, .int 0, .int 0, .ref m_pTarget, .ref m_pBytes, .ref m_pLong, .ref m_pSize, .ref m_pSum, .int 0, .ref m_peer, .int 0, .int 0, .int 0, .int 0, .ref m_answer, .int 0, .int 0]))] sz) [(h0, .inr (12, [.ref m_row, .ref m_in, .ref m_out, .int 0, .int 0, .int 0, .int 0, .int 0, .ref m_kept, .ref m_keptSize, .ref m_nIp, .ref m_nHeard, .ref m_nHard, .int 0, .int 0, .ref m_gIp, .ref m_gNumber, .ref m_gProtocol, .ref m_gTold, .ref m_gBegun, .ref m_gOrder, .ref m_gBytes, .ref m_gThere, .int 0, .int 0, .ref m_pTarget, .ref m_pBytes, .ref m_pLong, .ref m_pSize, .ref m_pSum, .int 0, .ref m_peer, .int 0, .int 0, .int 0, .int 0, .ref m_answer, .int 0, .int 0]))] [] t) (va_A [(h0, .inr (12, [.ref m_row, .ref m_in, .ref m_out, .int 0, .int 0, .int 0, .int 0, .int 0, .ref m_kept, .ref m_keptSize, .ref m_nIp, .ref m_nHeard, .ref m_nHard, .int 0, .int 0, .ref m_gIp, .ref m_gNumber, .ref m_gProtocol, .ref m_gTold, .ref m_gBegun, .ref m_gOrder, .ref m_gBytes, .ref m_gThere, .int 0, .int 0, .ref m_pTarget, .ref m_pBytes, .ref m_pLong, .ref m_pSize, .ref m_pSum, .int 0, .ref m_peer, .int 0, .int 0, .int 0, .int 0, .ref m_answer, .int 0, .int 0]))] sz)) 0 0 (va_A [(h0, .inr (12, [.ref m_row, .ref m_in, .ref m_out, .int 0, .int 0, .int 0, .int 0, .int 0, .ref m_kept, .ref m_keptSize, .ref m_nIp, .ref m_nHeard, .ref m_nHard, .int 0, .int 0, .ref m_gIp, .ref m_gNumber, .ref m_gProtocol, .ref m_gTold, .ref m_gBegun, .ref m_gOrder, .ref m_gBytes, .ref m_gThere, .int 0, .int 0, .ref m_pTarget, .ref m_pBytes, .ref m_pLong, .ref m_pSize, .ref m_pSum, .int 0, .ref m_peer, .int 0, .int 0, .int 0, .int 0, .ref m_answer, .int 0, .int 0]))] sz) := by
  refine Met.ofW (cc := b_Mo_count) (maxL := 2) (ret := some .int) (by decide) rfl ?_
  intro p e s m args below meth c s₁ B hml hv
  obtain ⟨rfl, hsz, hP, hK, hD0, hT⟩ := hv
  have hx := B.exec
  have hb := B.bytes
  have hr := B.returns
  have hown : s.vm.findClass "UnikernelHttpModel" = some m.cls := findClass_of_methodNamed B.named
  have hlocks := B.notSynchronized
  subst hsz
  have hD := hD0.self (sz := s.heap.size)
  have hns := ux_ns hP
  generalize hAe : va_A [(h0, .inr (12, [.ref m_row, .ref m_in, .ref m_out, .int 0, .int 0, .int 0, .int 0, .int 0, .ref m_kept, .ref m_keptSize, .ref m_nIp, .ref m_nHeard, .ref m_nHard, .int 0, .int 0, .ref m_gIp, .ref m_gNumber, .ref m_gProtocol, .ref m_gTold, .ref m_gBegun, .ref m_gOrder, .ref m_gBytes, .ref m_gThere, .int 0, .int 0, .ref m_pTarget, .ref m_pBytes, .ref m_pLong, .ref m_pSize, .ref m_pSum, .int 0, .ref m_peer, .int 0, .int 0, .int 0, .int 0, .ref m_answer, .int 0, .int 0]))] s.heap.size = A at hD hns ⊢
  have hA : ∀ q : Nat, s.heap.size ≤ q → A q := fun q h => by rw [← hAe]; exact Or.inr h
  have hS : va_S A s.heap s.heap [] := va_S.rf
  have hl := lv_entry ([.ref h0, .int 2]) (n := 2) (Nat.le_of_ble_eq_true rfl)
  rw [lg_entry_eq]
  generalize (lg_sl ([.ref h0, .int 2]) ++ List.replicate (2 - (lg_sl ([.ref h0, .int 2])).length) Slot.unset).toArray = ls at hl ⊢
  have hl : lv_has ls 2 [(0, .ref h0), (1, .int 2)] := hl
  have hfx : CallFix p m c b_Mo_count 2 s ([.ref h0, .int 2] : List Value).toArray [] "UnikernelHttpModel" := ⟨hx, hb, hml, hown, fun _ h => by cases h⟩
  refine lv_aload_n hx hb d_Mo_count_0 rfl (lv_at hl 0 rfl) ?_
  refine lv_iload_n hx hb d_Mo_count_1 rfl (lv_at hl 1 rfl) ?_
  refine lv_if_lt (tgt := 11) hx hb d_Mo_count_2 (by decide) (fun hc => absurd hc (by decide)) (fun _ => ?_)
  refine lv_iload_n hx hb d_Mo_count_5 rfl (lv_at hl 1 rfl) ?_
  refine lv_bipush (v := 7) hx hb d_Mo_count_6 (by decide) ?_
  refine lv_icmp_le (tgt := 15) hx hb d_Mo_count_8 (by decide) (fun _ => ?_) (fun hc => absurd (by decide) hc)
  refine lv_iconst (v := 0) hx hb d_Mo_count_15 (by decide) ?_
  refine va_put (D := (dC, dI)) (ci := 12) (v := .int 0) (ty := .int) (C := R_Mo) (T := F_Mo) (N := 39) hx hb (u_Mo hT) (fun _ h => h) t_Mo k_Mo n_Mo hown hK hP hD hS 0 rfl rfl 4 (by decide) (ux_T_at hT tw_1598 rfl) (fun _ h9 => h9) rfl (by decide +kernel) rfl rfl (Nat.le_of_ble_eq_true rfl) d_Mo_count_16 (fun H locs hP hD hS => ?_)
  have hP : va_P (dC, dI) cls [(h0, .inr (12, [.ref m_row, .ref m_in, .ref m_out, .int 0, .int 0, .int 0, .int 0, .int 0, .ref m_kept, .ref m_keptSize, .ref m_nIp, .ref m_nHeard, .ref m_nHard, .int 0, .int 0, .ref m_gIp, .ref m_gNumber, .ref m_gProtocol, .ref m_gTold, .ref m_gBegun, .ref m_gOrder, .ref m_gBytes, .ref m_gThere, .int 0, .int 0, .ref m_pTarget, .ref m_pBytes, .ref m_pLong, .ref m_pSize, .ref m_pSum, .int 0, .ref m_peer, .int 0, .int 0, .int 0, .int 0, .ref m_answer, .int 0, .int 0]))] H := hP
  have hD : va_D A [(h0, .inr (12, [.ref m_row, .ref m_in, .ref m_out, .int 0, .int 0, .int 0, .int 0, .int 0, .ref m_kept, .ref m_keptSize, .ref m_nIp, .ref m_nHeard, .ref m_nHard, .int 0, .int 0, .ref m_gIp, .ref m_gNumber, .ref m_gProtocol, .ref m_gTold, .ref m_gBegun, .ref m_gOrder, .ref m_gBytes, .ref m_gThere, .int 0, .int 0, .ref m_pTarget, .ref m_pBytes, .ref m_pLong, .ref m_pSize, .ref m_pSum, .int 0, .ref m_peer, .int 0, .int 0, .int 0, .int 0, .ref m_answer, .int 0, .int 0]))] := hD
  refine lv_aload_n hx hb d_Mo_count_19 rfl (lv_at hl 0 rfl) ?_
  refine va_get (D := (dC, dI)) (ci := 12) (v := .int 0) (C := R_Mo) (T := F_Mo) (N := 39) hx hb (u_Mo hT) (fun _ h => h) hown hK hP 0 rfl rfl 4 (by decide) (ux_T_at hT tw_1598 rfl) (fun _ h9 => h9) rfl d_Mo_count_20 ?_
  refine lv_if_le (tgt := 28) hx hb d_Mo_count_23 (by decide) (fun _ => ?_) (fun hc => absurd (by decide) hc)
  refine lv_iload_n hx hb d_Mo_count_28 rfl (lv_at hl 1 rfl) ?_
  refine lv_tableIn (tgt := 82) hx hb d_Mo_count_29 (by decide) (by decide) rfl (by decide) ?_
  refine lv_aload_n hx hb d_Mo_count_82 rfl (lv_at hl 0 rfl) ?_
  refine va_get (D := (dC, dI)) (ci := 12) (v := .int 0) (C := R_Mo) (T := F_Mo) (N := 39) hx hb (u_Mo hT) (fun _ h => h) hown hK hP 0 rfl rfl 32 (by decide) (ux_T_at hT tw_1625 rfl) (fun _ h9 => h9) rfl d_Mo_count_83 ?_
  have hP9 := hP.sub (ws' := [(h0, .inr (12, [.ref m_row, .ref m_in, .ref m_out, .int 0, .int 0, .int 0, .int 0, .int 0, .ref m_kept, .ref m_keptSize, .ref m_nIp, .ref m_nHeard, .ref m_nHard, .int 0, .int 0, .ref m_gIp, .ref m_gNumber, .ref m_gProtocol, .ref m_gTold, .ref m_gBegun, .ref m_gOrder, .ref m_gBytes, .ref m_gThere, .int 0, .int 0, .ref m_pTarget, .ref m_pBytes, .ref m_pLong, .ref m_pSize, .ref m_pSum, .int 0, .ref m_peer, .int 0, .int 0, .int 0, .int 0, .ref m_answer, .int 0, .int 0]))]) [0] rfl
  have hD9 := hD.sub (ws' := [(h0, .inr (12, [.ref m_row, .ref m_in, .ref m_out, .int 0, .int 0, .int 0, .int 0, .int 0, .ref m_kept, .ref m_keptSize, .ref m_nIp, .ref m_nHeard, .ref m_nHard, .int 0, .int 0, .ref m_gIp, .ref m_gNumber, .ref m_gProtocol, .ref m_gTold, .ref m_gBegun, .ref m_gOrder, .ref m_gBytes, .ref m_gThere, .int 0, .int 0, .ref m_pTarget, .ref m_pBytes, .ref m_pLong, .ref m_pSize, .ref m_pSum, .int 0, .ref m_peer, .int 0, .int 0, .int 0, .int 0, .ref m_answer, .int 0, .int 0]))]) [0] (by decide) rfl
  have hK9 := hK.sub (tys' := []) [] rfl
  refine W.widen (k := 0) (n := 0) (Nat.le_of_ble_eq_true rfl) (Nat.le_of_ble_eq_true rfl) ?_
  exact W.iret (v := 0) hx hb hr (fun t ht hW => ⟨⟨_, (), rfl, rfl, by rw [ht]; exact hP9, va_K.moved hW.alike hK9, hD9⟩, hS.F ht⟩) hS.2.2 d_Mo_count_86
set_option maxHeartbeats 4000000 in
set_option maxRecDepth 100000 in
theorem c_Mo_count_3 (l : Launch) (dC : Nat → ClassId) (dI : Nat → Nat → Nat) (h0 : Nat) (m_row : Nat) (m_in : Nat) (m_out : Nat) (m_kept : Nat) (m_keptSize : Nat) (m_nIp : Nat) (m_nHeard : Nat) (m_nHard : Nat) (m_gIp : Nat) (m_gNumber : Nat) (m_gProtocol : Nat) (m_gTold : Nat) (m_gBegun : Nat) (m_gOrder : Nat) (m_gBytes : Nat) (m_gThere : Nat) (m_pTarget : Nat) (m_pBytes : Nat) (m_pLong : Nat) (m_pSize : Nat) (m_pSum : Nat) (m_peer : Nat) (m_answer : Nat) (sz : Nat) : Met l y_Mo_count [Cond.code y_Mo_count b_Mo_count 2 (some .int)] ({ frames := 40, cells := 0, slots := 0, locals := 600 }) (ux_Pc [.ref h0, .int 3] (dC, dI) cls [(h0, .inr (12, [.ref m_row, .ref m_in, .ref m_out, .int 0, .int 0, .int 0, .int 0, .int 0, .ref m_kept, .ref m_keptSize, .ref m_nIp, .ref m_nHeard, .ref m_nHard, .int 0, .int 0, .ref m_gIp, .ref m_gNumber, .ref m_gProtocol, .ref m_gTold, .ref m_gBegun, .ref m_gOrder, .ref m_gBytes, .ref m_gThere, .int 0, .int 0, .ref m_pTarget, .ref m_pBytes, .ref m_pLong, .ref m_pSize, .ref m_pSum, .int 0, .ref m_peer, .int 0, .int 0, .int 0, .int 0, .ref m_answer, .int 0, .int 0]))] [] sz) (va_Qi (fun (r : Int32) (_ : Unit) => r = 0) (fun (_ : Unit) (t : State) => ux_B (dC, dI) cls (va_A [(h0, .inr (12, [.ref m_row, .ref m_in, .ref m_out, .int 0, .int 0, .int 0, .int 0, .int 0, .ref m_kept, .ref m_keptSize, .ref m_nIp, .ref m_nHeard, .ref m_nHard, .int 0, .int 0, .ref m_gIp, .ref m_gNumber, .ref m_gProtocol, .ref m_gTold, .ref m_gBegun, .ref m_gOrder, .ref m_gBytes, .ref m_gThere, .int 0, .int 0, .ref m_pTarget, .ref m_pBytes, .ref m_pLong, .ref m_pSize, .ref m_pSum, .int 0, .ref m_peer, .int 0, .int 0, .int 0, .int 0, .ref m_answer, .int 0, .int 0]))] sz) [(h0, .inr (12, [.ref m_row, .ref m_in, .ref m_out, .int 0, .int 0, .int 0, .int 0, .int 0, .ref m_kept, .ref m_keptSize, .ref m_nIp, .ref m_nHeard, .ref m_nHard, .int 0, .int 0, .ref m_gIp, .ref m_gNumber, .ref m_gProtocol, .ref m_gTold, .ref m_gBegun, .ref m_gOrder, .ref m_gBytes, .ref m_gThere, .int 0, .int 0, .ref m_pTarget, .ref m_pBytes, .ref m_pLong, .ref m_pSize, .ref m_pSum, .int 0, .ref m_peer, .int 0, .int 0, .int 0, .int 0, .ref m_answer, .int 0, .int 0]))] [] t) (va_A [(h0, .inr (12, [.ref m_row, .ref m_in, .ref m_out, .int 0, .int 0, .int 0, .int 0, .int 0, .ref m_kept, .ref m_keptSize, .ref m_nIp, .ref m_nHeard, .ref m_nHard, .int 0, .int 0, .ref m_gIp, .ref m_gNumber, .ref m_gProtocol, .ref m_gTold, .ref m_gBegun, .ref m_gOrder, .ref m_gBytes, .ref m_gThere, .int 0, .int 0, .ref m_pTarget, .ref m_pBytes, .ref m_pLong, .ref m_pSize, .ref m_pSum, .int 0, .ref m_peer, .int 0, .int 0, .int 0, .int 0, .ref m_answer, .int 0, .int 0]))] sz)) 0 0 (va_A [(h0, .inr (12, [.ref m_row, .ref m_in, .ref m_out, .int 0, .int 0, .int 0, .int 0, .int 0, .ref m_kept, .ref m_keptSize, .ref m_nIp, .ref m_nHeard, .ref m_nHard, .int 0, .int 0, .ref m_gIp, .ref m_gNumber, .ref m_gProtocol, .ref m_gTold, .ref m_gBegun, .ref m_gOrder, .ref m_gBytes, .ref m_gThere, .int 0, .int 0, .ref m_pTarget, .ref m_pBytes, .ref m_pLong, .ref m_pSize, .ref m_pSum, .int 0, .ref m_peer, .int 0, .int 0, .int 0, .int 0, .ref m_answer, .int 0, .int 0]))] sz) := by
  refine Met.ofW (cc := b_Mo_count) (maxL := 2) (ret := some .int) (by decide) rfl ?_
  intro p e s m args below meth c s₁ B hml hv
  obtain ⟨rfl, hsz, hP, hK, hD0, hT⟩ := hv
  have hx := B.exec
  have hb := B.bytes
  have hr := B.returns
  have hown : s.vm.findClass "UnikernelHttpModel" = some m.cls := findClass_of_methodNamed B.named
  have hlocks := B.notSynchronized
  subst hsz
  have hD := hD0.self (sz := s.heap.size)
  have hns := ux_ns hP
  generalize hAe : va_A [(h0, .inr (12, [.ref m_row, .ref m_in, .ref m_out, .int 0, .int 0, .int 0, .int 0, .int 0, .ref m_kept, .ref m_keptSize, .ref m_nIp, .ref m_nHeard, .ref m_nHard, .int 0, .int 0, .ref m_gIp, .ref m_gNumber, .ref m_gProtocol, .ref m_gTold, .ref m_gBegun, .ref m_gOrder, .ref m_gBytes, .ref m_gThere, .int 0, .int 0, .ref m_pTarget, .ref m_pBytes, .ref m_pLong, .ref m_pSize, .ref m_pSum, .int 0, .ref m_peer, .int 0, .int 0, .int 0, .int 0, .ref m_answer, .int 0, .int 0]))] s.heap.size = A at hD hns ⊢
  have hA : ∀ q : Nat, s.heap.size ≤ q → A q := fun q h => by rw [← hAe]; exact Or.inr h
  have hS : va_S A s.heap s.heap [] := va_S.rf
  have hl := lv_entry ([.ref h0, .int 3]) (n := 2) (Nat.le_of_ble_eq_true rfl)
  rw [lg_entry_eq]
  generalize (lg_sl ([.ref h0, .int 3]) ++ List.replicate (2 - (lg_sl ([.ref h0, .int 3])).length) Slot.unset).toArray = ls at hl ⊢
  have hl : lv_has ls 2 [(0, .ref h0), (1, .int 3)] := hl
  have hfx : CallFix p m c b_Mo_count 2 s ([.ref h0, .int 3] : List Value).toArray [] "UnikernelHttpModel" := ⟨hx, hb, hml, hown, fun _ h => by cases h⟩
  refine lv_aload_n hx hb d_Mo_count_0 rfl (lv_at hl 0 rfl) ?_
  refine lv_iload_n hx hb d_Mo_count_1 rfl (lv_at hl 1 rfl) ?_
  refine lv_if_lt (tgt := 11) hx hb d_Mo_count_2 (by decide) (fun hc => absurd hc (by decide)) (fun _ => ?_)
  refine lv_iload_n hx hb d_Mo_count_5 rfl (lv_at hl 1 rfl) ?_
  refine lv_bipush (v := 7) hx hb d_Mo_count_6 (by decide) ?_
  refine lv_icmp_le (tgt := 15) hx hb d_Mo_count_8 (by decide) (fun _ => ?_) (fun hc => absurd (by decide) hc)
  refine lv_iconst (v := 0) hx hb d_Mo_count_15 (by decide) ?_
  refine va_put (D := (dC, dI)) (ci := 12) (v := .int 0) (ty := .int) (C := R_Mo) (T := F_Mo) (N := 39) hx hb (u_Mo hT) (fun _ h => h) t_Mo k_Mo n_Mo hown hK hP hD hS 0 rfl rfl 4 (by decide) (ux_T_at hT tw_1598 rfl) (fun _ h9 => h9) rfl (by decide +kernel) rfl rfl (Nat.le_of_ble_eq_true rfl) d_Mo_count_16 (fun H locs hP hD hS => ?_)
  have hP : va_P (dC, dI) cls [(h0, .inr (12, [.ref m_row, .ref m_in, .ref m_out, .int 0, .int 0, .int 0, .int 0, .int 0, .ref m_kept, .ref m_keptSize, .ref m_nIp, .ref m_nHeard, .ref m_nHard, .int 0, .int 0, .ref m_gIp, .ref m_gNumber, .ref m_gProtocol, .ref m_gTold, .ref m_gBegun, .ref m_gOrder, .ref m_gBytes, .ref m_gThere, .int 0, .int 0, .ref m_pTarget, .ref m_pBytes, .ref m_pLong, .ref m_pSize, .ref m_pSum, .int 0, .ref m_peer, .int 0, .int 0, .int 0, .int 0, .ref m_answer, .int 0, .int 0]))] H := hP
  have hD : va_D A [(h0, .inr (12, [.ref m_row, .ref m_in, .ref m_out, .int 0, .int 0, .int 0, .int 0, .int 0, .ref m_kept, .ref m_keptSize, .ref m_nIp, .ref m_nHeard, .ref m_nHard, .int 0, .int 0, .ref m_gIp, .ref m_gNumber, .ref m_gProtocol, .ref m_gTold, .ref m_gBegun, .ref m_gOrder, .ref m_gBytes, .ref m_gThere, .int 0, .int 0, .ref m_pTarget, .ref m_pBytes, .ref m_pLong, .ref m_pSize, .ref m_pSum, .int 0, .ref m_peer, .int 0, .int 0, .int 0, .int 0, .ref m_answer, .int 0, .int 0]))] := hD
  refine lv_aload_n hx hb d_Mo_count_19 rfl (lv_at hl 0 rfl) ?_
  refine va_get (D := (dC, dI)) (ci := 12) (v := .int 0) (C := R_Mo) (T := F_Mo) (N := 39) hx hb (u_Mo hT) (fun _ h => h) hown hK hP 0 rfl rfl 4 (by decide) (ux_T_at hT tw_1598 rfl) (fun _ h9 => h9) rfl d_Mo_count_20 ?_
  refine lv_if_le (tgt := 28) hx hb d_Mo_count_23 (by decide) (fun _ => ?_) (fun hc => absurd (by decide) hc)
  refine lv_iload_n hx hb d_Mo_count_28 rfl (lv_at hl 1 rfl) ?_
  refine lv_tableIn (tgt := 87) hx hb d_Mo_count_29 (by decide) (by decide) rfl (by decide) ?_
  refine lv_aload_n hx hb d_Mo_count_87 rfl (lv_at hl 0 rfl) ?_
  refine va_get (D := (dC, dI)) (ci := 12) (v := .int 0) (C := R_Mo) (T := F_Mo) (N := 39) hx hb (u_Mo hT) (fun _ h => h) hown hK hP 0 rfl rfl 33 (by decide) (ux_T_at hT tw_1626 rfl) (fun _ h9 => h9) rfl d_Mo_count_88 ?_
  have hP9 := hP.sub (ws' := [(h0, .inr (12, [.ref m_row, .ref m_in, .ref m_out, .int 0, .int 0, .int 0, .int 0, .int 0, .ref m_kept, .ref m_keptSize, .ref m_nIp, .ref m_nHeard, .ref m_nHard, .int 0, .int 0, .ref m_gIp, .ref m_gNumber, .ref m_gProtocol, .ref m_gTold, .ref m_gBegun, .ref m_gOrder, .ref m_gBytes, .ref m_gThere, .int 0, .int 0, .ref m_pTarget, .ref m_pBytes, .ref m_pLong, .ref m_pSize, .ref m_pSum, .int 0, .ref m_peer, .int 0, .int 0, .int 0, .int 0, .ref m_answer, .int 0, .int 0]))]) [0] rfl
  have hD9 := hD.sub (ws' := [(h0, .inr (12, [.ref m_row, .ref m_in, .ref m_out, .int 0, .int 0, .int 0, .int 0, .int 0, .ref m_kept, .ref m_keptSize, .ref m_nIp, .ref m_nHeard, .ref m_nHard, .int 0, .int 0, .ref m_gIp, .ref m_gNumber, .ref m_gProtocol, .ref m_gTold, .ref m_gBegun, .ref m_gOrder, .ref m_gBytes, .ref m_gThere, .int 0, .int 0, .ref m_pTarget, .ref m_pBytes, .ref m_pLong, .ref m_pSize, .ref m_pSum, .int 0, .ref m_peer, .int 0, .int 0, .int 0, .int 0, .ref m_answer, .int 0, .int 0]))]) [0] (by decide) rfl
  have hK9 := hK.sub (tys' := []) [] rfl
  refine W.widen (k := 0) (n := 0) (Nat.le_of_ble_eq_true rfl) (Nat.le_of_ble_eq_true rfl) ?_
  exact W.iret (v := 0) hx hb hr (fun t ht hW => ⟨⟨_, (), rfl, rfl, by rw [ht]; exact hP9, va_K.moved hW.alike hK9, hD9⟩, hS.F ht⟩) hS.2.2 d_Mo_count_91
set_option maxHeartbeats 4000000 in
set_option maxRecDepth 100000 in
theorem c_Mo_count_4 (l : Launch) (dC : Nat → ClassId) (dI : Nat → Nat → Nat) (h0 : Nat) (m_row : Nat) (m_in : Nat) (m_out : Nat) (m_kept : Nat) (m_keptSize : Nat) (m_nIp : Nat) (m_nHeard : Nat) (m_nHard : Nat) (m_gIp : Nat) (m_gNumber : Nat) (m_gProtocol : Nat) (m_gTold : Nat) (m_gBegun : Nat) (m_gOrder : Nat) (m_gBytes : Nat) (m_gThere : Nat) (m_pTarget : Nat) (m_pBytes : Nat) (m_pLong : Nat) (m_pSize : Nat) (m_pSum : Nat) (m_peer : Nat) (m_answer : Nat) (sz : Nat) : Met l y_Mo_count [Cond.code y_Mo_count b_Mo_count 2 (some .int)] ({ frames := 40, cells := 0, slots := 0, locals := 600 }) (ux_Pc [.ref h0, .int 4] (dC, dI) cls [(h0, .inr (12, [.ref m_row, .ref m_in, .ref m_out, .int 0, .int 0, .int 0, .int 0, .int 0, .ref m_kept, .ref m_keptSize, .ref m_nIp, .ref m_nHeard, .ref m_nHard, .int 0, .int 0, .ref m_gIp, .ref m_gNumber, .ref m_gProtocol, .ref m_gTold, .ref m_gBegun, .ref m_gOrder, .ref m_gBytes, .ref m_gThere, .int 0, .int 0, .ref m_pTarget, .ref m_pBytes, .ref m_pLong, .ref m_pSize, .ref m_pSum, .int 0, .ref m_peer, .int 0, .int 0, .int 0, .int 0, .ref m_answer, .int 0, .int 0]))] [] sz) (va_Qi (fun (r : Int32) (_ : Unit) => r = 0) (fun (_ : Unit) (t : State) => ux_B (dC, dI) cls (va_A [(h0, .inr (12, [.ref m_row, .ref m_in, .ref m_out, .int 0, .int 0, .int 0, .int 0, .int 0, .ref m_kept, .ref m_keptSize, .ref m_nIp, .ref m_nHeard, .ref m_nHard, .int 0, .int 0, .ref m_gIp, .ref m_gNumber, .ref m_gProtocol, .ref m_gTold, .ref m_gBegun, .ref m_gOrder, .ref m_gBytes, .ref m_gThere, .int 0, .int 0, .ref m_pTarget, .ref m_pBytes, .ref m_pLong, .ref m_pSize, .ref m_pSum, .int 0, .ref m_peer, .int 0, .int 0, .int 0, .int 0, .ref m_answer, .int 0, .int 0]))] sz) [(h0, .inr (12, [.ref m_row, .ref m_in, .ref m_out, .int 0, .int 0, .int 0, .int 0, .int 0, .ref m_kept, .ref m_keptSize, .ref m_nIp, .ref m_nHeard, .ref m_nHard, .int 0, .int 0, .ref m_gIp, .ref m_gNumber, .ref m_gProtocol, .ref m_gTold, .ref m_gBegun, .ref m_gOrder, .ref m_gBytes, .ref m_gThere, .int 0, .int 0, .ref m_pTarget, .ref m_pBytes, .ref m_pLong, .ref m_pSize, .ref m_pSum, .int 0, .ref m_peer, .int 0, .int 0, .int 0, .int 0, .ref m_answer, .int 0, .int 0]))] [] t) (va_A [(h0, .inr (12, [.ref m_row, .ref m_in, .ref m_out, .int 0, .int 0, .int 0, .int 0, .int 0, .ref m_kept, .ref m_keptSize, .ref m_nIp, .ref m_nHeard, .ref m_nHard, .int 0, .int 0, .ref m_gIp, .ref m_gNumber, .ref m_gProtocol, .ref m_gTold, .ref m_gBegun, .ref m_gOrder, .ref m_gBytes, .ref m_gThere, .int 0, .int 0, .ref m_pTarget, .ref m_pBytes, .ref m_pLong, .ref m_pSize, .ref m_pSum, .int 0, .ref m_peer, .int 0, .int 0, .int 0, .int 0, .ref m_answer, .int 0, .int 0]))] sz)) 0 0 (va_A [(h0, .inr (12, [.ref m_row, .ref m_in, .ref m_out, .int 0, .int 0, .int 0, .int 0, .int 0, .ref m_kept, .ref m_keptSize, .ref m_nIp, .ref m_nHeard, .ref m_nHard, .int 0, .int 0, .ref m_gIp, .ref m_gNumber, .ref m_gProtocol, .ref m_gTold, .ref m_gBegun, .ref m_gOrder, .ref m_gBytes, .ref m_gThere, .int 0, .int 0, .ref m_pTarget, .ref m_pBytes, .ref m_pLong, .ref m_pSize, .ref m_pSum, .int 0, .ref m_peer, .int 0, .int 0, .int 0, .int 0, .ref m_answer, .int 0, .int 0]))] sz) := by
  refine Met.ofW (cc := b_Mo_count) (maxL := 2) (ret := some .int) (by decide) rfl ?_
  intro p e s m args below meth c s₁ B hml hv
  obtain ⟨rfl, hsz, hP, hK, hD0, hT⟩ := hv
  have hx := B.exec
  have hb := B.bytes
  have hr := B.returns
  have hown : s.vm.findClass "UnikernelHttpModel" = some m.cls := findClass_of_methodNamed B.named
  have hlocks := B.notSynchronized
  subst hsz
  have hD := hD0.self (sz := s.heap.size)
  have hns := ux_ns hP
  generalize hAe : va_A [(h0, .inr (12, [.ref m_row, .ref m_in, .ref m_out, .int 0, .int 0, .int 0, .int 0, .int 0, .ref m_kept, .ref m_keptSize, .ref m_nIp, .ref m_nHeard, .ref m_nHard, .int 0, .int 0, .ref m_gIp, .ref m_gNumber, .ref m_gProtocol, .ref m_gTold, .ref m_gBegun, .ref m_gOrder, .ref m_gBytes, .ref m_gThere, .int 0, .int 0, .ref m_pTarget, .ref m_pBytes, .ref m_pLong, .ref m_pSize, .ref m_pSum, .int 0, .ref m_peer, .int 0, .int 0, .int 0, .int 0, .ref m_answer, .int 0, .int 0]))] s.heap.size = A at hD hns ⊢
  have hA : ∀ q : Nat, s.heap.size ≤ q → A q := fun q h => by rw [← hAe]; exact Or.inr h
  have hS : va_S A s.heap s.heap [] := va_S.rf
  have hl := lv_entry ([.ref h0, .int 4]) (n := 2) (Nat.le_of_ble_eq_true rfl)
  rw [lg_entry_eq]
  generalize (lg_sl ([.ref h0, .int 4]) ++ List.replicate (2 - (lg_sl ([.ref h0, .int 4])).length) Slot.unset).toArray = ls at hl ⊢
  have hl : lv_has ls 2 [(0, .ref h0), (1, .int 4)] := hl
  have hfx : CallFix p m c b_Mo_count 2 s ([.ref h0, .int 4] : List Value).toArray [] "UnikernelHttpModel" := ⟨hx, hb, hml, hown, fun _ h => by cases h⟩
  refine lv_aload_n hx hb d_Mo_count_0 rfl (lv_at hl 0 rfl) ?_
  refine lv_iload_n hx hb d_Mo_count_1 rfl (lv_at hl 1 rfl) ?_
  refine lv_if_lt (tgt := 11) hx hb d_Mo_count_2 (by decide) (fun hc => absurd hc (by decide)) (fun _ => ?_)
  refine lv_iload_n hx hb d_Mo_count_5 rfl (lv_at hl 1 rfl) ?_
  refine lv_bipush (v := 7) hx hb d_Mo_count_6 (by decide) ?_
  refine lv_icmp_le (tgt := 15) hx hb d_Mo_count_8 (by decide) (fun _ => ?_) (fun hc => absurd (by decide) hc)
  refine lv_iconst (v := 0) hx hb d_Mo_count_15 (by decide) ?_
  refine va_put (D := (dC, dI)) (ci := 12) (v := .int 0) (ty := .int) (C := R_Mo) (T := F_Mo) (N := 39) hx hb (u_Mo hT) (fun _ h => h) t_Mo k_Mo n_Mo hown hK hP hD hS 0 rfl rfl 4 (by decide) (ux_T_at hT tw_1598 rfl) (fun _ h9 => h9) rfl (by decide +kernel) rfl rfl (Nat.le_of_ble_eq_true rfl) d_Mo_count_16 (fun H locs hP hD hS => ?_)
  have hP : va_P (dC, dI) cls [(h0, .inr (12, [.ref m_row, .ref m_in, .ref m_out, .int 0, .int 0, .int 0, .int 0, .int 0, .ref m_kept, .ref m_keptSize, .ref m_nIp, .ref m_nHeard, .ref m_nHard, .int 0, .int 0, .ref m_gIp, .ref m_gNumber, .ref m_gProtocol, .ref m_gTold, .ref m_gBegun, .ref m_gOrder, .ref m_gBytes, .ref m_gThere, .int 0, .int 0, .ref m_pTarget, .ref m_pBytes, .ref m_pLong, .ref m_pSize, .ref m_pSum, .int 0, .ref m_peer, .int 0, .int 0, .int 0, .int 0, .ref m_answer, .int 0, .int 0]))] H := hP
  have hD : va_D A [(h0, .inr (12, [.ref m_row, .ref m_in, .ref m_out, .int 0, .int 0, .int 0, .int 0, .int 0, .ref m_kept, .ref m_keptSize, .ref m_nIp, .ref m_nHeard, .ref m_nHard, .int 0, .int 0, .ref m_gIp, .ref m_gNumber, .ref m_gProtocol, .ref m_gTold, .ref m_gBegun, .ref m_gOrder, .ref m_gBytes, .ref m_gThere, .int 0, .int 0, .ref m_pTarget, .ref m_pBytes, .ref m_pLong, .ref m_pSize, .ref m_pSum, .int 0, .ref m_peer, .int 0, .int 0, .int 0, .int 0, .ref m_answer, .int 0, .int 0]))] := hD
  refine lv_aload_n hx hb d_Mo_count_19 rfl (lv_at hl 0 rfl) ?_
  refine va_get (D := (dC, dI)) (ci := 12) (v := .int 0) (C := R_Mo) (T := F_Mo) (N := 39) hx hb (u_Mo hT) (fun _ h => h) hown hK hP 0 rfl rfl 4 (by decide) (ux_T_at hT tw_1598 rfl) (fun _ h9 => h9) rfl d_Mo_count_20 ?_
  refine lv_if_le (tgt := 28) hx hb d_Mo_count_23 (by decide) (fun _ => ?_) (fun hc => absurd (by decide) hc)
  refine lv_iload_n hx hb d_Mo_count_28 rfl (lv_at hl 1 rfl) ?_
  refine lv_tableIn (tgt := 92) hx hb d_Mo_count_29 (by decide) (by decide) rfl (by decide) ?_
  refine lv_aload_n hx hb d_Mo_count_92 rfl (lv_at hl 0 rfl) ?_
  refine va_get (D := (dC, dI)) (ci := 12) (v := .int 0) (C := R_Mo) (T := F_Mo) (N := 39) hx hb (u_Mo hT) (fun _ h => h) hown hK hP 0 rfl rfl 13 (by decide) (ux_T_at hT tw_1607 rfl) (fun _ h9 => h9) rfl d_Mo_count_93 ?_
  have hP9 := hP.sub (ws' := [(h0, .inr (12, [.ref m_row, .ref m_in, .ref m_out, .int 0, .int 0, .int 0, .int 0, .int 0, .ref m_kept, .ref m_keptSize, .ref m_nIp, .ref m_nHeard, .ref m_nHard, .int 0, .int 0, .ref m_gIp, .ref m_gNumber, .ref m_gProtocol, .ref m_gTold, .ref m_gBegun, .ref m_gOrder, .ref m_gBytes, .ref m_gThere, .int 0, .int 0, .ref m_pTarget, .ref m_pBytes, .ref m_pLong, .ref m_pSize, .ref m_pSum, .int 0, .ref m_peer, .int 0, .int 0, .int 0, .int 0, .ref m_answer, .int 0, .int 0]))]) [0] rfl
  have hD9 := hD.sub (ws' := [(h0, .inr (12, [.ref m_row, .ref m_in, .ref m_out, .int 0, .int 0, .int 0, .int 0, .int 0, .ref m_kept, .ref m_keptSize, .ref m_nIp, .ref m_nHeard, .ref m_nHard, .int 0, .int 0, .ref m_gIp, .ref m_gNumber, .ref m_gProtocol, .ref m_gTold, .ref m_gBegun, .ref m_gOrder, .ref m_gBytes, .ref m_gThere, .int 0, .int 0, .ref m_pTarget, .ref m_pBytes, .ref m_pLong, .ref m_pSize, .ref m_pSum, .int 0, .ref m_peer, .int 0, .int 0, .int 0, .int 0, .ref m_answer, .int 0, .int 0]))]) [0] (by decide) rfl
  have hK9 := hK.sub (tys' := []) [] rfl
  refine W.widen (k := 0) (n := 0) (Nat.le_of_ble_eq_true rfl) (Nat.le_of_ble_eq_true rfl) ?_
  exact W.iret (v := 0) hx hb hr (fun t ht hW => ⟨⟨_, (), rfl, rfl, by rw [ht]; exact hP9, va_K.moved hW.alike hK9, hD9⟩, hS.F ht⟩) hS.2.2 d_Mo_count_96
set_option maxHeartbeats 4000000 in
set_option maxRecDepth 100000 in
theorem c_Mo_count_5 (l : Launch) (dC : Nat → ClassId) (dI : Nat → Nat → Nat) (h0 : Nat) (m_row : Nat) (m_in : Nat) (m_out : Nat) (m_kept : Nat) (m_keptSize : Nat) (m_nIp : Nat) (m_nHeard : Nat) (m_nHard : Nat) (m_gIp : Nat) (m_gNumber : Nat) (m_gProtocol : Nat) (m_gTold : Nat) (m_gBegun : Nat) (m_gOrder : Nat) (m_gBytes : Nat) (m_gThere : Nat) (m_pTarget : Nat) (m_pBytes : Nat) (m_pLong : Nat) (m_pSize : Nat) (m_pSum : Nat) (m_peer : Nat) (m_answer : Nat) (sz : Nat) : Met l y_Mo_count [Cond.code y_Mo_count b_Mo_count 2 (some .int)] ({ frames := 40, cells := 0, slots := 0, locals := 600 }) (ux_Pc [.ref h0, .int 5] (dC, dI) cls [(h0, .inr (12, [.ref m_row, .ref m_in, .ref m_out, .int 0, .int 0, .int 0, .int 0, .int 0, .ref m_kept, .ref m_keptSize, .ref m_nIp, .ref m_nHeard, .ref m_nHard, .int 0, .int 0, .ref m_gIp, .ref m_gNumber, .ref m_gProtocol, .ref m_gTold, .ref m_gBegun, .ref m_gOrder, .ref m_gBytes, .ref m_gThere, .int 0, .int 0, .ref m_pTarget, .ref m_pBytes, .ref m_pLong, .ref m_pSize, .ref m_pSum, .int 0, .ref m_peer, .int 0, .int 0, .int 0, .int 0, .ref m_answer, .int 0, .int 0]))] [] sz) (va_Qi (fun (r : Int32) (_ : Unit) => r = 0) (fun (_ : Unit) (t : State) => ux_B (dC, dI) cls (va_A [(h0, .inr (12, [.ref m_row, .ref m_in, .ref m_out, .int 0, .int 0, .int 0, .int 0, .int 0, .ref m_kept, .ref m_keptSize, .ref m_nIp, .ref m_nHeard, .ref m_nHard, .int 0, .int 0, .ref m_gIp, .ref m_gNumber, .ref m_gProtocol, .ref m_gTold, .ref m_gBegun, .ref m_gOrder, .ref m_gBytes, .ref m_gThere, .int 0, .int 0, .ref m_pTarget, .ref m_pBytes, .ref m_pLong, .ref m_pSize, .ref m_pSum, .int 0, .ref m_peer, .int 0, .int 0, .int 0, .int 0, .ref m_answer, .int 0, .int 0]))] sz) [(h0, .inr (12, [.ref m_row, .ref m_in, .ref m_out, .int 0, .int 0, .int 0, .int 0, .int 0, .ref m_kept, .ref m_keptSize, .ref m_nIp, .ref m_nHeard, .ref m_nHard, .int 0, .int 0, .ref m_gIp, .ref m_gNumber, .ref m_gProtocol, .ref m_gTold, .ref m_gBegun, .ref m_gOrder, .ref m_gBytes, .ref m_gThere, .int 0, .int 0, .ref m_pTarget, .ref m_pBytes, .ref m_pLong, .ref m_pSize, .ref m_pSum, .int 0, .ref m_peer, .int 0, .int 0, .int 0, .int 0, .ref m_answer, .int 0, .int 0]))] [] t) (va_A [(h0, .inr (12, [.ref m_row, .ref m_in, .ref m_out, .int 0, .int 0, .int 0, .int 0, .int 0, .ref m_kept, .ref m_keptSize, .ref m_nIp, .ref m_nHeard, .ref m_nHard, .int 0, .int 0, .ref m_gIp, .ref m_gNumber, .ref m_gProtocol, .ref m_gTold, .ref m_gBegun, .ref m_gOrder, .ref m_gBytes, .ref m_gThere, .int 0, .int 0, .ref m_pTarget, .ref m_pBytes, .ref m_pLong, .ref m_pSize, .ref m_pSum, .int 0, .ref m_peer, .int 0, .int 0, .int 0, .int 0, .ref m_answer, .int 0, .int 0]))] sz)) 0 0 (va_A [(h0, .inr (12, [.ref m_row, .ref m_in, .ref m_out, .int 0, .int 0, .int 0, .int 0, .int 0, .ref m_kept, .ref m_keptSize, .ref m_nIp, .ref m_nHeard, .ref m_nHard, .int 0, .int 0, .ref m_gIp, .ref m_gNumber, .ref m_gProtocol, .ref m_gTold, .ref m_gBegun, .ref m_gOrder, .ref m_gBytes, .ref m_gThere, .int 0, .int 0, .ref m_pTarget, .ref m_pBytes, .ref m_pLong, .ref m_pSize, .ref m_pSum, .int 0, .ref m_peer, .int 0, .int 0, .int 0, .int 0, .ref m_answer, .int 0, .int 0]))] sz) := by
  refine Met.ofW (cc := b_Mo_count) (maxL := 2) (ret := some .int) (by decide) rfl ?_
  intro p e s m args below meth c s₁ B hml hv
  obtain ⟨rfl, hsz, hP, hK, hD0, hT⟩ := hv
  have hx := B.exec
  have hb := B.bytes
  have hr := B.returns
  have hown : s.vm.findClass "UnikernelHttpModel" = some m.cls := findClass_of_methodNamed B.named
  have hlocks := B.notSynchronized
  subst hsz
  have hD := hD0.self (sz := s.heap.size)
  have hns := ux_ns hP
  generalize hAe : va_A [(h0, .inr (12, [.ref m_row, .ref m_in, .ref m_out, .int 0, .int 0, .int 0, .int 0, .int 0, .ref m_kept, .ref m_keptSize, .ref m_nIp, .ref m_nHeard, .ref m_nHard, .int 0, .int 0, .ref m_gIp, .ref m_gNumber, .ref m_gProtocol, .ref m_gTold, .ref m_gBegun, .ref m_gOrder, .ref m_gBytes, .ref m_gThere, .int 0, .int 0, .ref m_pTarget, .ref m_pBytes, .ref m_pLong, .ref m_pSize, .ref m_pSum, .int 0, .ref m_peer, .int 0, .int 0, .int 0, .int 0, .ref m_answer, .int 0, .int 0]))] s.heap.size = A at hD hns ⊢
  have hA : ∀ q : Nat, s.heap.size ≤ q → A q := fun q h => by rw [← hAe]; exact Or.inr h
  have hS : va_S A s.heap s.heap [] := va_S.rf
  have hl := lv_entry ([.ref h0, .int 5]) (n := 2) (Nat.le_of_ble_eq_true rfl)
  rw [lg_entry_eq]
  generalize (lg_sl ([.ref h0, .int 5]) ++ List.replicate (2 - (lg_sl ([.ref h0, .int 5])).length) Slot.unset).toArray = ls at hl ⊢
  have hl : lv_has ls 2 [(0, .ref h0), (1, .int 5)] := hl
  have hfx : CallFix p m c b_Mo_count 2 s ([.ref h0, .int 5] : List Value).toArray [] "UnikernelHttpModel" := ⟨hx, hb, hml, hown, fun _ h => by cases h⟩
  refine lv_aload_n hx hb d_Mo_count_0 rfl (lv_at hl 0 rfl) ?_
  refine lv_iload_n hx hb d_Mo_count_1 rfl (lv_at hl 1 rfl) ?_
  refine lv_if_lt (tgt := 11) hx hb d_Mo_count_2 (by decide) (fun hc => absurd hc (by decide)) (fun _ => ?_)
  refine lv_iload_n hx hb d_Mo_count_5 rfl (lv_at hl 1 rfl) ?_
  refine lv_bipush (v := 7) hx hb d_Mo_count_6 (by decide) ?_
  refine lv_icmp_le (tgt := 15) hx hb d_Mo_count_8 (by decide) (fun _ => ?_) (fun hc => absurd (by decide) hc)
  refine lv_iconst (v := 0) hx hb d_Mo_count_15 (by decide) ?_
  refine va_put (D := (dC, dI)) (ci := 12) (v := .int 0) (ty := .int) (C := R_Mo) (T := F_Mo) (N := 39) hx hb (u_Mo hT) (fun _ h => h) t_Mo k_Mo n_Mo hown hK hP hD hS 0 rfl rfl 4 (by decide) (ux_T_at hT tw_1598 rfl) (fun _ h9 => h9) rfl (by decide +kernel) rfl rfl (Nat.le_of_ble_eq_true rfl) d_Mo_count_16 (fun H locs hP hD hS => ?_)
  have hP : va_P (dC, dI) cls [(h0, .inr (12, [.ref m_row, .ref m_in, .ref m_out, .int 0, .int 0, .int 0, .int 0, .int 0, .ref m_kept, .ref m_keptSize, .ref m_nIp, .ref m_nHeard, .ref m_nHard, .int 0, .int 0, .ref m_gIp, .ref m_gNumber, .ref m_gProtocol, .ref m_gTold, .ref m_gBegun, .ref m_gOrder, .ref m_gBytes, .ref m_gThere, .int 0, .int 0, .ref m_pTarget, .ref m_pBytes, .ref m_pLong, .ref m_pSize, .ref m_pSum, .int 0, .ref m_peer, .int 0, .int 0, .int 0, .int 0, .ref m_answer, .int 0, .int 0]))] H := hP
  have hD : va_D A [(h0, .inr (12, [.ref m_row, .ref m_in, .ref m_out, .int 0, .int 0, .int 0, .int 0, .int 0, .ref m_kept, .ref m_keptSize, .ref m_nIp, .ref m_nHeard, .ref m_nHard, .int 0, .int 0, .ref m_gIp, .ref m_gNumber, .ref m_gProtocol, .ref m_gTold, .ref m_gBegun, .ref m_gOrder, .ref m_gBytes, .ref m_gThere, .int 0, .int 0, .ref m_pTarget, .ref m_pBytes, .ref m_pLong, .ref m_pSize, .ref m_pSum, .int 0, .ref m_peer, .int 0, .int 0, .int 0, .int 0, .ref m_answer, .int 0, .int 0]))] := hD
  refine lv_aload_n hx hb d_Mo_count_19 rfl (lv_at hl 0 rfl) ?_
  refine va_get (D := (dC, dI)) (ci := 12) (v := .int 0) (C := R_Mo) (T := F_Mo) (N := 39) hx hb (u_Mo hT) (fun _ h => h) hown hK hP 0 rfl rfl 4 (by decide) (ux_T_at hT tw_1598 rfl) (fun _ h9 => h9) rfl d_Mo_count_20 ?_
  refine lv_if_le (tgt := 28) hx hb d_Mo_count_23 (by decide) (fun _ => ?_) (fun hc => absurd (by decide) hc)
  refine lv_iload_n hx hb d_Mo_count_28 rfl (lv_at hl 1 rfl) ?_
  refine lv_tableIn (tgt := 97) hx hb d_Mo_count_29 (by decide) (by decide) rfl (by decide) ?_
  refine lv_aload_n hx hb d_Mo_count_97 rfl (lv_at hl 0 rfl) ?_
  refine va_get (D := (dC, dI)) (ci := 12) (v := .int 0) (C := R_Mo) (T := F_Mo) (N := 39) hx hb (u_Mo hT) (fun _ h => h) hown hK hP 0 rfl rfl 23 (by decide) (ux_T_at hT tw_1617 rfl) (fun _ h9 => h9) rfl d_Mo_count_98 ?_
  have hP9 := hP.sub (ws' := [(h0, .inr (12, [.ref m_row, .ref m_in, .ref m_out, .int 0, .int 0, .int 0, .int 0, .int 0, .ref m_kept, .ref m_keptSize, .ref m_nIp, .ref m_nHeard, .ref m_nHard, .int 0, .int 0, .ref m_gIp, .ref m_gNumber, .ref m_gProtocol, .ref m_gTold, .ref m_gBegun, .ref m_gOrder, .ref m_gBytes, .ref m_gThere, .int 0, .int 0, .ref m_pTarget, .ref m_pBytes, .ref m_pLong, .ref m_pSize, .ref m_pSum, .int 0, .ref m_peer, .int 0, .int 0, .int 0, .int 0, .ref m_answer, .int 0, .int 0]))]) [0] rfl
  have hD9 := hD.sub (ws' := [(h0, .inr (12, [.ref m_row, .ref m_in, .ref m_out, .int 0, .int 0, .int 0, .int 0, .int 0, .ref m_kept, .ref m_keptSize, .ref m_nIp, .ref m_nHeard, .ref m_nHard, .int 0, .int 0, .ref m_gIp, .ref m_gNumber, .ref m_gProtocol, .ref m_gTold, .ref m_gBegun, .ref m_gOrder, .ref m_gBytes, .ref m_gThere, .int 0, .int 0, .ref m_pTarget, .ref m_pBytes, .ref m_pLong, .ref m_pSize, .ref m_pSum, .int 0, .ref m_peer, .int 0, .int 0, .int 0, .int 0, .ref m_answer, .int 0, .int 0]))]) [0] (by decide) rfl
  have hK9 := hK.sub (tys' := []) [] rfl
  refine W.widen (k := 0) (n := 0) (Nat.le_of_ble_eq_true rfl) (Nat.le_of_ble_eq_true rfl) ?_
  exact W.iret (v := 0) hx hb hr (fun t ht hW => ⟨⟨_, (), rfl, rfl, by rw [ht]; exact hP9, va_K.moved hW.alike hK9, hD9⟩, hS.F ht⟩) hS.2.2 d_Mo_count_101
set_option maxHeartbeats 4000000 in
set_option maxRecDepth 100000 in
theorem c_Mo_count_6 (l : Launch) (dC : Nat → ClassId) (dI : Nat → Nat → Nat) (h0 : Nat) (m_row : Nat) (m_in : Nat) (m_out : Nat) (m_kept : Nat) (m_keptSize : Nat) (m_nIp : Nat) (m_nHeard : Nat) (m_nHard : Nat) (m_gIp : Nat) (m_gNumber : Nat) (m_gProtocol : Nat) (m_gTold : Nat) (m_gBegun : Nat) (m_gOrder : Nat) (m_gBytes : Nat) (m_gThere : Nat) (m_pTarget : Nat) (m_pBytes : Nat) (m_pLong : Nat) (m_pSize : Nat) (m_pSum : Nat) (m_peer : Nat) (m_answer : Nat) (sz : Nat) : Met l y_Mo_count [Cond.code y_Mo_count b_Mo_count 2 (some .int)] ({ frames := 40, cells := 0, slots := 0, locals := 600 }) (ux_Pc [.ref h0, .int 6] (dC, dI) cls [(h0, .inr (12, [.ref m_row, .ref m_in, .ref m_out, .int 0, .int 0, .int 0, .int 0, .int 0, .ref m_kept, .ref m_keptSize, .ref m_nIp, .ref m_nHeard, .ref m_nHard, .int 0, .int 0, .ref m_gIp, .ref m_gNumber, .ref m_gProtocol, .ref m_gTold, .ref m_gBegun, .ref m_gOrder, .ref m_gBytes, .ref m_gThere, .int 0, .int 0, .ref m_pTarget, .ref m_pBytes, .ref m_pLong, .ref m_pSize, .ref m_pSum, .int 0, .ref m_peer, .int 0, .int 0, .int 0, .int 0, .ref m_answer, .int 0, .int 0]))] [] sz) (va_Qi (fun (r : Int32) (_ : Unit) => r = 0) (fun (_ : Unit) (t : State) => ux_B (dC, dI) cls (va_A [(h0, .inr (12, [.ref m_row, .ref m_in, .ref m_out, .int 0, .int 0, .int 0, .int 0, .int 0, .ref m_kept, .ref m_keptSize, .ref m_nIp, .ref m_nHeard, .ref m_nHard, .int 0, .int 0, .ref m_gIp, .ref m_gNumber, .ref m_gProtocol, .ref m_gTold, .ref m_gBegun, .ref m_gOrder, .ref m_gBytes, .ref m_gThere, .int 0, .int 0, .ref m_pTarget, .ref m_pBytes, .ref m_pLong, .ref m_pSize, .ref m_pSum, .int 0, .ref m_peer, .int 0, .int 0, .int 0, .int 0, .ref m_answer, .int 0, .int 0]))] sz) [(h0, .inr (12, [.ref m_row, .ref m_in, .ref m_out, .int 0, .int 0, .int 0, .int 0, .int 0, .ref m_kept, .ref m_keptSize, .ref m_nIp, .ref m_nHeard, .ref m_nHard, .int 0, .int 0, .ref m_gIp, .ref m_gNumber, .ref m_gProtocol, .ref m_gTold, .ref m_gBegun, .ref m_gOrder, .ref m_gBytes, .ref m_gThere, .int 0, .int 0, .ref m_pTarget, .ref m_pBytes, .ref m_pLong, .ref m_pSize, .ref m_pSum, .int 0, .ref m_peer, .int 0, .int 0, .int 0, .int 0, .ref m_answer, .int 0, .int 0]))] [] t) (va_A [(h0, .inr (12, [.ref m_row, .ref m_in, .ref m_out, .int 0, .int 0, .int 0, .int 0, .int 0, .ref m_kept, .ref m_keptSize, .ref m_nIp, .ref m_nHeard, .ref m_nHard, .int 0, .int 0, .ref m_gIp, .ref m_gNumber, .ref m_gProtocol, .ref m_gTold, .ref m_gBegun, .ref m_gOrder, .ref m_gBytes, .ref m_gThere, .int 0, .int 0, .ref m_pTarget, .ref m_pBytes, .ref m_pLong, .ref m_pSize, .ref m_pSum, .int 0, .ref m_peer, .int 0, .int 0, .int 0, .int 0, .ref m_answer, .int 0, .int 0]))] sz)) 0 0 (va_A [(h0, .inr (12, [.ref m_row, .ref m_in, .ref m_out, .int 0, .int 0, .int 0, .int 0, .int 0, .ref m_kept, .ref m_keptSize, .ref m_nIp, .ref m_nHeard, .ref m_nHard, .int 0, .int 0, .ref m_gIp, .ref m_gNumber, .ref m_gProtocol, .ref m_gTold, .ref m_gBegun, .ref m_gOrder, .ref m_gBytes, .ref m_gThere, .int 0, .int 0, .ref m_pTarget, .ref m_pBytes, .ref m_pLong, .ref m_pSize, .ref m_pSum, .int 0, .ref m_peer, .int 0, .int 0, .int 0, .int 0, .ref m_answer, .int 0, .int 0]))] sz) := by
  refine Met.ofW (cc := b_Mo_count) (maxL := 2) (ret := some .int) (by decide) rfl ?_
  intro p e s m args below meth c s₁ B hml hv
  obtain ⟨rfl, hsz, hP, hK, hD0, hT⟩ := hv
  have hx := B.exec
  have hb := B.bytes
  have hr := B.returns
  have hown : s.vm.findClass "UnikernelHttpModel" = some m.cls := findClass_of_methodNamed B.named
  have hlocks := B.notSynchronized
  subst hsz
  have hD := hD0.self (sz := s.heap.size)
  have hns := ux_ns hP
  generalize hAe : va_A [(h0, .inr (12, [.ref m_row, .ref m_in, .ref m_out, .int 0, .int 0, .int 0, .int 0, .int 0, .ref m_kept, .ref m_keptSize, .ref m_nIp, .ref m_nHeard, .ref m_nHard, .int 0, .int 0, .ref m_gIp, .ref m_gNumber, .ref m_gProtocol, .ref m_gTold, .ref m_gBegun, .ref m_gOrder, .ref m_gBytes, .ref m_gThere, .int 0, .int 0, .ref m_pTarget, .ref m_pBytes, .ref m_pLong, .ref m_pSize, .ref m_pSum, .int 0, .ref m_peer, .int 0, .int 0, .int 0, .int 0, .ref m_answer, .int 0, .int 0]))] s.heap.size = A at hD hns ⊢
  have hA : ∀ q : Nat, s.heap.size ≤ q → A q := fun q h => by rw [← hAe]; exact Or.inr h
  have hS : va_S A s.heap s.heap [] := va_S.rf
  have hl := lv_entry ([.ref h0, .int 6]) (n := 2) (Nat.le_of_ble_eq_true rfl)
  rw [lg_entry_eq]
  generalize (lg_sl ([.ref h0, .int 6]) ++ List.replicate (2 - (lg_sl ([.ref h0, .int 6])).length) Slot.unset).toArray = ls at hl ⊢
  have hl : lv_has ls 2 [(0, .ref h0), (1, .int 6)] := hl
  have hfx : CallFix p m c b_Mo_count 2 s ([.ref h0, .int 6] : List Value).toArray [] "UnikernelHttpModel" := ⟨hx, hb, hml, hown, fun _ h => by cases h⟩
  refine lv_aload_n hx hb d_Mo_count_0 rfl (lv_at hl 0 rfl) ?_
  refine lv_iload_n hx hb d_Mo_count_1 rfl (lv_at hl 1 rfl) ?_
  refine lv_if_lt (tgt := 11) hx hb d_Mo_count_2 (by decide) (fun hc => absurd hc (by decide)) (fun _ => ?_)
  refine lv_iload_n hx hb d_Mo_count_5 rfl (lv_at hl 1 rfl) ?_
  refine lv_bipush (v := 7) hx hb d_Mo_count_6 (by decide) ?_
  refine lv_icmp_le (tgt := 15) hx hb d_Mo_count_8 (by decide) (fun _ => ?_) (fun hc => absurd (by decide) hc)
  refine lv_iconst (v := 0) hx hb d_Mo_count_15 (by decide) ?_
  refine va_put (D := (dC, dI)) (ci := 12) (v := .int 0) (ty := .int) (C := R_Mo) (T := F_Mo) (N := 39) hx hb (u_Mo hT) (fun _ h => h) t_Mo k_Mo n_Mo hown hK hP hD hS 0 rfl rfl 4 (by decide) (ux_T_at hT tw_1598 rfl) (fun _ h9 => h9) rfl (by decide +kernel) rfl rfl (Nat.le_of_ble_eq_true rfl) d_Mo_count_16 (fun H locs hP hD hS => ?_)
  have hP : va_P (dC, dI) cls [(h0, .inr (12, [.ref m_row, .ref m_in, .ref m_out, .int 0, .int 0, .int 0, .int 0, .int 0, .ref m_kept, .ref m_keptSize, .ref m_nIp, .ref m_nHeard, .ref m_nHard, .int 0, .int 0, .ref m_gIp, .ref m_gNumber, .ref m_gProtocol, .ref m_gTold, .ref m_gBegun, .ref m_gOrder, .ref m_gBytes, .ref m_gThere, .int 0, .int 0, .ref m_pTarget, .ref m_pBytes, .ref m_pLong, .ref m_pSize, .ref m_pSum, .int 0, .ref m_peer, .int 0, .int 0, .int 0, .int 0, .ref m_answer, .int 0, .int 0]))] H := hP
  have hD : va_D A [(h0, .inr (12, [.ref m_row, .ref m_in, .ref m_out, .int 0, .int 0, .int 0, .int 0, .int 0, .ref m_kept, .ref m_keptSize, .ref m_nIp, .ref m_nHeard, .ref m_nHard, .int 0, .int 0, .ref m_gIp, .ref m_gNumber, .ref m_gProtocol, .ref m_gTold, .ref m_gBegun, .ref m_gOrder, .ref m_gBytes, .ref m_gThere, .int 0, .int 0, .ref m_pTarget, .ref m_pBytes, .ref m_pLong, .ref m_pSize, .ref m_pSum, .int 0, .ref m_peer, .int 0, .int 0, .int 0, .int 0, .ref m_answer, .int 0, .int 0]))] := hD
  refine lv_aload_n hx hb d_Mo_count_19 rfl (lv_at hl 0 rfl) ?_
  refine va_get (D := (dC, dI)) (ci := 12) (v := .int 0) (C := R_Mo) (T := F_Mo) (N := 39) hx hb (u_Mo hT) (fun _ h => h) hown hK hP 0 rfl rfl 4 (by decide) (ux_T_at hT tw_1598 rfl) (fun _ h9 => h9) rfl d_Mo_count_20 ?_
  refine lv_if_le (tgt := 28) hx hb d_Mo_count_23 (by decide) (fun _ => ?_) (fun hc => absurd (by decide) hc)
  refine lv_iload_n hx hb d_Mo_count_28 rfl (lv_at hl 1 rfl) ?_
  refine lv_tableIn (tgt := 102) hx hb d_Mo_count_29 (by decide) (by decide) rfl (by decide) ?_
  refine lv_aload_n hx hb d_Mo_count_102 rfl (lv_at hl 0 rfl) ?_
  refine va_get (D := (dC, dI)) (ci := 12) (v := .int 0) (C := R_Mo) (T := F_Mo) (N := 39) hx hb (u_Mo hT) (fun _ h => h) hown hK hP 0 rfl rfl 30 (by decide) (ux_T_at hT tw_1623 rfl) (fun _ h9 => h9) rfl d_Mo_count_103 ?_
  have hP9 := hP.sub (ws' := [(h0, .inr (12, [.ref m_row, .ref m_in, .ref m_out, .int 0, .int 0, .int 0, .int 0, .int 0, .ref m_kept, .ref m_keptSize, .ref m_nIp, .ref m_nHeard, .ref m_nHard, .int 0, .int 0, .ref m_gIp, .ref m_gNumber, .ref m_gProtocol, .ref m_gTold, .ref m_gBegun, .ref m_gOrder, .ref m_gBytes, .ref m_gThere, .int 0, .int 0, .ref m_pTarget, .ref m_pBytes, .ref m_pLong, .ref m_pSize, .ref m_pSum, .int 0, .ref m_peer, .int 0, .int 0, .int 0, .int 0, .ref m_answer, .int 0, .int 0]))]) [0] rfl
  have hD9 := hD.sub (ws' := [(h0, .inr (12, [.ref m_row, .ref m_in, .ref m_out, .int 0, .int 0, .int 0, .int 0, .int 0, .ref m_kept, .ref m_keptSize, .ref m_nIp, .ref m_nHeard, .ref m_nHard, .int 0, .int 0, .ref m_gIp, .ref m_gNumber, .ref m_gProtocol, .ref m_gTold, .ref m_gBegun, .ref m_gOrder, .ref m_gBytes, .ref m_gThere, .int 0, .int 0, .ref m_pTarget, .ref m_pBytes, .ref m_pLong, .ref m_pSize, .ref m_pSum, .int 0, .ref m_peer, .int 0, .int 0, .int 0, .int 0, .ref m_answer, .int 0, .int 0]))]) [0] (by decide) rfl
  have hK9 := hK.sub (tys' := []) [] rfl
  refine W.widen (k := 0) (n := 0) (Nat.le_of_ble_eq_true rfl) (Nat.le_of_ble_eq_true rfl) ?_
  exact W.iret (v := 0) hx hb hr (fun t ht hW => ⟨⟨_, (), rfl, rfl, by rw [ht]; exact hP9, va_K.moved hW.alike hK9, hD9⟩, hS.F ht⟩) hS.2.2 d_Mo_count_106
set_option maxHeartbeats 4000000 in
set_option maxRecDepth 100000 in
theorem c_Mo_count_7 (l : Launch) (dC : Nat → ClassId) (dI : Nat → Nat → Nat) (h0 : Nat) (m_row : Nat) (m_in : Nat) (m_out : Nat) (m_kept : Nat) (m_keptSize : Nat) (m_nIp : Nat) (m_nHeard : Nat) (m_nHard : Nat) (m_gIp : Nat) (m_gNumber : Nat) (m_gProtocol : Nat) (m_gTold : Nat) (m_gBegun : Nat) (m_gOrder : Nat) (m_gBytes : Nat) (m_gThere : Nat) (m_pTarget : Nat) (m_pBytes : Nat) (m_pLong : Nat) (m_pSize : Nat) (m_pSum : Nat) (m_peer : Nat) (m_answer : Nat) (sz : Nat) : Met l y_Mo_count [Cond.code y_Mo_count b_Mo_count 2 (some .int)] ({ frames := 40, cells := 0, slots := 0, locals := 600 }) (ux_Pc [.ref h0, .int 7] (dC, dI) cls [(h0, .inr (12, [.ref m_row, .ref m_in, .ref m_out, .int 0, .int 0, .int 0, .int 0, .int 0, .ref m_kept, .ref m_keptSize, .ref m_nIp, .ref m_nHeard, .ref m_nHard, .int 0, .int 0, .ref m_gIp, .ref m_gNumber, .ref m_gProtocol, .ref m_gTold, .ref m_gBegun, .ref m_gOrder, .ref m_gBytes, .ref m_gThere, .int 0, .int 0, .ref m_pTarget, .ref m_pBytes, .ref m_pLong, .ref m_pSize, .ref m_pSum, .int 0, .ref m_peer, .int 0, .int 0, .int 0, .int 0, .ref m_answer, .int 0, .int 0]))] [] sz) (va_Qi (fun (r : Int32) (_ : Unit) => r = 0) (fun (_ : Unit) (t : State) => ux_B (dC, dI) cls (va_A [(h0, .inr (12, [.ref m_row, .ref m_in, .ref m_out, .int 0, .int 0, .int 0, .int 0, .int 0, .ref m_kept, .ref m_keptSize, .ref m_nIp, .ref m_nHeard, .ref m_nHard, .int 0, .int 0, .ref m_gIp, .ref m_gNumber, .ref m_gProtocol, .ref m_gTold, .ref m_gBegun, .ref m_gOrder, .ref m_gBytes, .ref m_gThere, .int 0, .int 0, .ref m_pTarget, .ref m_pBytes, .ref m_pLong, .ref m_pSize, .ref m_pSum, .int 0, .ref m_peer, .int 0, .int 0, .int 0, .int 0, .ref m_answer, .int 0, .int 0]))] sz) [(h0, .inr (12, [.ref m_row, .ref m_in, .ref m_out, .int 0, .int 0, .int 0, .int 0, .int 0, .ref m_kept, .ref m_keptSize, .ref m_nIp, .ref m_nHeard, .ref m_nHard, .int 0, .int 0, .ref m_gIp, .ref m_gNumber, .ref m_gProtocol, .ref m_gTold, .ref m_gBegun, .ref m_gOrder, .ref m_gBytes, .ref m_gThere, .int 0, .int 0, .ref m_pTarget, .ref m_pBytes, .ref m_pLong, .ref m_pSize, .ref m_pSum, .int 0, .ref m_peer, .int 0, .int 0, .int 0, .int 0, .ref m_answer, .int 0, .int 0]))] [] t) (va_A [(h0, .inr (12, [.ref m_row, .ref m_in, .ref m_out, .int 0, .int 0, .int 0, .int 0, .int 0, .ref m_kept, .ref m_keptSize, .ref m_nIp, .ref m_nHeard, .ref m_nHard, .int 0, .int 0, .ref m_gIp, .ref m_gNumber, .ref m_gProtocol, .ref m_gTold, .ref m_gBegun, .ref m_gOrder, .ref m_gBytes, .ref m_gThere, .int 0, .int 0, .ref m_pTarget, .ref m_pBytes, .ref m_pLong, .ref m_pSize, .ref m_pSum, .int 0, .ref m_peer, .int 0, .int 0, .int 0, .int 0, .ref m_answer, .int 0, .int 0]))] sz)) 0 0 (va_A [(h0, .inr (12, [.ref m_row, .ref m_in, .ref m_out, .int 0, .int 0, .int 0, .int 0, .int 0, .ref m_kept, .ref m_keptSize, .ref m_nIp, .ref m_nHeard, .ref m_nHard, .int 0, .int 0, .ref m_gIp, .ref m_gNumber, .ref m_gProtocol, .ref m_gTold, .ref m_gBegun, .ref m_gOrder, .ref m_gBytes, .ref m_gThere, .int 0, .int 0, .ref m_pTarget, .ref m_pBytes, .ref m_pLong, .ref m_pSize, .ref m_pSum, .int 0, .ref m_peer, .int 0, .int 0, .int 0, .int 0, .ref m_answer, .int 0, .int 0]))] sz) := by
  refine Met.ofW (cc := b_Mo_count) (maxL := 2) (ret := some .int) (by decide) rfl ?_
  intro p e s m args below meth c s₁ B hml hv
  obtain ⟨rfl, hsz, hP, hK, hD0, hT⟩ := hv
  have hx := B.exec
  have hb := B.bytes
  have hr := B.returns
  have hown : s.vm.findClass "UnikernelHttpModel" = some m.cls := findClass_of_methodNamed B.named
  have hlocks := B.notSynchronized
  subst hsz
  have hD := hD0.self (sz := s.heap.size)
  have hns := ux_ns hP
  generalize hAe : va_A [(h0, .inr (12, [.ref m_row, .ref m_in, .ref m_out, .int 0, .int 0, .int 0, .int 0, .int 0, .ref m_kept, .ref m_keptSize, .ref m_nIp, .ref m_nHeard, .ref m_nHard, .int 0, .int 0, .ref m_gIp, .ref m_gNumber, .ref m_gProtocol, .ref m_gTold, .ref m_gBegun, .ref m_gOrder, .ref m_gBytes, .ref m_gThere, .int 0, .int 0, .ref m_pTarget, .ref m_pBytes, .ref m_pLong, .ref m_pSize, .ref m_pSum, .int 0, .ref m_peer, .int 0, .int 0, .int 0, .int 0, .ref m_answer, .int 0, .int 0]))] s.heap.size = A at hD hns ⊢
  have hA : ∀ q : Nat, s.heap.size ≤ q → A q := fun q h => by rw [← hAe]; exact Or.inr h
  have hS : va_S A s.heap s.heap [] := va_S.rf
  have hl := lv_entry ([.ref h0, .int 7]) (n := 2) (Nat.le_of_ble_eq_true rfl)
  rw [lg_entry_eq]
  generalize (lg_sl ([.ref h0, .int 7]) ++ List.replicate (2 - (lg_sl ([.ref h0, .int 7])).length) Slot.unset).toArray = ls at hl ⊢
  have hl : lv_has ls 2 [(0, .ref h0), (1, .int 7)] := hl
  have hfx : CallFix p m c b_Mo_count 2 s ([.ref h0, .int 7] : List Value).toArray [] "UnikernelHttpModel" := ⟨hx, hb, hml, hown, fun _ h => by cases h⟩
  refine lv_aload_n hx hb d_Mo_count_0 rfl (lv_at hl 0 rfl) ?_
  refine lv_iload_n hx hb d_Mo_count_1 rfl (lv_at hl 1 rfl) ?_
  refine lv_if_lt (tgt := 11) hx hb d_Mo_count_2 (by decide) (fun hc => absurd hc (by decide)) (fun _ => ?_)
  refine lv_iload_n hx hb d_Mo_count_5 rfl (lv_at hl 1 rfl) ?_
  refine lv_bipush (v := 7) hx hb d_Mo_count_6 (by decide) ?_
  refine lv_icmp_le (tgt := 15) hx hb d_Mo_count_8 (by decide) (fun _ => ?_) (fun hc => absurd (by decide) hc)
  refine lv_iconst (v := 0) hx hb d_Mo_count_15 (by decide) ?_
  refine va_put (D := (dC, dI)) (ci := 12) (v := .int 0) (ty := .int) (C := R_Mo) (T := F_Mo) (N := 39) hx hb (u_Mo hT) (fun _ h => h) t_Mo k_Mo n_Mo hown hK hP hD hS 0 rfl rfl 4 (by decide) (ux_T_at hT tw_1598 rfl) (fun _ h9 => h9) rfl (by decide +kernel) rfl rfl (Nat.le_of_ble_eq_true rfl) d_Mo_count_16 (fun H locs hP hD hS => ?_)
  have hP : va_P (dC, dI) cls [(h0, .inr (12, [.ref m_row, .ref m_in, .ref m_out, .int 0, .int 0, .int 0, .int 0, .int 0, .ref m_kept, .ref m_keptSize, .ref m_nIp, .ref m_nHeard, .ref m_nHard, .int 0, .int 0, .ref m_gIp, .ref m_gNumber, .ref m_gProtocol, .ref m_gTold, .ref m_gBegun, .ref m_gOrder, .ref m_gBytes, .ref m_gThere, .int 0, .int 0, .ref m_pTarget, .ref m_pBytes, .ref m_pLong, .ref m_pSize, .ref m_pSum, .int 0, .ref m_peer, .int 0, .int 0, .int 0, .int 0, .ref m_answer, .int 0, .int 0]))] H := hP
  have hD : va_D A [(h0, .inr (12, [.ref m_row, .ref m_in, .ref m_out, .int 0, .int 0, .int 0, .int 0, .int 0, .ref m_kept, .ref m_keptSize, .ref m_nIp, .ref m_nHeard, .ref m_nHard, .int 0, .int 0, .ref m_gIp, .ref m_gNumber, .ref m_gProtocol, .ref m_gTold, .ref m_gBegun, .ref m_gOrder, .ref m_gBytes, .ref m_gThere, .int 0, .int 0, .ref m_pTarget, .ref m_pBytes, .ref m_pLong, .ref m_pSize, .ref m_pSum, .int 0, .ref m_peer, .int 0, .int 0, .int 0, .int 0, .ref m_answer, .int 0, .int 0]))] := hD
  refine lv_aload_n hx hb d_Mo_count_19 rfl (lv_at hl 0 rfl) ?_
  refine va_get (D := (dC, dI)) (ci := 12) (v := .int 0) (C := R_Mo) (T := F_Mo) (N := 39) hx hb (u_Mo hT) (fun _ h => h) hown hK hP 0 rfl rfl 4 (by decide) (ux_T_at hT tw_1598 rfl) (fun _ h9 => h9) rfl d_Mo_count_20 ?_
  refine lv_if_le (tgt := 28) hx hb d_Mo_count_23 (by decide) (fun _ => ?_) (fun hc => absurd (by decide) hc)
  refine lv_iload_n hx hb d_Mo_count_28 rfl (lv_at hl 1 rfl) ?_
  refine lv_tableOut (tgt := 107) hx hb d_Mo_count_29 (by decide) (by decide) ?_
  refine lv_aload_n hx hb d_Mo_count_107 rfl (lv_at hl 0 rfl) ?_
  refine va_get (D := (dC, dI)) (ci := 12) (v := .int 0) (C := R_Mo) (T := F_Mo) (N := 39) hx hb (u_Mo hT) (fun _ h => h) hown hK hP 0 rfl rfl 6 (by decide) (ux_T_at hT tw_1600 rfl) (fun _ h9 => h9) rfl d_Mo_count_108 ?_
  have hP9 := hP.sub (ws' := [(h0, .inr (12, [.ref m_row, .ref m_in, .ref m_out, .int 0, .int 0, .int 0, .int 0, .int 0, .ref m_kept, .ref m_keptSize, .ref m_nIp, .ref m_nHeard, .ref m_nHard, .int 0, .int 0, .ref m_gIp, .ref m_gNumber, .ref m_gProtocol, .ref m_gTold, .ref m_gBegun, .ref m_gOrder, .ref m_gBytes, .ref m_gThere, .int 0, .int 0, .ref m_pTarget, .ref m_pBytes, .ref m_pLong, .ref m_pSize, .ref m_pSum, .int 0, .ref m_peer, .int 0, .int 0, .int 0, .int 0, .ref m_answer, .int 0, .int 0]))]) [0] rfl
  have hD9 := hD.sub (ws' := [(h0, .inr (12, [.ref m_row, .ref m_in, .ref m_out, .int 0, .int 0, .int 0, .int 0, .int 0, .ref m_kept, .ref m_keptSize, .ref m_nIp, .ref m_nHeard, .ref m_nHard, .int 0, .int 0, .ref m_gIp, .ref m_gNumber, .ref m_gProtocol, .ref m_gTold, .ref m_gBegun, .ref m_gOrder, .ref m_gBytes, .ref m_gThere, .int 0, .int 0, .ref m_pTarget, .ref m_pBytes, .ref m_pLong, .ref m_pSize, .ref m_pSum, .int 0, .ref m_peer, .int 0, .int 0, .int 0, .int 0, .ref m_answer, .int 0, .int 0]))]) [0] (by decide) rfl
  have hK9 := hK.sub (tys' := []) [] rfl
  refine W.widen (k := 0) (n := 0) (Nat.le_of_ble_eq_true rfl) (Nat.le_of_ble_eq_true rfl) ?_
  exact W.iret (v := 0) hx hb hr (fun t ht hW => ⟨⟨_, (), rfl, rfl, by rw [ht]; exact hP9, va_K.moved hW.alike hK9, hD9⟩, hS.F ht⟩) hS.2.2 d_Mo_count_111
set_option maxHeartbeats 4000000 in
set_option maxRecDepth 100000 in
theorem c_Mo_count_no (l : Launch) (dC : Nat → ClassId) (dI : Nat → Nat → Nat) (h0 : Nat) (m_row : Nat) (m_in : Nat) (m_out : Nat) (m_kept : Nat) (m_keptSize : Nat) (m_nIp : Nat) (m_nHeard : Nat) (m_nHard : Nat) (m_gIp : Nat) (m_gNumber : Nat) (m_gProtocol : Nat) (m_gTold : Nat) (m_gBegun : Nat) (m_gOrder : Nat) (m_gBytes : Nat) (m_gThere : Nat) (m_pTarget : Nat) (m_pBytes : Nat) (m_pLong : Nat) (m_pSize : Nat) (m_pSum : Nat) (m_peer : Nat) (m_answer : Nat) (p0 : Int32) (hn : p0.toInt < 0 ∨ 7 < p0.toInt) (sz : Nat) : Met l y_Mo_count [Cond.code y_Mo_count b_Mo_count 2 (some .int)] ({ frames := 40, cells := 0, slots := 0, locals := 600 }) (ux_Pc [.ref h0, .int p0] (dC, dI) cls [(h0, .inr (12, [.ref m_row, .ref m_in, .ref m_out, .int 0, .int 0, .int 0, .int 0, .int 0, .ref m_kept, .ref m_keptSize, .ref m_nIp, .ref m_nHeard, .ref m_nHard, .int 0, .int 0, .ref m_gIp, .ref m_gNumber, .ref m_gProtocol, .ref m_gTold, .ref m_gBegun, .ref m_gOrder, .ref m_gBytes, .ref m_gThere, .int 0, .int 0, .ref m_pTarget, .ref m_pBytes, .ref m_pLong, .ref m_pSize, .ref m_pSum, .int 0, .ref m_peer, .int 0, .int 0, .int 0, .int 0, .ref m_answer, .int 0, .int 0]))] [] sz) (va_Qi (fun (r : Int32) (_ : Unit) => r = 0) (fun (_ : Unit) (t : State) => ux_B (dC, dI) cls (va_A [(h0, .inr (12, [.ref m_row, .ref m_in, .ref m_out, .int 0, .int 0, .int 0, .int 0, .int 0, .ref m_kept, .ref m_keptSize, .ref m_nIp, .ref m_nHeard, .ref m_nHard, .int 0, .int 0, .ref m_gIp, .ref m_gNumber, .ref m_gProtocol, .ref m_gTold, .ref m_gBegun, .ref m_gOrder, .ref m_gBytes, .ref m_gThere, .int 0, .int 0, .ref m_pTarget, .ref m_pBytes, .ref m_pLong, .ref m_pSize, .ref m_pSum, .int 0, .ref m_peer, .int 0, .int 0, .int 0, .int 0, .ref m_answer, .int 0, .int 0]))] sz) [(h0, .inr (12, [.ref m_row, .ref m_in, .ref m_out, .int 0, .int 1, .int 0, .int 0, .int 0, .ref m_kept, .ref m_keptSize, .ref m_nIp, .ref m_nHeard, .ref m_nHard, .int 0, .int 0, .ref m_gIp, .ref m_gNumber, .ref m_gProtocol, .ref m_gTold, .ref m_gBegun, .ref m_gOrder, .ref m_gBytes, .ref m_gThere, .int 0, .int 0, .ref m_pTarget, .ref m_pBytes, .ref m_pLong, .ref m_pSize, .ref m_pSum, .int 0, .ref m_peer, .int 0, .int 0, .int 0, .int 0, .ref m_answer, .int 0, .int 0]))] [] t) (va_A [(h0, .inr (12, [.ref m_row, .ref m_in, .ref m_out, .int 0, .int 0, .int 0, .int 0, .int 0, .ref m_kept, .ref m_keptSize, .ref m_nIp, .ref m_nHeard, .ref m_nHard, .int 0, .int 0, .ref m_gIp, .ref m_gNumber, .ref m_gProtocol, .ref m_gTold, .ref m_gBegun, .ref m_gOrder, .ref m_gBytes, .ref m_gThere, .int 0, .int 0, .ref m_pTarget, .ref m_pBytes, .ref m_pLong, .ref m_pSize, .ref m_pSum, .int 0, .ref m_peer, .int 0, .int 0, .int 0, .int 0, .ref m_answer, .int 0, .int 0]))] sz)) 0 0 (va_A [(h0, .inr (12, [.ref m_row, .ref m_in, .ref m_out, .int 0, .int 0, .int 0, .int 0, .int 0, .ref m_kept, .ref m_keptSize, .ref m_nIp, .ref m_nHeard, .ref m_nHard, .int 0, .int 0, .ref m_gIp, .ref m_gNumber, .ref m_gProtocol, .ref m_gTold, .ref m_gBegun, .ref m_gOrder, .ref m_gBytes, .ref m_gThere, .int 0, .int 0, .ref m_pTarget, .ref m_pBytes, .ref m_pLong, .ref m_pSize, .ref m_pSum, .int 0, .ref m_peer, .int 0, .int 0, .int 0, .int 0, .ref m_answer, .int 0, .int 0]))] sz) := by
  refine Met.ofW (cc := b_Mo_count) (maxL := 2) (ret := some .int) (by decide) rfl ?_
  intro p e s m args below meth c s₁ B hml hv
  obtain ⟨rfl, hsz, hP, hK, hD0, hT⟩ := hv
  have hx := B.exec
  have hb := B.bytes
  have hr := B.returns
  have hown : s.vm.findClass "UnikernelHttpModel" = some m.cls := findClass_of_methodNamed B.named
  have hlocks := B.notSynchronized
  subst hsz
  have hD := hD0.self (sz := s.heap.size)
  have hns := ux_ns hP
  generalize hAe : va_A [(h0, .inr (12, [.ref m_row, .ref m_in, .ref m_out, .int 0, .int 0, .int 0, .int 0, .int 0, .ref m_kept, .ref m_keptSize, .ref m_nIp, .ref m_nHeard, .ref m_nHard, .int 0, .int 0, .ref m_gIp, .ref m_gNumber, .ref m_gProtocol, .ref m_gTold, .ref m_gBegun, .ref m_gOrder, .ref m_gBytes, .ref m_gThere, .int 0, .int 0, .ref m_pTarget, .ref m_pBytes, .ref m_pLong, .ref m_pSize, .ref m_pSum, .int 0, .ref m_peer, .int 0, .int 0, .int 0, .int 0, .ref m_answer, .int 0, .int 0]))] s.heap.size = A at hD hns ⊢
  have hA : ∀ q : Nat, s.heap.size ≤ q → A q := fun q h => by rw [← hAe]; exact Or.inr h
  have hS : va_S A s.heap s.heap [] := va_S.rf
  have hl := lv_entry ([.ref h0, .int p0]) (n := 2) (Nat.le_of_ble_eq_true rfl)
  rw [lg_entry_eq]
  generalize (lg_sl ([.ref h0, .int p0]) ++ List.replicate (2 - (lg_sl ([.ref h0, .int p0])).length) Slot.unset).toArray = ls at hl ⊢
  have hl : lv_has ls 2 [(0, .ref h0), (1, .int p0)] := hl
  have hfx : CallFix p m c b_Mo_count 2 s ([.ref h0, .int p0] : List Value).toArray [] "UnikernelHttpModel" := ⟨hx, hb, hml, hown, fun _ h => by cases h⟩
  refine lv_aload_n hx hb d_Mo_count_0 rfl (lv_at hl 0 rfl) ?_
  refine lv_iload_n hx hb d_Mo_count_1 rfl (lv_at hl 1 rfl) ?_
  refine lv_if_lt (tgt := 11) hx hb d_Mo_count_2 (by decide) (fun hc1 => ?_) (fun hc1 => ?_)
  · refine lv_iconst (v := 1) hx hb d_Mo_count_11 (by decide) ?_
    refine lv_goto hx hb d_Mo_count_12 (tgt := 16) (by decide) ?_
    refine va_put (D := (dC, dI)) (ci := 12) (v := .int 1) (ty := .int) (C := R_Mo) (T := F_Mo) (N := 39) hx hb (u_Mo hT) (fun _ h => h) t_Mo k_Mo n_Mo hown hK hP hD hS 0 rfl rfl 4 (by decide) (ux_T_at hT tw_1598 rfl) (fun _ h9 => h9) rfl (by decide +kernel) rfl rfl (Nat.le_of_ble_eq_true rfl) d_Mo_count_16 (fun H locs hP hD hS => ?_)
    have hP : va_P (dC, dI) cls [(h0, .inr (12, [.ref m_row, .ref m_in, .ref m_out, .int 0, .int 1, .int 0, .int 0, .int 0, .ref m_kept, .ref m_keptSize, .ref m_nIp, .ref m_nHeard, .ref m_nHard, .int 0, .int 0, .ref m_gIp, .ref m_gNumber, .ref m_gProtocol, .ref m_gTold, .ref m_gBegun, .ref m_gOrder, .ref m_gBytes, .ref m_gThere, .int 0, .int 0, .ref m_pTarget, .ref m_pBytes, .ref m_pLong, .ref m_pSize, .ref m_pSum, .int 0, .ref m_peer, .int 0, .int 0, .int 0, .int 0, .ref m_answer, .int 0, .int 0]))] H := hP
    have hD : va_D A [(h0, .inr (12, [.ref m_row, .ref m_in, .ref m_out, .int 0, .int 1, .int 0, .int 0, .int 0, .ref m_kept, .ref m_keptSize, .ref m_nIp, .ref m_nHeard, .ref m_nHard, .int 0, .int 0, .ref m_gIp, .ref m_gNumber, .ref m_gProtocol, .ref m_gTold, .ref m_gBegun, .ref m_gOrder, .ref m_gBytes, .ref m_gThere, .int 0, .int 0, .ref m_pTarget, .ref m_pBytes, .ref m_pLong, .ref m_pSize, .ref m_pSum, .int 0, .ref m_peer, .int 0, .int 0, .int 0, .int 0, .ref m_answer, .int 0, .int 0]))] := hD
    refine lv_aload_n hx hb d_Mo_count_19 rfl (lv_at hl 0 rfl) ?_
    refine va_get (D := (dC, dI)) (ci := 12) (v := .int 1) (C := R_Mo) (T := F_Mo) (N := 39) hx hb (u_Mo hT) (fun _ h => h) hown hK hP 0 rfl rfl 4 (by decide) (ux_T_at hT tw_1598 rfl) (fun _ h9 => h9) rfl d_Mo_count_20 ?_
    refine lv_if_le (tgt := 28) hx hb d_Mo_count_23 (by decide) (fun hc => absurd hc (by decide)) (fun _ => ?_)
    refine lv_iconst (v := 0) hx hb d_Mo_count_26 (by decide) ?_
    have hP9 := hP.sub (ws' := [(h0, .inr (12, [.ref m_row, .ref m_in, .ref m_out, .int 0, .int 1, .int 0, .int 0, .int 0, .ref m_kept, .ref m_keptSize, .ref m_nIp, .ref m_nHeard, .ref m_nHard, .int 0, .int 0, .ref m_gIp, .ref m_gNumber, .ref m_gProtocol, .ref m_gTold, .ref m_gBegun, .ref m_gOrder, .ref m_gBytes, .ref m_gThere, .int 0, .int 0, .ref m_pTarget, .ref m_pBytes, .ref m_pLong, .ref m_pSize, .ref m_pSum, .int 0, .ref m_peer, .int 0, .int 0, .int 0, .int 0, .ref m_answer, .int 0, .int 0]))]) [0] rfl
    have hD9 := hD.sub (ws' := [(h0, .inr (12, [.ref m_row, .ref m_in, .ref m_out, .int 0, .int 1, .int 0, .int 0, .int 0, .ref m_kept, .ref m_keptSize, .ref m_nIp, .ref m_nHeard, .ref m_nHard, .int 0, .int 0, .ref m_gIp, .ref m_gNumber, .ref m_gProtocol, .ref m_gTold, .ref m_gBegun, .ref m_gOrder, .ref m_gBytes, .ref m_gThere, .int 0, .int 0, .ref m_pTarget, .ref m_pBytes, .ref m_pLong, .ref m_pSize, .ref m_pSum, .int 0, .ref m_peer, .int 0, .int 0, .int 0, .int 0, .ref m_answer, .int 0, .int 0]))]) [0] (by decide) rfl
    have hK9 := hK.sub (tys' := []) [] rfl
    refine W.widen (k := 0) (n := 0) (Nat.le_of_ble_eq_true rfl) (Nat.le_of_ble_eq_true rfl) ?_
    exact W.iret (v := 0) hx hb hr (fun t ht hW => ⟨⟨_, (), rfl, rfl, by rw [ht]; exact hP9, va_K.moved hW.alike hK9, hD9⟩, hS.F ht⟩) hS.2.2 d_Mo_count_27
  · refine lv_iload_n hx hb d_Mo_count_5 rfl (lv_at hl 1 rfl) ?_
    refine lv_bipush (v := 7) hx hb d_Mo_count_6 (by decide) ?_
    refine lv_icmp_le (tgt := 15) hx hb d_Mo_count_8 (by decide) (fun hc2 => by exfalso; simp only [Int32.lt_iff_toInt_lt, Int32.le_iff_toInt_le, ← Int32.toInt_inj, ux_l0, ux_l7] at hc2 hc1; omega) (fun _ => ?_)
    refine lv_iconst (v := 1) hx hb d_Mo_count_11 (by decide) ?_
    refine lv_goto hx hb d_Mo_count_12 (tgt := 16) (by decide) ?_
    refine va_put (D := (dC, dI)) (ci := 12) (v := .int 1) (ty := .int) (C := R_Mo) (T := F_Mo) (N := 39) hx hb (u_Mo hT) (fun _ h => h) t_Mo k_Mo n_Mo hown hK hP hD hS 0 rfl rfl 4 (by decide) (ux_T_at hT tw_1598 rfl) (fun _ h9 => h9) rfl (by decide +kernel) rfl rfl (Nat.le_of_ble_eq_true rfl) d_Mo_count_16 (fun H locs hP hD hS => ?_)
    have hP : va_P (dC, dI) cls [(h0, .inr (12, [.ref m_row, .ref m_in, .ref m_out, .int 0, .int 1, .int 0, .int 0, .int 0, .ref m_kept, .ref m_keptSize, .ref m_nIp, .ref m_nHeard, .ref m_nHard, .int 0, .int 0, .ref m_gIp, .ref m_gNumber, .ref m_gProtocol, .ref m_gTold, .ref m_gBegun, .ref m_gOrder, .ref m_gBytes, .ref m_gThere, .int 0, .int 0, .ref m_pTarget, .ref m_pBytes, .ref m_pLong, .ref m_pSize, .ref m_pSum, .int 0, .ref m_peer, .int 0, .int 0, .int 0, .int 0, .ref m_answer, .int 0, .int 0]))] H := hP
    have hD : va_D A [(h0, .inr (12, [.ref m_row, .ref m_in, .ref m_out, .int 0, .int 1, .int 0, .int 0, .int 0, .ref m_kept, .ref m_keptSize, .ref m_nIp, .ref m_nHeard, .ref m_nHard, .int 0, .int 0, .ref m_gIp, .ref m_gNumber, .ref m_gProtocol, .ref m_gTold, .ref m_gBegun, .ref m_gOrder, .ref m_gBytes, .ref m_gThere, .int 0, .int 0, .ref m_pTarget, .ref m_pBytes, .ref m_pLong, .ref m_pSize, .ref m_pSum, .int 0, .ref m_peer, .int 0, .int 0, .int 0, .int 0, .ref m_answer, .int 0, .int 0]))] := hD
    refine lv_aload_n hx hb d_Mo_count_19 rfl (lv_at hl 0 rfl) ?_
    refine va_get (D := (dC, dI)) (ci := 12) (v := .int 1) (C := R_Mo) (T := F_Mo) (N := 39) hx hb (u_Mo hT) (fun _ h => h) hown hK hP 0 rfl rfl 4 (by decide) (ux_T_at hT tw_1598 rfl) (fun _ h9 => h9) rfl d_Mo_count_20 ?_
    refine lv_if_le (tgt := 28) hx hb d_Mo_count_23 (by decide) (fun hc => absurd hc (by decide)) (fun _ => ?_)
    refine lv_iconst (v := 0) hx hb d_Mo_count_26 (by decide) ?_
    have hP9 := hP.sub (ws' := [(h0, .inr (12, [.ref m_row, .ref m_in, .ref m_out, .int 0, .int 1, .int 0, .int 0, .int 0, .ref m_kept, .ref m_keptSize, .ref m_nIp, .ref m_nHeard, .ref m_nHard, .int 0, .int 0, .ref m_gIp, .ref m_gNumber, .ref m_gProtocol, .ref m_gTold, .ref m_gBegun, .ref m_gOrder, .ref m_gBytes, .ref m_gThere, .int 0, .int 0, .ref m_pTarget, .ref m_pBytes, .ref m_pLong, .ref m_pSize, .ref m_pSum, .int 0, .ref m_peer, .int 0, .int 0, .int 0, .int 0, .ref m_answer, .int 0, .int 0]))]) [0] rfl
    have hD9 := hD.sub (ws' := [(h0, .inr (12, [.ref m_row, .ref m_in, .ref m_out, .int 0, .int 1, .int 0, .int 0, .int 0, .ref m_kept, .ref m_keptSize, .ref m_nIp, .ref m_nHeard, .ref m_nHard, .int 0, .int 0, .ref m_gIp, .ref m_gNumber, .ref m_gProtocol, .ref m_gTold, .ref m_gBegun, .ref m_gOrder, .ref m_gBytes, .ref m_gThere, .int 0, .int 0, .ref m_pTarget, .ref m_pBytes, .ref m_pLong, .ref m_pSize, .ref m_pSum, .int 0, .ref m_peer, .int 0, .int 0, .int 0, .int 0, .ref m_answer, .int 0, .int 0]))]) [0] (by decide) rfl
    have hK9 := hK.sub (tys' := []) [] rfl
    refine W.widen (k := 0) (n := 0) (Nat.le_of_ble_eq_true rfl) (Nat.le_of_ble_eq_true rfl) ?_
    exact W.iret (v := 0) hx hb hr (fun t ht hW => ⟨⟨_, (), rfl, rfl, by rw [ht]; exact hP9, va_K.moved hW.alike hK9, hD9⟩, hS.F ht⟩) hS.2.2 d_Mo_count_27
set_option maxHeartbeats 4000000 in
set_option maxRecDepth 100000 in
theorem c_Mo_connection (l : Launch) (dC : Nat → ClassId) (dI : Nat → Nat → Nat) (h0 : Nat) (m_row : Nat) (m_in : Nat) (m_out : Nat) (m_kept : Nat) (m_keptSize : Nat) (m_nIp : Nat) (m_nHeard : Nat) (m_nHard : Nat) (m_gIp : Nat) (m_gNumber : Nat) (m_gProtocol : Nat) (m_gTold : Nat) (m_gBegun : Nat) (m_gOrder : Nat) (m_gBytes : Nat) (m_gThere : Nat) (m_pTarget : Nat) (m_pBytes : Nat) (m_pLong : Nat) (m_pSize : Nat) (m_pSum : Nat) (m_peer : Nat) (m_answer : Nat) (p0 : Int32) (p1 : Int32) (p2 : Int32) (sz : Nat) : Met l y_Mo_connection [Cond.code y_Mo_connection b_Mo_connection 6 (some .int)] ({ frames := 40, cells := 0, slots := 0, locals := 600 }) (ux_Pc [.ref h0, .int p0, .int p1, .int p2] (dC, dI) cls [(h0, .inr (12, [.ref m_row, .ref m_in, .ref m_out, .int 0, .int 0, .int 0, .int 0, .int 0, .ref m_kept, .ref m_keptSize, .ref m_nIp, .ref m_nHeard, .ref m_nHard, .int 0, .int 0, .ref m_gIp, .ref m_gNumber, .ref m_gProtocol, .ref m_gTold, .ref m_gBegun, .ref m_gOrder, .ref m_gBytes, .ref m_gThere, .int 0, .int 0, .ref m_pTarget, .ref m_pBytes, .ref m_pLong, .ref m_pSize, .ref m_pSum, .int 0, .ref m_peer, .int 0, .int 0, .int 0, .int 0, .ref m_answer, .int 0, .int 0]))] [] sz) (va_Qi (fun (r : Int32) (_ : Unit) => r = 0) (fun (_ : Unit) (t : State) => ux_B (dC, dI) cls (va_A [(h0, .inr (12, [.ref m_row, .ref m_in, .ref m_out, .int 0, .int 0, .int 0, .int 0, .int 0, .ref m_kept, .ref m_keptSize, .ref m_nIp, .ref m_nHeard, .ref m_nHard, .int 0, .int 0, .ref m_gIp, .ref m_gNumber, .ref m_gProtocol, .ref m_gTold, .ref m_gBegun, .ref m_gOrder, .ref m_gBytes, .ref m_gThere, .int 0, .int 0, .ref m_pTarget, .ref m_pBytes, .ref m_pLong, .ref m_pSize, .ref m_pSum, .int 0, .ref m_peer, .int 0, .int 0, .int 0, .int 0, .ref m_answer, .int 0, .int 0]))] sz) [(h0, .inr (12, [.ref m_row, .ref m_in, .ref m_out, .int 0, .int 1, .int 0, .int 0, .int 0, .ref m_kept, .ref m_keptSize, .ref m_nIp, .ref m_nHeard, .ref m_nHard, .int 0, .int 0, .ref m_gIp, .ref m_gNumber, .ref m_gProtocol, .ref m_gTold, .ref m_gBegun, .ref m_gOrder, .ref m_gBytes, .ref m_gThere, .int 0, .int 0, .ref m_pTarget, .ref m_pBytes, .ref m_pLong, .ref m_pSize, .ref m_pSum, .int 0, .ref m_peer, .int 0, .int 0, .int 0, .int 0, .ref m_answer, .int 0, .int 0]))] [] t) (va_A [(h0, .inr (12, [.ref m_row, .ref m_in, .ref m_out, .int 0, .int 0, .int 0, .int 0, .int 0, .ref m_kept, .ref m_keptSize, .ref m_nIp, .ref m_nHeard, .ref m_nHard, .int 0, .int 0, .ref m_gIp, .ref m_gNumber, .ref m_gProtocol, .ref m_gTold, .ref m_gBegun, .ref m_gOrder, .ref m_gBytes, .ref m_gThere, .int 0, .int 0, .ref m_pTarget, .ref m_pBytes, .ref m_pLong, .ref m_pSize, .ref m_pSum, .int 0, .ref m_peer, .int 0, .int 0, .int 0, .int 0, .ref m_answer, .int 0, .int 0]))] sz)) 0 0 (va_A [(h0, .inr (12, [.ref m_row, .ref m_in, .ref m_out, .int 0, .int 0, .int 0, .int 0, .int 0, .ref m_kept, .ref m_keptSize, .ref m_nIp, .ref m_nHeard, .ref m_nHard, .int 0, .int 0, .ref m_gIp, .ref m_gNumber, .ref m_gProtocol, .ref m_gTold, .ref m_gBegun, .ref m_gOrder, .ref m_gBytes, .ref m_gThere, .int 0, .int 0, .ref m_pTarget, .ref m_pBytes, .ref m_pLong, .ref m_pSize, .ref m_pSum, .int 0, .ref m_peer, .int 0, .int 0, .int 0, .int 0, .ref m_answer, .int 0, .int 0]))] sz) := by
  refine Met.ofW (cc := b_Mo_connection) (maxL := 6) (ret := some .int) (by decide) rfl ?_
  intro p e s m args below meth c s₁ B hml hv
  obtain ⟨rfl, hsz, hP, hK, hD0, hT⟩ := hv
  have hx := B.exec
  have hb := B.bytes
  have hr := B.returns
  have hown : s.vm.findClass "UnikernelHttpModel" = some m.cls := findClass_of_methodNamed B.named
  have hlocks := B.notSynchronized
  subst hsz
  have hD := hD0.self (sz := s.heap.size)
  have hns := ux_ns hP
  generalize hAe : va_A [(h0, .inr (12, [.ref m_row, .ref m_in, .ref m_out, .int 0, .int 0, .int 0, .int 0, .int 0, .ref m_kept, .ref m_keptSize, .ref m_nIp, .ref m_nHeard, .ref m_nHard, .int 0, .int 0, .ref m_gIp, .ref m_gNumber, .ref m_gProtocol, .ref m_gTold, .ref m_gBegun, .ref m_gOrder, .ref m_gBytes, .ref m_gThere, .int 0, .int 0, .ref m_pTarget, .ref m_pBytes, .ref m_pLong, .ref m_pSize, .ref m_pSum, .int 0, .ref m_peer, .int 0, .int 0, .int 0, .int 0, .ref m_answer, .int 0, .int 0]))] s.heap.size = A at hD hns ⊢
  have hA : ∀ q : Nat, s.heap.size ≤ q → A q := fun q h => by rw [← hAe]; exact Or.inr h
  have hS : va_S A s.heap s.heap [] := va_S.rf
  have hl := lv_entry ([.ref h0, .int p0, .int p1, .int p2]) (n := 6) (Nat.le_of_ble_eq_true rfl)
  rw [lg_entry_eq]
  generalize (lg_sl ([.ref h0, .int p0, .int p1, .int p2]) ++ List.replicate (6 - (lg_sl ([.ref h0, .int p0, .int p1, .int p2])).length) Slot.unset).toArray = ls at hl ⊢
  have hl : lv_has ls 6 [(0, .ref h0), (1, .int p0), (2, .int p1), (3, .int p2)] := hl
  have hfx : CallFix p m c b_Mo_connection 6 s ([.ref h0, .int p0, .int p1, .int p2] : List Value).toArray [] "UnikernelHttpModel" := ⟨hx, hb, hml, hown, fun _ h => by cases h⟩
  refine lv_aload_n hx hb d_Mo_connection_0 rfl (lv_at hl 0 rfl) ?_
  refine lv_iload_n hx hb d_Mo_connection_1 rfl (lv_at hl 1 rfl) ?_
  refine lv_iload_n hx hb d_Mo_connection_2 rfl (lv_at hl 2 rfl) ?_
  have hPc := hP.sub (ws' := [(h0, .inr (12, [.ref m_row, .ref m_in, .ref m_out, .int 0, .int 0, .int 0, .int 0, .int 0, .ref m_kept, .ref m_keptSize, .ref m_nIp, .ref m_nHeard, .ref m_nHard, .int 0, .int 0, .ref m_gIp, .ref m_gNumber, .ref m_gProtocol, .ref m_gTold, .ref m_gBegun, .ref m_gOrder, .ref m_gBytes, .ref m_gThere, .int 0, .int 0, .ref m_pTarget, .ref m_pBytes, .ref m_pLong, .ref m_pSize, .ref m_pSum, .int 0, .ref m_peer, .int 0, .int 0, .int 0, .int 0, .ref m_answer, .int 0, .int 0]))]) [0] rfl
  have hDc := hD.sub (ws' := [(h0, .inr (12, [.ref m_row, .ref m_in, .ref m_out, .int 0, .int 0, .int 0, .int 0, .int 0, .ref m_kept, .ref m_keptSize, .ref m_nIp, .ref m_nHeard, .ref m_nHard, .int 0, .int 0, .ref m_gIp, .ref m_gNumber, .ref m_gProtocol, .ref m_gTold, .ref m_gBegun, .ref m_gOrder, .ref m_gBytes, .ref m_gThere, .int 0, .int 0, .ref m_pTarget, .ref m_pBytes, .ref m_pLong, .ref m_pSize, .ref m_pSum, .int 0, .ref m_peer, .int 0, .int 0, .int 0, .int 0, .ref m_answer, .int 0, .int 0]))]) [0] (by decide) rfl
  have hKc := hK.sub (tys' := []) [] rfl
  have hFc := va_free (wc := [(h0, .inr (12, [.ref m_row, .ref m_in, .ref m_out, .int 0, .int 0, .int 0, .int 0, .int 0, .ref m_kept, .ref m_keptSize, .ref m_nIp, .ref m_nHeard, .ref m_nHard, .int 0, .int 0, .ref m_gIp, .ref m_gNumber, .ref m_gProtocol, .ref m_gTold, .ref m_gBegun, .ref m_gOrder, .ref m_gBytes, .ref m_gThere, .int 0, .int 0, .ref m_pTarget, .ref m_pBytes, .ref m_pLong, .ref m_pSize, .ref m_pSum, .int 0, .ref m_peer, .int 0, .int 0, .int 0, .int 0, .ref m_answer, .int 0, .int 0]))]) hD hS hA [0] rfl
  have hkc : 0 + 0 ≤ 0 := (Nat.le_of_ble_eq_true rfl)
  refine va_calli (va_runV (As := [.int p0, .int p1]) (rest := []) hfx (c_Mo_find l dC dI h0 m_row m_in m_out m_kept m_keptSize m_nIp m_nHeard m_nHard m_gIp m_gNumber m_gProtocol m_gTold m_gBegun m_gOrder m_gBytes m_gThere m_pTarget m_pBytes m_pLong m_pSize m_pSum m_peer m_answer p0 p1 s.heap.size) ⟨(ux_cb 2 hT tw_1813 tw_1810 tw_13 rfl rfl (by decide +kernel) ⟨(Nat.le_of_ble_eq_true rfl), (Nat.le_of_ble_eq_true rfl)⟩), (ux_T_at hT tw_1812 rfl), (ux_T_at hT (ux_tp (q := (⟨"UnikernelHttpModel", "find", "(II)I"⟩, 39)) (by decide +kernel)) rfl)⟩ (ux_preV (r := (R_Mo, F_Mo, 39)) (ci := 12) (q0 := 0) [.int p0, .int p1] hT hPc hKc hDc rfl rfl) rfl rfl hl.1 rfl (lv_room (Nat.le_of_ble_eq_true rfl)) d_Mo_connection_3 ⟨(Nat.le_of_ble_eq_true rfl), (Nat.le_of_ble_eq_true rfl)⟩) hS (fun q _ h => hFc q h) hFc (fun r1 u t H1 locs ht hvm hw hB hz1 hk1 hS => ?_)
  obtain ⟨hP1, hK1, hD1⟩ := hB
  rw [ht] at hP1
  have hK1 := va_K.moved hvm.symm hK1
  obtain ⟨hP, hD⟩ := va_join (wr := []) (w1 := [(h0, .inr (12, [.ref m_row, .ref m_in, .ref m_out, .int 0, .int 0, .int 0, .int 0, .int 0, .ref m_kept, .ref m_keptSize, .ref m_nIp, .ref m_nHeard, .ref m_nHard, .int 0, .int 0, .ref m_gIp, .ref m_gNumber, .ref m_gProtocol, .ref m_gTold, .ref m_gBegun, .ref m_gOrder, .ref m_gBytes, .ref m_gThere, .int 0, .int 0, .ref m_pTarget, .ref m_pBytes, .ref m_pLong, .ref m_pSize, .ref m_pSum, .int 0, .ref m_peer, .int 0, .int 0, .int 0, .int 0, .ref m_answer, .int 0, .int 0]))]) hP hD [0] [] rfl rfl (by decide) (by decide) hk1 hFc hP1 hD1
  have hK := (hK.sub (tys' := []) [] rfl).app hK1
  generalize H1 = H at hP hS ⊢
  have hP : va_P (dC, dI) cls [(h0, .inr (12, [.ref m_row, .ref m_in, .ref m_out, .int 0, .int 0, .int 0, .int 0, .int 0, .ref m_kept, .ref m_keptSize, .ref m_nIp, .ref m_nHeard, .ref m_nHard, .int 0, .int 0, .ref m_gIp, .ref m_gNumber, .ref m_gProtocol, .ref m_gTold, .ref m_gBegun, .ref m_gOrder, .ref m_gBytes, .ref m_gThere, .int 0, .int 0, .ref m_pTarget, .ref m_pBytes, .ref m_pLong, .ref m_pSize, .ref m_pSum, .int 0, .ref m_peer, .int 0, .int 0, .int 0, .int 0, .ref m_answer, .int 0, .int 0]))] H := hP
  have hD : va_D A [(h0, .inr (12, [.ref m_row, .ref m_in, .ref m_out, .int 0, .int 0, .int 0, .int 0, .int 0, .ref m_kept, .ref m_keptSize, .ref m_nIp, .ref m_nHeard, .ref m_nHard, .int 0, .int 0, .ref m_gIp, .ref m_gNumber, .ref m_gProtocol, .ref m_gTold, .ref m_gBegun, .ref m_gOrder, .ref m_gBytes, .ref m_gThere, .int 0, .int 0, .ref m_pTarget, .ref m_pBytes, .ref m_pLong, .ref m_pSize, .ref m_pSum, .int 0, .ref m_peer, .int 0, .int 0, .int 0, .int 0, .ref m_answer, .int 0, .int 0]))] := hD
  have hK : va_K (dC, dI) cls [] s := hK
  obtain rfl : r1 = (-1) := hw
  refine lv_istore hx hb d_Mo_connection_6 hl (by decide) rfl (fun ls hl => ?_)
  have hl : lv_has ls 6 [(4, .int (-1)), (0, .ref h0), (1, .int p0), (2, .int p1), (3, .int p2)] := hl
  refine lv_aload_n hx hb d_Mo_connection_8 rfl (lv_at hl 1 rfl) ?_
  refine lv_iload hx hb d_Mo_connection_9 (lv_at hl 0 rfl) ?_
  refine lv_if_ge (tgt := 18) hx hb d_Mo_connection_11 (by decide) (fun hc => absurd hc (by decide)) (fun _ => ?_)
  refine lv_iconst (v := 1) hx hb d_Mo_connection_14 (by decide) ?_
  refine lv_goto hx hb d_Mo_connection_15 (tgt := 33) (by decide) ?_
  refine va_put (D := (dC, dI)) (ci := 12) (v := .int 1) (ty := .int) (C := R_Mo) (T := F_Mo) (N := 39) hx hb (u_Mo hT) (fun _ h => h) t_Mo k_Mo n_Mo hown hK hP hD hS 0 rfl rfl 4 (by decide) (ux_T_at hT tw_1598 rfl) (fun _ h9 => h9) rfl (by decide +kernel) rfl rfl (Nat.le_of_ble_eq_true rfl) d_Mo_connection_33 (fun H locs hP hD hS => ?_)
  have hP : va_P (dC, dI) cls [(h0, .inr (12, [.ref m_row, .ref m_in, .ref m_out, .int 0, .int 1, .int 0, .int 0, .int 0, .ref m_kept, .ref m_keptSize, .ref m_nIp, .ref m_nHeard, .ref m_nHard, .int 0, .int 0, .ref m_gIp, .ref m_gNumber, .ref m_gProtocol, .ref m_gTold, .ref m_gBegun, .ref m_gOrder, .ref m_gBytes, .ref m_gThere, .int 0, .int 0, .ref m_pTarget, .ref m_pBytes, .ref m_pLong, .ref m_pSize, .ref m_pSum, .int 0, .ref m_peer, .int 0, .int 0, .int 0, .int 0, .ref m_answer, .int 0, .int 0]))] H := hP
  have hD : va_D A [(h0, .inr (12, [.ref m_row, .ref m_in, .ref m_out, .int 0, .int 1, .int 0, .int 0, .int 0, .ref m_kept, .ref m_keptSize, .ref m_nIp, .ref m_nHeard, .ref m_nHard, .int 0, .int 0, .ref m_gIp, .ref m_gNumber, .ref m_gProtocol, .ref m_gTold, .ref m_gBegun, .ref m_gOrder, .ref m_gBytes, .ref m_gThere, .int 0, .int 0, .ref m_pTarget, .ref m_pBytes, .ref m_pLong, .ref m_pSize, .ref m_pSum, .int 0, .ref m_peer, .int 0, .int 0, .int 0, .int 0, .ref m_answer, .int 0, .int 0]))] := hD
  refine lv_aload_n hx hb d_Mo_connection_36 rfl (lv_at hl 1 rfl) ?_
  refine va_get (D := (dC, dI)) (ci := 12) (v := .int 1) (C := R_Mo) (T := F_Mo) (N := 39) hx hb (u_Mo hT) (fun _ h => h) hown hK hP 0 rfl rfl 4 (by decide) (ux_T_at hT tw_1598 rfl) (fun _ h9 => h9) rfl d_Mo_connection_37 ?_
  refine lv_if_le (tgt := 45) hx hb d_Mo_connection_40 (by decide) (fun hc => absurd hc (by decide)) (fun _ => ?_)
  refine lv_iconst (v := 0) hx hb d_Mo_connection_43 (by decide) ?_
  have hP9 := hP.sub (ws' := [(h0, .inr (12, [.ref m_row, .ref m_in, .ref m_out, .int 0, .int 1, .int 0, .int 0, .int 0, .ref m_kept, .ref m_keptSize, .ref m_nIp, .ref m_nHeard, .ref m_nHard, .int 0, .int 0, .ref m_gIp, .ref m_gNumber, .ref m_gProtocol, .ref m_gTold, .ref m_gBegun, .ref m_gOrder, .ref m_gBytes, .ref m_gThere, .int 0, .int 0, .ref m_pTarget, .ref m_pBytes, .ref m_pLong, .ref m_pSize, .ref m_pSum, .int 0, .ref m_peer, .int 0, .int 0, .int 0, .int 0, .ref m_answer, .int 0, .int 0]))]) [0] rfl
  have hD9 := hD.sub (ws' := [(h0, .inr (12, [.ref m_row, .ref m_in, .ref m_out, .int 0, .int 1, .int 0, .int 0, .int 0, .ref m_kept, .ref m_keptSize, .ref m_nIp, .ref m_nHeard, .ref m_nHard, .int 0, .int 0, .ref m_gIp, .ref m_gNumber, .ref m_gProtocol, .ref m_gTold, .ref m_gBegun, .ref m_gOrder, .ref m_gBytes, .ref m_gThere, .int 0, .int 0, .ref m_pTarget, .ref m_pBytes, .ref m_pLong, .ref m_pSize, .ref m_pSum, .int 0, .ref m_peer, .int 0, .int 0, .int 0, .int 0, .ref m_answer, .int 0, .int 0]))]) [0] (by decide) rfl
  have hK9 := hK.sub (tys' := []) [] rfl
  refine W.widen (k := 0) (n := 0) (Nat.le_of_ble_eq_true rfl) (Nat.le_of_ble_eq_true rfl) ?_
  exact W.iret (v := 0) hx hb hr (fun t ht hW => ⟨⟨_, (), rfl, rfl, by rw [ht]; exact hP9, va_K.moved hW.alike hK9, hD9⟩, hS.F ht⟩) hS.2.2 d_Mo_connection_44
