/-! Which words the rows behind use, by their places. -/
theorem tw_490 : (Jvm.Cond.methodLink "UnikernelHttpLaw" (7 : Nat) ({ cls := "UnikernelHttp", name := "feed", desc := "(IIIII)I" } : Jvm.MethodName)) ∈ lw_tbl := ux_in 10 ux_t3 rfl
theorem tw_491 : (Jvm.Cond.instanceMethod ({ cls := "UnikernelHttp", name := "feed", desc := "(IIIII)I" } : Jvm.MethodName)) ∈ lw_tbl := ux_in 11 ux_t3 rfl
theorem tw_492 : (Jvm.Cond.selects "UnikernelHttp" ({ cls := "UnikernelHttp", name := "feed", desc := "(IIIII)I" } : Jvm.MethodName) ({ cls := "UnikernelHttp", name := "feed", desc := "(IIIII)I" } : Jvm.MethodName)) ∈ lw_tbl := ux_in 12 ux_t3 rfl
theorem tw_493 : (Jvm.Cond.code ({ cls := "UnikernelHttp", name := "feed", desc := "(IIIII)I" } : Jvm.MethodName) prog_1_method_2_code (6 : Nat) (Option.some Jvm.ClassFile.FieldType.int)) ∈ lw_tbl := ux_in 13 ux_t3 rfl
theorem tw_566 : (Jvm.Cond.classLink "UnikernelHttpLaw" (19 : Nat) "java/lang/IllegalArgumentException") ∈ lw_tbl := ux_in 86 ux_t3 rfl
theorem tw_567 : (Jvm.Cond.methodLink "UnikernelHttpLaw" (15 : Nat) ({ cls := "UnikernelHttp", name := "cut", desc := "(I)I" } : Jvm.MethodName)) ∈ lw_tbl := ux_in 87 ux_t3 rfl
theorem tw_568 : (Jvm.Cond.instanceMethod ({ cls := "UnikernelHttp", name := "cut", desc := "(I)I" } : Jvm.MethodName)) ∈ lw_tbl := ux_in 88 ux_t3 rfl
theorem tw_569 : (Jvm.Cond.selects "UnikernelHttp" ({ cls := "UnikernelHttp", name := "cut", desc := "(I)I" } : Jvm.MethodName) ({ cls := "UnikernelHttp", name := "cut", desc := "(I)I" } : Jvm.MethodName)) ∈ lw_tbl := ux_in 89 ux_t3 rfl
theorem tw_570 : (Jvm.Cond.code ({ cls := "UnikernelHttp", name := "cut", desc := "(I)I" } : Jvm.MethodName) prog_1_method_3_code (2 : Nat) (Option.some Jvm.ClassFile.FieldType.int)) ∈ lw_tbl := ux_in 90 ux_t3 rfl
theorem tw_589 : (Jvm.Cond.methodLink "UnikernelHttpLaw" (21 : Nat) ({ cls := "UnikernelHttp", name := "arrive", desc := "()I" } : Jvm.MethodName)) ∈ lw_tbl := ux_in 109 ux_t3 rfl
theorem tw_590 : (Jvm.Cond.instanceMethod ({ cls := "UnikernelHttp", name := "arrive", desc := "()I" } : Jvm.MethodName)) ∈ lw_tbl := ux_in 110 ux_t3 rfl
theorem tw_591 : (Jvm.Cond.selects "UnikernelHttp" ({ cls := "UnikernelHttp", name := "arrive", desc := "()I" } : Jvm.MethodName) ({ cls := "UnikernelHttp", name := "arrive", desc := "()I" } : Jvm.MethodName)) ∈ lw_tbl := ux_in 111 ux_t3 rfl
theorem tw_592 : (Jvm.Cond.code ({ cls := "UnikernelHttp", name := "arrive", desc := "()I" } : Jvm.MethodName) prog_1_method_4_code (5 : Nat) (Option.some Jvm.ClassFile.FieldType.int)) ∈ lw_tbl := ux_in 112 ux_t3 rfl
theorem tw_1343 : (Jvm.Cond.methodLink "UnikernelHttpLaw" (25 : Nat) ({ cls := "UnikernelHttp", name := "page", desc := "(I)I" } : Jvm.MethodName)) ∈ lw_tbl := ux_in 143 ux_t6 rfl
theorem tw_1344 : (Jvm.Cond.instanceMethod ({ cls := "UnikernelHttp", name := "page", desc := "(I)I" } : Jvm.MethodName)) ∈ lw_tbl := ux_in 144 ux_t6 rfl
theorem tw_1345 : (Jvm.Cond.selects "UnikernelHttp" ({ cls := "UnikernelHttp", name := "page", desc := "(I)I" } : Jvm.MethodName) ({ cls := "UnikernelHttp", name := "page", desc := "(I)I" } : Jvm.MethodName)) ∈ lw_tbl := ux_in 145 ux_t6 rfl
theorem tw_1346 : (Jvm.Cond.code ({ cls := "UnikernelHttp", name := "page", desc := "(I)I" } : Jvm.MethodName) prog_1_method_5_code (3 : Nat) (Option.some Jvm.ClassFile.FieldType.int)) ∈ lw_tbl := ux_in 146 ux_t6 rfl
theorem tw_1360 : (Jvm.Cond.classLink "UnikernelHttpLaw" (32 : Nat) "java/lang/IndexOutOfBoundsException") ∈ lw_tbl := ux_in 160 ux_t6 rfl
theorem tw_1361 : (Jvm.Cond.methodLink "UnikernelHttpLaw" (28 : Nat) ({ cls := "UnikernelHttp", name := "damage", desc := "(III)I" } : Jvm.MethodName)) ∈ lw_tbl := ux_in 161 ux_t6 rfl
theorem tw_1362 : (Jvm.Cond.instanceMethod ({ cls := "UnikernelHttp", name := "damage", desc := "(III)I" } : Jvm.MethodName)) ∈ lw_tbl := ux_in 162 ux_t6 rfl
theorem tw_1363 : (Jvm.Cond.selects "UnikernelHttp" ({ cls := "UnikernelHttp", name := "damage", desc := "(III)I" } : Jvm.MethodName) ({ cls := "UnikernelHttp", name := "damage", desc := "(III)I" } : Jvm.MethodName)) ∈ lw_tbl := ux_in 163 ux_t6 rfl
theorem tw_1364 : (Jvm.Cond.code ({ cls := "UnikernelHttp", name := "damage", desc := "(III)I" } : Jvm.MethodName) prog_1_method_6_code (5 : Nat) (Option.some Jvm.ClassFile.FieldType.int)) ∈ lw_tbl := ux_in 164 ux_t6 rfl
theorem tw_1383 : (Jvm.Cond.methodLink "UnikernelHttpLaw" (34 : Nat) ({ cls := "UnikernelHttp", name := "tick", desc := "(I)I" } : Jvm.MethodName)) ∈ lw_tbl := ux_in 183 ux_t6 rfl
theorem tw_1384 : (Jvm.Cond.instanceMethod ({ cls := "UnikernelHttp", name := "tick", desc := "(I)I" } : Jvm.MethodName)) ∈ lw_tbl := ux_in 184 ux_t6 rfl
theorem tw_1385 : (Jvm.Cond.selects "UnikernelHttp" ({ cls := "UnikernelHttp", name := "tick", desc := "(I)I" } : Jvm.MethodName) ({ cls := "UnikernelHttp", name := "tick", desc := "(I)I" } : Jvm.MethodName)) ∈ lw_tbl := ux_in 185 ux_t6 rfl
theorem tw_1386 : (Jvm.Cond.code ({ cls := "UnikernelHttp", name := "tick", desc := "(I)I" } : Jvm.MethodName) prog_1_method_7_code (9 : Nat) (Option.some Jvm.ClassFile.FieldType.int)) ∈ lw_tbl := ux_in 186 ux_t6 rfl
theorem tw_1427 : (Jvm.Cond.methodLink "UnikernelHttpLaw" (37 : Nat) ({ cls := "UnikernelHttp", name := "size", desc := "(I)I" } : Jvm.MethodName)) ∈ lw_tbl := ux_in 227 ux_t6 rfl
theorem tw_1428 : (Jvm.Cond.instanceMethod ({ cls := "UnikernelHttp", name := "size", desc := "(I)I" } : Jvm.MethodName)) ∈ lw_tbl := ux_in 228 ux_t6 rfl
theorem tw_1429 : (Jvm.Cond.selects "UnikernelHttp" ({ cls := "UnikernelHttp", name := "size", desc := "(I)I" } : Jvm.MethodName) ({ cls := "UnikernelHttp", name := "size", desc := "(I)I" } : Jvm.MethodName)) ∈ lw_tbl := ux_in 229 ux_t6 rfl
theorem tw_1430 : (Jvm.Cond.code ({ cls := "UnikernelHttp", name := "size", desc := "(I)I" } : Jvm.MethodName) prog_1_method_8_code (2 : Nat) (Option.some Jvm.ClassFile.FieldType.int)) ∈ lw_tbl := ux_in 230 ux_t6 rfl
theorem tw_1439 : (Jvm.Cond.methodLink "UnikernelHttpLaw" (40 : Nat) ({ cls := "UnikernelHttp", name := "bytes", desc := "(II)J" } : Jvm.MethodName)) ∈ lw_tbl := ux_in 239 ux_t6 rfl
theorem tw_1440 : (Jvm.Cond.instanceMethod ({ cls := "UnikernelHttp", name := "bytes", desc := "(II)J" } : Jvm.MethodName)) ∈ lw_tbl := ux_in 0 ux_t7 rfl
theorem tw_1441 : (Jvm.Cond.selects "UnikernelHttp" ({ cls := "UnikernelHttp", name := "bytes", desc := "(II)J" } : Jvm.MethodName) ({ cls := "UnikernelHttp", name := "bytes", desc := "(II)J" } : Jvm.MethodName)) ∈ lw_tbl := ux_in 1 ux_t7 rfl
theorem tw_1442 : (Jvm.Cond.code ({ cls := "UnikernelHttp", name := "bytes", desc := "(II)J" } : Jvm.MethodName) prog_1_method_9_code (3 : Nat) (Option.some Jvm.ClassFile.FieldType.long)) ∈ lw_tbl := ux_in 2 ux_t7 rfl
theorem tw_1451 : (Jvm.Cond.methodLink "UnikernelHttpLaw" (44 : Nat) ({ cls := "UnikernelHttp", name := "count", desc := "(I)I" } : Jvm.MethodName)) ∈ lw_tbl := ux_in 11 ux_t7 rfl
theorem tw_1452 : (Jvm.Cond.instanceMethod ({ cls := "UnikernelHttp", name := "count", desc := "(I)I" } : Jvm.MethodName)) ∈ lw_tbl := ux_in 12 ux_t7 rfl
theorem tw_1453 : (Jvm.Cond.selects "UnikernelHttp" ({ cls := "UnikernelHttp", name := "count", desc := "(I)I" } : Jvm.MethodName) ({ cls := "UnikernelHttp", name := "count", desc := "(I)I" } : Jvm.MethodName)) ∈ lw_tbl := ux_in 13 ux_t7 rfl
theorem tw_1454 : (Jvm.Cond.code ({ cls := "UnikernelHttp", name := "count", desc := "(I)I" } : Jvm.MethodName) prog_1_method_10_code (2 : Nat) (Option.some Jvm.ClassFile.FieldType.int)) ∈ lw_tbl := ux_in 14 ux_t7 rfl
theorem tw_1458 : (Jvm.Cond.classLink "UnikernelHttpLaw" (50 : Nat) "java/util/NoSuchElementException") ∈ lw_tbl := ux_in 18 ux_t7 rfl
theorem tw_1459 : (Jvm.Cond.methodLink "UnikernelHttpLaw" (47 : Nat) ({ cls := "UnikernelHttp", name := "connection", desc := "(III)I" } : Jvm.MethodName)) ∈ lw_tbl := ux_in 19 ux_t7 rfl
theorem tw_1460 : (Jvm.Cond.instanceMethod ({ cls := "UnikernelHttp", name := "connection", desc := "(III)I" } : Jvm.MethodName)) ∈ lw_tbl := ux_in 20 ux_t7 rfl
theorem tw_1461 : (Jvm.Cond.selects "UnikernelHttp" ({ cls := "UnikernelHttp", name := "connection", desc := "(III)I" } : Jvm.MethodName) ({ cls := "UnikernelHttp", name := "connection", desc := "(III)I" } : Jvm.MethodName)) ∈ lw_tbl := ux_in 21 ux_t7 rfl
theorem tw_1462 : (Jvm.Cond.code ({ cls := "UnikernelHttp", name := "connection", desc := "(III)I" } : Jvm.MethodName) prog_1_method_11_code (5 : Nat) (Option.some Jvm.ClassFile.FieldType.int)) ∈ lw_tbl := ux_in 22 ux_t7 rfl
abbrev b_La_feed : ByteArray := method_3_code
abbrev y_La_feed : MethodName := ⟨"UnikernelHttpLaw", "feed", "(LUnikernelHttp;IIIII[J)I"⟩
theorem d_La_feed_0 : decode b_La_feed 0 = .ok (.aload 6, 2) := by decide +kernel
theorem d_La_feed_2 : decode b_La_feed 2 = .ok (.iconst 0, 1) := by decide +kernel
theorem d_La_feed_3 : decode b_La_feed 3 = .ok (.aload_n 0, 1) := by decide +kernel
theorem d_La_feed_4 : decode b_La_feed 4 = .ok (.iload_n 1, 1) := by decide +kernel
theorem d_La_feed_5 : decode b_La_feed 5 = .ok (.iload_n 2, 1) := by decide +kernel
theorem d_La_feed_6 : decode b_La_feed 6 = .ok (.iload_n 3, 1) := by decide +kernel
theorem d_La_feed_7 : decode b_La_feed 7 = .ok (.iload 4, 2) := by decide +kernel
theorem d_La_feed_9 : decode b_La_feed 9 = .ok (.iload 5, 2) := by decide +kernel
theorem d_La_feed_11 : decode b_La_feed 11 = .ok (.invokevirtual 7, 3) := by decide +kernel
theorem d_La_feed_14 : decode b_La_feed 14 = .ok (.i2l, 1) := by decide +kernel
theorem d_La_feed_15 : decode b_La_feed 15 = .ok (.lastore, 1) := by decide +kernel
theorem d_La_feed_16 : decode b_La_feed 16 = .ok (.goto 7, 3) := by decide +kernel
theorem d_La_feed_23 : decode b_La_feed 23 = .ok (.iconst 0, 1) := by decide +kernel
theorem d_La_feed_24 : decode b_La_feed 24 = .ok (.ireturn, 1) := by decide +kernel
abbrev b_La_cut : ByteArray := method_4_code
abbrev y_La_cut : MethodName := ⟨"UnikernelHttpLaw", "cut", "(LUnikernelHttp;I[J)I"⟩
theorem d_La_cut_0 : decode b_La_cut 0 = .ok (.aload_n 2, 1) := by decide +kernel
theorem d_La_cut_1 : decode b_La_cut 1 = .ok (.iconst 0, 1) := by decide +kernel
theorem d_La_cut_2 : decode b_La_cut 2 = .ok (.aload_n 0, 1) := by decide +kernel
theorem d_La_cut_3 : decode b_La_cut 3 = .ok (.iload_n 1, 1) := by decide +kernel
theorem d_La_cut_4 : decode b_La_cut 4 = .ok (.invokevirtual 15, 3) := by decide +kernel
theorem d_La_cut_7 : decode b_La_cut 7 = .ok (.i2l, 1) := by decide +kernel
theorem d_La_cut_8 : decode b_La_cut 8 = .ok (.lastore, 1) := by decide +kernel
theorem d_La_cut_9 : decode b_La_cut 9 = .ok (.goto 6, 3) := by decide +kernel
theorem d_La_cut_12 : decode b_La_cut 12 = .ok (.astore_n 3, 1) := by decide +kernel
theorem d_La_cut_13 : decode b_La_cut 13 = .ok (.iconst 1, 1) := by decide +kernel
theorem d_La_cut_14 : decode b_La_cut 14 = .ok (.ireturn, 1) := by decide +kernel
theorem d_La_cut_15 : decode b_La_cut 15 = .ok (.iconst 0, 1) := by decide +kernel
theorem d_La_cut_16 : decode b_La_cut 16 = .ok (.ireturn, 1) := by decide +kernel
abbrev b_La_arrive : ByteArray := method_5_code
abbrev y_La_arrive : MethodName := ⟨"UnikernelHttpLaw", "arrive", "(LUnikernelHttp;[J)I"⟩
theorem d_La_arrive_0 : decode b_La_arrive 0 = .ok (.aload_n 1, 1) := by decide +kernel
theorem d_La_arrive_1 : decode b_La_arrive 1 = .ok (.iconst 0, 1) := by decide +kernel
theorem d_La_arrive_2 : decode b_La_arrive 2 = .ok (.aload_n 0, 1) := by decide +kernel
theorem d_La_arrive_3 : decode b_La_arrive 3 = .ok (.invokevirtual 21, 3) := by decide +kernel
theorem d_La_arrive_6 : decode b_La_arrive 6 = .ok (.i2l, 1) := by decide +kernel
theorem d_La_arrive_7 : decode b_La_arrive 7 = .ok (.lastore, 1) := by decide +kernel
theorem d_La_arrive_8 : decode b_La_arrive 8 = .ok (.goto 6, 3) := by decide +kernel
theorem d_La_arrive_14 : decode b_La_arrive 14 = .ok (.iconst 0, 1) := by decide +kernel
theorem d_La_arrive_15 : decode b_La_arrive 15 = .ok (.ireturn, 1) := by decide +kernel
abbrev b_La_page : ByteArray := method_6_code
abbrev y_La_page : MethodName := ⟨"UnikernelHttpLaw", "page", "(LUnikernelHttp;I[J)I"⟩
theorem d_La_page_0 : decode b_La_page 0 = .ok (.aload_n 2, 1) := by decide +kernel
theorem d_La_page_1 : decode b_La_page 1 = .ok (.iconst 0, 1) := by decide +kernel
theorem d_La_page_2 : decode b_La_page 2 = .ok (.aload_n 0, 1) := by decide +kernel
theorem d_La_page_3 : decode b_La_page 3 = .ok (.iload_n 1, 1) := by decide +kernel
theorem d_La_page_4 : decode b_La_page 4 = .ok (.invokevirtual 25, 3) := by decide +kernel
theorem d_La_page_12 : decode b_La_page 12 = .ok (.astore_n 3, 1) := by decide +kernel
theorem d_La_page_13 : decode b_La_page 13 = .ok (.iconst 1, 1) := by decide +kernel
theorem d_La_page_14 : decode b_La_page 14 = .ok (.ireturn, 1) := by decide +kernel
abbrev b_La_damage : ByteArray := method_7_code
abbrev y_La_damage : MethodName := ⟨"UnikernelHttpLaw", "damage", "(LUnikernelHttp;III[J)I"⟩
theorem d_La_damage_0 : decode b_La_damage 0 = .ok (.aload 4, 2) := by decide +kernel
theorem d_La_damage_2 : decode b_La_damage 2 = .ok (.iconst 0, 1) := by decide +kernel
theorem d_La_damage_3 : decode b_La_damage 3 = .ok (.aload_n 0, 1) := by decide +kernel
theorem d_La_damage_4 : decode b_La_damage 4 = .ok (.iload_n 1, 1) := by decide +kernel
theorem d_La_damage_5 : decode b_La_damage 5 = .ok (.iload_n 2, 1) := by decide +kernel
theorem d_La_damage_6 : decode b_La_damage 6 = .ok (.iload_n 3, 1) := by decide +kernel
theorem d_La_damage_7 : decode b_La_damage 7 = .ok (.invokevirtual 28, 3) := by decide +kernel
theorem d_La_damage_15 : decode b_La_damage 15 = .ok (.astore 5, 2) := by decide +kernel
theorem d_La_damage_17 : decode b_La_damage 17 = .ok (.iconst 1, 1) := by decide +kernel
theorem d_La_damage_18 : decode b_La_damage 18 = .ok (.ireturn, 1) := by decide +kernel
abbrev b_La_tick : ByteArray := method_8_code
abbrev y_La_tick : MethodName := ⟨"UnikernelHttpLaw", "tick", "(LUnikernelHttp;I[J)I"⟩
theorem d_La_tick_0 : decode b_La_tick 0 = .ok (.aload_n 2, 1) := by decide +kernel
theorem d_La_tick_1 : decode b_La_tick 1 = .ok (.iconst 0, 1) := by decide +kernel
theorem d_La_tick_2 : decode b_La_tick 2 = .ok (.aload_n 0, 1) := by decide +kernel
theorem d_La_tick_3 : decode b_La_tick 3 = .ok (.iload_n 1, 1) := by decide +kernel
theorem d_La_tick_4 : decode b_La_tick 4 = .ok (.invokevirtual 34, 3) := by decide +kernel
theorem d_La_tick_7 : decode b_La_tick 7 = .ok (.i2l, 1) := by decide +kernel
theorem d_La_tick_8 : decode b_La_tick 8 = .ok (.lastore, 1) := by decide +kernel
theorem d_La_tick_9 : decode b_La_tick 9 = .ok (.goto 6, 3) := by decide +kernel
theorem d_La_tick_12 : decode b_La_tick 12 = .ok (.astore_n 3, 1) := by decide +kernel
theorem d_La_tick_13 : decode b_La_tick 13 = .ok (.iconst 1, 1) := by decide +kernel
theorem d_La_tick_14 : decode b_La_tick 14 = .ok (.ireturn, 1) := by decide +kernel
theorem d_La_tick_15 : decode b_La_tick 15 = .ok (.iconst 0, 1) := by decide +kernel
theorem d_La_tick_16 : decode b_La_tick 16 = .ok (.ireturn, 1) := by decide +kernel
abbrev b_La_size : ByteArray := method_9_code
abbrev y_La_size : MethodName := ⟨"UnikernelHttpLaw", "size", "(LUnikernelHttp;I[J)I"⟩
theorem d_La_size_0 : decode b_La_size 0 = .ok (.aload_n 2, 1) := by decide +kernel
theorem d_La_size_1 : decode b_La_size 1 = .ok (.iconst 0, 1) := by decide +kernel
theorem d_La_size_2 : decode b_La_size 2 = .ok (.aload_n 0, 1) := by decide +kernel
theorem d_La_size_3 : decode b_La_size 3 = .ok (.iload_n 1, 1) := by decide +kernel
theorem d_La_size_4 : decode b_La_size 4 = .ok (.invokevirtual 37, 3) := by decide +kernel
theorem d_La_size_12 : decode b_La_size 12 = .ok (.astore_n 3, 1) := by decide +kernel
theorem d_La_size_13 : decode b_La_size 13 = .ok (.iconst 1, 1) := by decide +kernel
theorem d_La_size_14 : decode b_La_size 14 = .ok (.ireturn, 1) := by decide +kernel
abbrev b_La_bytes : ByteArray := method_10_code
abbrev y_La_bytes : MethodName := ⟨"UnikernelHttpLaw", "bytes", "(LUnikernelHttp;II[J)I"⟩
theorem d_La_bytes_0 : decode b_La_bytes 0 = .ok (.aload_n 3, 1) := by decide +kernel
theorem d_La_bytes_1 : decode b_La_bytes 1 = .ok (.iconst 0, 1) := by decide +kernel
theorem d_La_bytes_2 : decode b_La_bytes 2 = .ok (.aload_n 0, 1) := by decide +kernel
theorem d_La_bytes_3 : decode b_La_bytes 3 = .ok (.iload_n 1, 1) := by decide +kernel
theorem d_La_bytes_4 : decode b_La_bytes 4 = .ok (.iload_n 2, 1) := by decide +kernel
theorem d_La_bytes_5 : decode b_La_bytes 5 = .ok (.invokevirtual 40, 3) := by decide +kernel
theorem d_La_bytes_12 : decode b_La_bytes 12 = .ok (.astore 4, 2) := by decide +kernel
theorem d_La_bytes_14 : decode b_La_bytes 14 = .ok (.iconst 1, 1) := by decide +kernel
theorem d_La_bytes_15 : decode b_La_bytes 15 = .ok (.ireturn, 1) := by decide +kernel
abbrev b_La_count : ByteArray := method_11_code
abbrev y_La_count : MethodName := ⟨"UnikernelHttpLaw", "count", "(LUnikernelHttp;I[J)I"⟩
theorem d_La_count_0 : decode b_La_count 0 = .ok (.aload_n 2, 1) := by decide +kernel
theorem d_La_count_1 : decode b_La_count 1 = .ok (.iconst 0, 1) := by decide +kernel
theorem d_La_count_2 : decode b_La_count 2 = .ok (.aload_n 0, 1) := by decide +kernel
theorem d_La_count_3 : decode b_La_count 3 = .ok (.iload_n 1, 1) := by decide +kernel
theorem d_La_count_4 : decode b_La_count 4 = .ok (.invokevirtual 44, 3) := by decide +kernel
theorem d_La_count_7 : decode b_La_count 7 = .ok (.i2l, 1) := by decide +kernel
theorem d_La_count_8 : decode b_La_count 8 = .ok (.lastore, 1) := by decide +kernel
theorem d_La_count_9 : decode b_La_count 9 = .ok (.goto 6, 3) := by decide +kernel
theorem d_La_count_12 : decode b_La_count 12 = .ok (.astore_n 3, 1) := by decide +kernel
theorem d_La_count_13 : decode b_La_count 13 = .ok (.iconst 1, 1) := by decide +kernel
theorem d_La_count_14 : decode b_La_count 14 = .ok (.ireturn, 1) := by decide +kernel
theorem d_La_count_15 : decode b_La_count 15 = .ok (.iconst 0, 1) := by decide +kernel
theorem d_La_count_16 : decode b_La_count 16 = .ok (.ireturn, 1) := by decide +kernel
abbrev b_La_connection : ByteArray := method_12_code
abbrev y_La_connection : MethodName := ⟨"UnikernelHttpLaw", "connection", "(LUnikernelHttp;III[J)I"⟩
theorem d_La_connection_0 : decode b_La_connection 0 = .ok (.aload 4, 2) := by decide +kernel
theorem d_La_connection_2 : decode b_La_connection 2 = .ok (.iconst 0, 1) := by decide +kernel
theorem d_La_connection_3 : decode b_La_connection 3 = .ok (.aload_n 0, 1) := by decide +kernel
theorem d_La_connection_4 : decode b_La_connection 4 = .ok (.iload_n 1, 1) := by decide +kernel
theorem d_La_connection_5 : decode b_La_connection 5 = .ok (.iload_n 2, 1) := by decide +kernel
theorem d_La_connection_6 : decode b_La_connection 6 = .ok (.iload_n 3, 1) := by decide +kernel
theorem d_La_connection_7 : decode b_La_connection 7 = .ok (.invokevirtual 47, 3) := by decide +kernel
theorem d_La_connection_15 : decode b_La_connection 15 = .ok (.astore 5, 2) := by decide +kernel
theorem d_La_connection_17 : decode b_La_connection 17 = .ok (.iconst 1, 1) := by decide +kernel
theorem d_La_connection_18 : decode b_La_connection 18 = .ok (.ireturn, 1) := by decide +kernel
set_option maxHeartbeats 4000000 in
set_option maxRecDepth 100000 in
theorem c_La_feed (l : Launch) (dC : Nat → ClassId) (dI : Nat → Nat → Nat) (h0 : Nat) (out : Nat) (row : Nat) (nb : Nat) (wi : Nat) (ga : Nat) (sg : Nat) (tc : Nat) (st : Nat) (hp : Nat) (ec : Nat) (cB : ClassId) (cJ : ClassId) (p0 : Int32) (p1 : Int32) (p2 : Int32) (p3 : Int32) (p4 : Int32) (sz : Nat) : Met l y_La_feed [Cond.codeWith y_La_feed b_La_feed 8 (some .int) [(0, 16, 19, 13)]] ({ frames := 120, cells := 0, slots := 0, locals := 1800 }) (ux_Pc [.ref h0, .int p0, .int p1, .int p2, .int p3, .int p4, .ref out] (dC, dI) cls [(h0, .inr (0, [.ref row, .int 0, .int 0, .ref nb, .ref wi, .ref ga, .ref sg, .ref tc, .ref st, .ref hp, .ref ec, .ref row, .int 0, .int 0])), (row, .inl (cB, 2000, .inl (fun _ => 0))), (out, .inl (cJ, 1, .inr (.inl (fun _ => 0))))] [(cB, .byte), (cJ, .long)] sz) (va_Qi (fun (r : Int32) (_ : Unit) => r = 0) (fun (_ : Unit) (t : State) => ux_B (dC, dI) cls (va_A [(h0, .inr (0, [.ref row, .int 0, .int 0, .ref nb, .ref wi, .ref ga, .ref sg, .ref tc, .ref st, .ref hp, .ref ec, .ref row, .int 0, .int 0])), (row, .inl (cB, 2000, .inl (fun _ => 0))), (out, .inl (cJ, 1, .inr (.inl (fun _ => 0))))] sz) [(out, .inl (cJ, 1, .inr (.inl (vp_updL (fun _ => 0) (0 : Int32).toNatClampNeg 20))))] [(cJ, .long)] t) (va_A [(h0, .inr (0, [.ref row, .int 0, .int 0, .ref nb, .ref wi, .ref ga, .ref sg, .ref tc, .ref st, .ref hp, .ref ec, .ref row, .int 0, .int 0])), (row, .inl (cB, 2000, .inl (fun _ => 0))), (out, .inl (cJ, 1, .inr (.inl (fun _ => 0))))] sz)) 0 0 (va_A [(h0, .inr (0, [.ref row, .int 0, .int 0, .ref nb, .ref wi, .ref ga, .ref sg, .ref tc, .ref st, .ref hp, .ref ec, .ref row, .int 0, .int 0])), (row, .inl (cB, 2000, .inl (fun _ => 0))), (out, .inl (cJ, 1, .inr (.inl (fun _ => 0))))] sz) := by
  refine va_MetW (hh := [(0, 16, 19, 13)]) (cc := b_La_feed) (maxL := 8) (ret := some .int) (by decide) rfl ?_
  intro p e s m args below meth c s₁ B hml hv
  obtain ⟨rfl, hsz, hP, hK, hD0, hT⟩ := hv
  have hx := B.exec
  have hb := B.bytes
  have hr := B.returns
  have hown : s.vm.findClass "UnikernelHttpLaw" = some m.cls := findClass_of_methodNamed B.named
  have hlocks := B.notSynchronized
  subst hsz
  have hD := hD0.self (sz := s.heap.size)
  have hns := ux_ns hP
  generalize hAe : va_A [(h0, .inr (0, [.ref row, .int 0, .int 0, .ref nb, .ref wi, .ref ga, .ref sg, .ref tc, .ref st, .ref hp, .ref ec, .ref row, .int 0, .int 0])), (row, .inl (cB, 2000, .inl (fun _ => 0))), (out, .inl (cJ, 1, .inr (.inl (fun _ => 0))))] s.heap.size = A at hD hns ⊢
  have hA : ∀ q : Nat, s.heap.size ≤ q → A q := fun q h => by rw [← hAe]; exact Or.inr h
  have hS : va_S A s.heap s.heap [] := va_S.rf
  have hl := lv_entry ([.ref h0, .int p0, .int p1, .int p2, .int p3, .int p4, .ref out]) (n := 8) (Nat.le_of_ble_eq_true rfl)
  rw [lg_entry_eq]
  generalize (lg_sl ([.ref h0, .int p0, .int p1, .int p2, .int p3, .int p4, .ref out]) ++ List.replicate (8 - (lg_sl ([.ref h0, .int p0, .int p1, .int p2, .int p3, .int p4, .ref out])).length) Slot.unset).toArray = ls at hl ⊢
  have hl : lv_has ls 8 [(0, .ref h0), (1, .int p0), (2, .int p1), (3, .int p2), (4, .int p3), (5, .int p4), (6, .ref out)] := hl
  have hfx : CallFix p m c b_La_feed 8 s ([.ref h0, .int p0, .int p1, .int p2, .int p3, .int p4, .ref out] : List Value).toArray [] "UnikernelHttpLaw" := ⟨hx, hb, hml, hown, fun _ h => by cases h⟩
  refine lv_aload hx hb d_La_feed_0 (lv_at hl 6 rfl) ?_
  refine lv_iconst (v := 0) hx hb d_La_feed_2 (by decide) ?_
  refine lv_aload_n hx hb d_La_feed_3 rfl (lv_at hl 0 rfl) ?_
  refine lv_iload_n hx hb d_La_feed_4 rfl (lv_at hl 1 rfl) ?_
  refine lv_iload_n hx hb d_La_feed_5 rfl (lv_at hl 2 rfl) ?_
  refine lv_iload_n hx hb d_La_feed_6 rfl (lv_at hl 3 rfl) ?_
  refine lv_iload hx hb d_La_feed_7 (lv_at hl 4 rfl) ?_
  refine lv_iload hx hb d_La_feed_9 (lv_at hl 5 rfl) ?_
  have hPc := hP.sub (ws' := [(h0, .inr (0, [.ref row, .int 0, .int 0, .ref nb, .ref wi, .ref ga, .ref sg, .ref tc, .ref st, .ref hp, .ref ec, .ref row, .int 0, .int 0])), (row, .inl (cB, 2000, .inl (fun _ => 0)))]) [0, 1] rfl
  have hDc := hD.sub (ws' := [(h0, .inr (0, [.ref row, .int 0, .int 0, .ref nb, .ref wi, .ref ga, .ref sg, .ref tc, .ref st, .ref hp, .ref ec, .ref row, .int 0, .int 0])), (row, .inl (cB, 2000, .inl (fun _ => 0)))]) [0, 1] (by decide) rfl
  have hKc := hK.sub (tys' := [(cB, .byte)]) [0] rfl
  have hFc := va_free (wc := [(h0, .inr (0, [.ref row, .int 0, .int 0, .ref nb, .ref wi, .ref ga, .ref sg, .ref tc, .ref st, .ref hp, .ref ec, .ref row, .int 0, .int 0])), (row, .inl (cB, 2000, .inl (fun _ => 0)))]) hD hS hA [0, 1] rfl
  have hkc : 0 + 0 ≤ 0 := (Nat.le_of_ble_eq_true rfl)
  refine va_calli (va_runV (As := [.int p0, .int p1, .int p2, .int p3, .int p4]) (rest := [.int 0, .ref out]) hfx (c_U_feed l dC dI h0 row nb wi ga sg tc st hp ec cB p0 p1 p2 p3 p4 s.heap.size) ⟨(ux_cb 5 hT tw_493 tw_490 tw_1 rfl rfl (by decide +kernel) ⟨(Nat.le_of_ble_eq_true rfl), (Nat.le_of_ble_eq_true rfl)⟩), (ux_T_at hT tw_491 rfl), (ux_T_at hT tw_492 rfl)⟩ (ux_preV (r := (R_U, F_U, 14)) (ci := 0) (q0 := 0) [.int p0, .int p1, .int p2, .int p3, .int p4] hT hPc hKc hDc rfl rfl) rfl rfl hl.1 rfl (lv_room (Nat.le_of_ble_eq_true rfl)) d_La_feed_11 ⟨(Nat.le_of_ble_eq_true rfl), (Nat.le_of_ble_eq_true rfl)⟩) hS (fun q _ h => hFc q h) hFc (fun r1 u t H1 locs ht hvm hw hB hz1 hk1 hS => ?_)
  obtain ⟨hP1, hK1, hD1⟩ := hB
  rw [ht] at hP1
  have hK1 := va_K.moved hvm.symm hK1
  obtain ⟨hP, hD⟩ := va_join (wr := [(out, .inl (cJ, 1, .inr (.inl (fun _ => 0))))]) (w1 := []) hP hD [0, 1] [2] rfl rfl (by decide) (by decide) hk1 hFc hP1 hD1
  have hK := (hK.sub (tys' := [(cB, .byte), (cJ, .long)]) [0, 1] rfl).app hK1
  generalize H1 = H at hP hS ⊢
  have hP : va_P (dC, dI) cls [(out, .inl (cJ, 1, .inr (.inl (fun _ => 0))))] H := hP
  have hD : va_D A [(out, .inl (cJ, 1, .inr (.inl (fun _ => 0))))] := hD
  have hK : va_K (dC, dI) cls [(cB, .byte), (cJ, .long)] s := hK
  obtain rfl : r1 = 20 := hw
  refine lv_i2l (v := 20) hx hb d_La_feed_14 (by decide) ?_
  refine va_last hx hb hK hP hD hS 0 1 rfl rfl (i := 0) (show ¬ ((0 : Int32) < 0 ∨ 1 ≤ (0 : Int32).toNatClampNeg) by decide) d_La_feed_15 (fun H locs hP hD hS => ?_)
  have hP : va_P (dC, dI) cls [(out, .inl (cJ, 1, .inr (.inl (vp_updL (fun _ => 0) (0 : Int32).toNatClampNeg 20))))] H := hP
  have hD : va_D A [(out, .inl (cJ, 1, .inr (.inl (vp_updL (fun _ => 0) (0 : Int32).toNatClampNeg 20))))] := hD
  refine lv_goto hx hb d_La_feed_16 (tgt := 23) (by decide) ?_
  refine lv_iconst (v := 0) hx hb d_La_feed_23 (by decide) ?_
  have hP9 := hP.sub (ws' := [(out, .inl (cJ, 1, .inr (.inl (vp_updL (fun _ => 0) (0 : Int32).toNatClampNeg 20))))]) [0] rfl
  have hD9 := hD.sub (ws' := [(out, .inl (cJ, 1, .inr (.inl (vp_updL (fun _ => 0) (0 : Int32).toNatClampNeg 20))))]) [0] (by decide) rfl
  have hK9 := hK.sub (tys' := [(cJ, .long)]) [1] rfl
  refine W.widen (k := 0) (n := 0) (Nat.le_of_ble_eq_true rfl) (Nat.le_of_ble_eq_true rfl) ?_
  exact W.iret (v := 0) hx hb hr (fun t ht hW => ⟨⟨_, (), rfl, rfl, by rw [ht]; exact hP9, va_K.moved hW.alike hK9, hD9⟩, hS.F ht⟩) hS.2.2 d_La_feed_24
set_option maxHeartbeats 4000000 in
set_option maxRecDepth 100000 in
theorem c_La_cut_ok (l : Launch) (dC : Nat → ClassId) (dI : Nat → Nat → Nat) (h0 : Nat) (out : Nat) (row : Nat) (nb : Nat) (wi : Nat) (ga : Nat) (sg : Nat) (tc : Nat) (st : Nat) (hp : Nat) (ec : Nat) (cJ : ClassId) (sz : Nat) : Met l y_La_cut [Cond.codeWith y_La_cut b_La_cut 4 (some .int) [(0, 9, 12, 19)]] ({ frames := 120, cells := 0, slots := 0, locals := 1800 }) (ux_Pc [.ref h0, .int 0, .ref out] (dC, dI) cls [(h0, .inr (0, [.ref row, .int 0, .int 0, .ref nb, .ref wi, .ref ga, .ref sg, .ref tc, .ref st, .ref hp, .ref ec, .ref row, .int 0, .int 0])), (out, .inl (cJ, 1, .inr (.inl (fun _ => 0))))] [(cJ, .long)] sz) (va_Qi (fun (r : Int32) (_ : Unit) => r = 0) (fun (_ : Unit) (t : State) => ux_B (dC, dI) cls (va_A [(h0, .inr (0, [.ref row, .int 0, .int 0, .ref nb, .ref wi, .ref ga, .ref sg, .ref tc, .ref st, .ref hp, .ref ec, .ref row, .int 0, .int 0])), (out, .inl (cJ, 1, .inr (.inl (fun _ => 0))))] sz) [(out, .inl (cJ, 1, .inr (.inl (vp_updL (fun _ => 0) (0 : Int32).toNatClampNeg 0))))] [(cJ, .long)] t) (va_A [(h0, .inr (0, [.ref row, .int 0, .int 0, .ref nb, .ref wi, .ref ga, .ref sg, .ref tc, .ref st, .ref hp, .ref ec, .ref row, .int 0, .int 0])), (out, .inl (cJ, 1, .inr (.inl (fun _ => 0))))] sz)) 0 0 (va_A [(h0, .inr (0, [.ref row, .int 0, .int 0, .ref nb, .ref wi, .ref ga, .ref sg, .ref tc, .ref st, .ref hp, .ref ec, .ref row, .int 0, .int 0])), (out, .inl (cJ, 1, .inr (.inl (fun _ => 0))))] sz) := by
  refine va_MetW (hh := [(0, 9, 12, 19)]) (cc := b_La_cut) (maxL := 4) (ret := some .int) (by decide) rfl ?_
  intro p e s m args below meth c s₁ B hml hv
  obtain ⟨rfl, hsz, hP, hK, hD0, hT⟩ := hv
  have hx := B.exec
  have hb := B.bytes
  have hr := B.returns
  have hown : s.vm.findClass "UnikernelHttpLaw" = some m.cls := findClass_of_methodNamed B.named
  have hlocks := B.notSynchronized
  subst hsz
  have hD := hD0.self (sz := s.heap.size)
  have hns := ux_ns hP
  generalize hAe : va_A [(h0, .inr (0, [.ref row, .int 0, .int 0, .ref nb, .ref wi, .ref ga, .ref sg, .ref tc, .ref st, .ref hp, .ref ec, .ref row, .int 0, .int 0])), (out, .inl (cJ, 1, .inr (.inl (fun _ => 0))))] s.heap.size = A at hD hns ⊢
  have hA : ∀ q : Nat, s.heap.size ≤ q → A q := fun q h => by rw [← hAe]; exact Or.inr h
  have hS : va_S A s.heap s.heap [] := va_S.rf
  have hl := lv_entry ([.ref h0, .int 0, .ref out]) (n := 4) (Nat.le_of_ble_eq_true rfl)
  rw [lg_entry_eq]
  generalize (lg_sl ([.ref h0, .int 0, .ref out]) ++ List.replicate (4 - (lg_sl ([.ref h0, .int 0, .ref out])).length) Slot.unset).toArray = ls at hl ⊢
  have hl : lv_has ls 4 [(0, .ref h0), (1, .int 0), (2, .ref out)] := hl
  have hfx : CallFix p m c b_La_cut 4 s ([.ref h0, .int 0, .ref out] : List Value).toArray [] "UnikernelHttpLaw" := ⟨hx, hb, hml, hown, fun _ h => by cases h⟩
  refine lv_aload_n hx hb d_La_cut_0 rfl (lv_at hl 2 rfl) ?_
  refine lv_iconst (v := 0) hx hb d_La_cut_1 (by decide) ?_
  refine lv_aload_n hx hb d_La_cut_2 rfl (lv_at hl 0 rfl) ?_
  refine lv_iload_n hx hb d_La_cut_3 rfl (lv_at hl 1 rfl) ?_
  have hPc := hP.sub (ws' := [(h0, .inr (0, [.ref row, .int 0, .int 0, .ref nb, .ref wi, .ref ga, .ref sg, .ref tc, .ref st, .ref hp, .ref ec, .ref row, .int 0, .int 0]))]) [0] rfl
  have hDc := hD.sub (ws' := [(h0, .inr (0, [.ref row, .int 0, .int 0, .ref nb, .ref wi, .ref ga, .ref sg, .ref tc, .ref st, .ref hp, .ref ec, .ref row, .int 0, .int 0]))]) [0] (by decide) rfl
  have hKc := hK.sub (tys' := []) [] rfl
  have hFc := va_free (wc := [(h0, .inr (0, [.ref row, .int 0, .int 0, .ref nb, .ref wi, .ref ga, .ref sg, .ref tc, .ref st, .ref hp, .ref ec, .ref row, .int 0, .int 0]))]) hD hS hA [0] rfl
  have hkc : 0 + 0 ≤ 0 := (Nat.le_of_ble_eq_true rfl)
  refine va_calli (va_runV (As := [.int 0]) (rest := [.int 0, .ref out]) hfx (c_U_cut_ok l dC dI h0 row nb wi ga sg tc st hp ec s.heap.size) ⟨(ux_cb 1 hT tw_570 tw_567 tw_1 rfl rfl (by decide +kernel) ⟨(Nat.le_of_ble_eq_true rfl), (Nat.le_of_ble_eq_true rfl)⟩), (ux_T_at hT tw_568 rfl), (ux_T_at hT tw_569 rfl)⟩ (ux_preV (r := (R_U, F_U, 14)) (ci := 0) (q0 := 0) [.int 0] hT hPc hKc hDc rfl rfl) rfl rfl hl.1 rfl (lv_room (Nat.le_of_ble_eq_true rfl)) d_La_cut_4 ⟨(Nat.le_of_ble_eq_true rfl), (Nat.le_of_ble_eq_true rfl)⟩) hS (fun q _ h => hFc q h) hFc (fun r1 u t H1 locs ht hvm hw hB hz1 hk1 hS => ?_)
  obtain ⟨hP1, hK1, hD1⟩ := hB
  rw [ht] at hP1
  have hK1 := va_K.moved hvm.symm hK1
  obtain ⟨hP, hD⟩ := va_join (wr := [(out, .inl (cJ, 1, .inr (.inl (fun _ => 0))))]) (w1 := []) hP hD [0] [1] rfl rfl (by decide) (by decide) hk1 hFc hP1 hD1
  have hK := (hK.sub (tys' := [(cJ, .long)]) [0] rfl).app hK1
  generalize H1 = H at hP hS ⊢
  have hP : va_P (dC, dI) cls [(out, .inl (cJ, 1, .inr (.inl (fun _ => 0))))] H := hP
  have hD : va_D A [(out, .inl (cJ, 1, .inr (.inl (fun _ => 0))))] := hD
  have hK : va_K (dC, dI) cls [(cJ, .long)] s := hK
  obtain rfl : r1 = 0 := hw
  refine lv_i2l (v := 0) hx hb d_La_cut_7 (by decide) ?_
  refine va_last hx hb hK hP hD hS 0 0 rfl rfl (i := 0) (show ¬ ((0 : Int32) < 0 ∨ 1 ≤ (0 : Int32).toNatClampNeg) by decide) d_La_cut_8 (fun H locs hP hD hS => ?_)
  have hP : va_P (dC, dI) cls [(out, .inl (cJ, 1, .inr (.inl (vp_updL (fun _ => 0) (0 : Int32).toNatClampNeg 0))))] H := hP
  have hD : va_D A [(out, .inl (cJ, 1, .inr (.inl (vp_updL (fun _ => 0) (0 : Int32).toNatClampNeg 0))))] := hD
  refine lv_goto hx hb d_La_cut_9 (tgt := 15) (by decide) ?_
  refine lv_iconst (v := 0) hx hb d_La_cut_15 (by decide) ?_
  have hP9 := hP.sub (ws' := [(out, .inl (cJ, 1, .inr (.inl (vp_updL (fun _ => 0) (0 : Int32).toNatClampNeg 0))))]) [0] rfl
  have hD9 := hD.sub (ws' := [(out, .inl (cJ, 1, .inr (.inl (vp_updL (fun _ => 0) (0 : Int32).toNatClampNeg 0))))]) [0] (by decide) rfl
  have hK9 := hK.sub (tys' := [(cJ, .long)]) [0] rfl
  refine W.widen (k := 0) (n := 0) (Nat.le_of_ble_eq_true rfl) (Nat.le_of_ble_eq_true rfl) ?_
  exact W.iret (v := 0) hx hb hr (fun t ht hW => ⟨⟨_, (), rfl, rfl, by rw [ht]; exact hP9, va_K.moved hW.alike hK9, hD9⟩, hS.F ht⟩) hS.2.2 d_La_cut_16
set_option maxHeartbeats 4000000 in
set_option maxRecDepth 100000 in
theorem c_La_cut_no (l : Launch) (hfl : l.flags = flags0) (dC : Nat → ClassId) (dI : Nat → Nat → Nat) (h0 : Nat) (out : Nat) (row : Nat) (nb : Nat) (wi : Nat) (ga : Nat) (sg : Nat) (tc : Nat) (st : Nat) (hp : Nat) (ec : Nat) (cJ : ClassId) (p0 : Int32) (hn : p0.toInt ≠ 0) (sz : Nat) : Met l y_La_cut [Cond.codeWith y_La_cut b_La_cut 4 (some .int) [(0, 9, 12, 19)]] ({ frames := 120, cells := 1, slots := 6, locals := 1800 }) (ux_PcH [.ref h0, .int p0, .ref out] (dC, dI) cls [(h0, .inr (0, [.ref row, .int 0, .int 0, .ref nb, .ref wi, .ref ga, .ref sg, .ref tc, .ref st, .ref hp, .ref ec, .ref row, .int 0, .int 0])), (out, .inl (cJ, 1, .inr (.inl (fun _ => 0))))] [(cJ, .long)] sz) (va_Qi (fun (r : Int32) (_ : Unit) => r = 1) (fun (_ : Unit) (t : State) => ux_B (dC, dI) cls (va_A [(h0, .inr (0, [.ref row, .int 0, .int 0, .ref nb, .ref wi, .ref ga, .ref sg, .ref tc, .ref st, .ref hp, .ref ec, .ref row, .int 0, .int 0])), (out, .inl (cJ, 1, .inr (.inl (fun _ => 0))))] sz) [(out, .inl (cJ, 1, .inr (.inl (fun _ => 0))))] [(cJ, .long)] t) (va_A [(h0, .inr (0, [.ref row, .int 0, .int 0, .ref nb, .ref wi, .ref ga, .ref sg, .ref tc, .ref st, .ref hp, .ref ec, .ref row, .int 0, .int 0])), (out, .inl (cJ, 1, .inr (.inl (fun _ => 0))))] sz)) 1 6 (va_A [(h0, .inr (0, [.ref row, .int 0, .int 0, .ref nb, .ref wi, .ref ga, .ref sg, .ref tc, .ref st, .ref hp, .ref ec, .ref row, .int 0, .int 0])), (out, .inl (cJ, 1, .inr (.inl (fun _ => 0))))] sz) := by
  refine va_MetW (hh := [(0, 9, 12, 19)]) (cc := b_La_cut) (maxL := 4) (ret := some .int) (by decide) rfl ?_
  intro p e s m args below meth c s₁ B hml hv
  obtain ⟨⟨rfl, hsz, hP, hK, hD0, hT⟩, hH⟩ := hv
  have hx := B.exec
  have hb := B.bytes
  have hr := B.returns
  have hown : s.vm.findClass "UnikernelHttpLaw" = some m.cls := findClass_of_methodNamed B.named
  have hlocks := B.notSynchronized
  subst hsz
  have hD := hD0.self (sz := s.heap.size)
  have hns := ux_ns hP
  generalize hAe : va_A [(h0, .inr (0, [.ref row, .int 0, .int 0, .ref nb, .ref wi, .ref ga, .ref sg, .ref tc, .ref st, .ref hp, .ref ec, .ref row, .int 0, .int 0])), (out, .inl (cJ, 1, .inr (.inl (fun _ => 0))))] s.heap.size = A at hD hns ⊢
  have hA : ∀ q : Nat, s.heap.size ≤ q → A q := fun q h => by rw [← hAe]; exact Or.inr h
  have hS : va_S A s.heap s.heap [] := va_S.rf
  have hl := lv_entry ([.ref h0, .int p0, .ref out]) (n := 4) (Nat.le_of_ble_eq_true rfl)
  rw [lg_entry_eq]
  generalize (lg_sl ([.ref h0, .int p0, .ref out]) ++ List.replicate (4 - (lg_sl ([.ref h0, .int p0, .ref out])).length) Slot.unset).toArray = ls at hl ⊢
  have hl : lv_has ls 4 [(0, .ref h0), (1, .int p0), (2, .ref out)] := hl
  have hfx : CallFix p m c b_La_cut 4 s ([.ref h0, .int p0, .ref out] : List Value).toArray [] "UnikernelHttpLaw" := ⟨hx, hb, hml, hown, fun _ h => by cases h⟩
  refine lv_aload_n hx hb d_La_cut_0 rfl (lv_at hl 2 rfl) ?_
  refine lv_iconst (v := 0) hx hb d_La_cut_1 (by decide) ?_
  refine lv_aload_n hx hb d_La_cut_2 rfl (lv_at hl 0 rfl) ?_
  refine lv_iload_n hx hb d_La_cut_3 rfl (lv_at hl 1 rfl) ?_
  have hPc := hP.sub (ws' := [(h0, .inr (0, [.ref row, .int 0, .int 0, .ref nb, .ref wi, .ref ga, .ref sg, .ref tc, .ref st, .ref hp, .ref ec, .ref row, .int 0, .int 0]))]) [0] rfl
  have hDc := hD.sub (ws' := [(h0, .inr (0, [.ref row, .int 0, .int 0, .ref nb, .ref wi, .ref ga, .ref sg, .ref tc, .ref st, .ref hp, .ref ec, .ref row, .int 0, .int 0]))]) [0] (by decide) rfl
  have hKc := hK.sub (tys' := []) [] rfl
  have hFc := va_free (wc := [(h0, .inr (0, [.ref row, .int 0, .int 0, .ref nb, .ref wi, .ref ga, .ref sg, .ref tc, .ref st, .ref hp, .ref ec, .ref row, .int 0, .int 0]))]) hD hS hA [0] rfl
  have hkc : 0 + 1 ≤ 1 := (Nat.le_of_ble_eq_true rfl)
  obtain ⟨more, htab⟩ := ux_tab B (atoms_spec (ws := [Cond.codeWith y_La_cut b_La_cut 4 (some .int) [(0, 9, 12, 19)]]) B.pre _ List.mem_cons_self)
  refine ux_run (own := "UnikernelHttpLaw") (E := "java/lang/IllegalArgumentException") (A0 := A) (H0 := s.heap) (As := [.int p0]) (rest := [.int 0, .ref out]) hfx (c_U_cut_no l hfl dC dI h0 row nb wi ga sg tc st hp ec p0 hn s.heap.size) ⟨(ux_cb 1 hT tw_570 tw_567 tw_1 rfl rfl (by decide +kernel) ⟨(Nat.le_of_ble_eq_true rfl), (Nat.le_of_ble_eq_true rfl)⟩), (ux_T_at hT tw_568 rfl), (ux_T_at hT tw_569 rfl)⟩ (ux_preHV (r := (R_U, F_U, 14)) (ci := 0) (q0 := 0) [.int p0] hT hH (fun _ _ => rfl) hPc hKc hDc rfl rfl) htab (by decide) (by decide) (ux_T_at hT tw_566 rfl) rfl hl.1 rfl (Nat.le_of_ble_eq_true rfl) d_La_cut_4 ⟨(Nat.le_of_ble_eq_true rfl), (Nat.le_of_ble_eq_true rfl)⟩ hS (fun q h => hFc q h) (ux_XQ hFc) (fun v st₀ t H1 locs1 _ _ _ hq _ => (ux_Xno hq).elim) (fun z1 st₀ t H1 locs h0_ ht hal hq hS => ?_)
  have hk1 : ∀ q : Nat, q < s.heap.size → ¬ va_A [(h0, .inr (0, [.ref row, .int 0, .int 0, .ref nb, .ref wi, .ref ga, .ref sg, .ref tc, .ref st, .ref hp, .ref ec, .ref row, .int 0, .int 0]))] s.heap.size q → H1[q]? = s.heap[q]? := fun q h1 h2 => by rw [← ht, ← h0_]; exact hq.2.2 q (by rw [h0_]; exact h1) h2
  obtain ⟨hP, hD⟩ := va_join (wr := [(out, .inl (cJ, 1, .inr (.inl (fun _ => 0))))]) (w1 := []) hP hD [0] [1] rfl rfl (by decide) (by decide) hk1 hFc ux_P0 ux_D0
  generalize H1 = H at hP hS ⊢
  have hP : va_P (dC, dI) cls [(out, .inl (cJ, 1, .inr (.inl (fun _ => 0))))] H := hP
  have hD : va_D A [(out, .inl (cJ, 1, .inr (.inl (fun _ => 0))))] := hD
  refine W.eq (g2 := F0 m 12 ls [.ref z1]) rfl ?_
  refine lv_astore_n hx hb d_La_cut_12 rfl hl (by decide) rfl (fun ls hl => ?_)
  have hl : lv_has ls 4 [(3, .ref z1), (0, .ref h0), (1, .int p0), (2, .ref out)] := hl
  refine lv_iconst (v := 1) hx hb d_La_cut_13 (by decide) ?_
  have hP9 := hP.sub (ws' := [(out, .inl (cJ, 1, .inr (.inl (fun _ => 0))))]) [0] rfl
  have hD9 := hD.sub (ws' := [(out, .inl (cJ, 1, .inr (.inl (fun _ => 0))))]) [0] (by decide) rfl
  have hK9 := hK.sub (tys' := [(cJ, .long)]) [0] rfl
  refine W.widen (k := 1) (n := 6) (Nat.le_of_ble_eq_true rfl) (Nat.le_of_ble_eq_true rfl) ?_
  exact W.iret (v := 1) hx hb hr (fun t ht hW => ⟨⟨_, (), rfl, rfl, by rw [ht]; exact hP9, va_K.moved hW.alike hK9, hD9⟩, hS.F ht⟩) hS.2.2 d_La_cut_14
set_option maxHeartbeats 4000000 in
set_option maxRecDepth 100000 in
theorem c_La_arrive (l : Launch) (dC : Nat → ClassId) (dI : Nat → Nat → Nat) (h0 : Nat) (out : Nat) (row : Nat) (nb : Nat) (wi : Nat) (ga : Nat) (sg : Nat) (tc : Nat) (st : Nat) (hp : Nat) (ec : Nat) (w1 : Nat) (w2 : Nat) (cJ : ClassId) (sz : Nat) : Met l y_La_arrive [Cond.codeWith y_La_arrive b_La_arrive 3 (some .int) [(0, 8, 11, 19)]] ({ frames := 120, cells := 0, slots := 0, locals := 1800 }) (ux_Pc [.ref h0, .ref out] (dC, dI) cls [(h0, .inr (0, [.ref row, .int 0, .int 0, .ref nb, .ref wi, .ref ga, .ref sg, .ref tc, .ref st, .ref hp, .ref ec, .ref row, .int 0, .int 0])), (wi, .inr (2, [.ref nb, .ref w1, .ref w2, .int 0, .int 0])), (out, .inl (cJ, 1, .inr (.inl (fun _ => 0))))] [(cJ, .long)] sz) (va_Qi (fun (r : Int32) (_ : Unit) => r = 0) (fun (_ : Unit) (t : State) => ux_B (dC, dI) cls (va_A [(h0, .inr (0, [.ref row, .int 0, .int 0, .ref nb, .ref wi, .ref ga, .ref sg, .ref tc, .ref st, .ref hp, .ref ec, .ref row, .int 0, .int 0])), (wi, .inr (2, [.ref nb, .ref w1, .ref w2, .int 0, .int 0])), (out, .inl (cJ, 1, .inr (.inl (fun _ => 0))))] sz) [(out, .inl (cJ, 1, .inr (.inl (vp_updL (fun _ => 0) (0 : Int32).toNatClampNeg 0))))] [(cJ, .long)] t) (va_A [(h0, .inr (0, [.ref row, .int 0, .int 0, .ref nb, .ref wi, .ref ga, .ref sg, .ref tc, .ref st, .ref hp, .ref ec, .ref row, .int 0, .int 0])), (wi, .inr (2, [.ref nb, .ref w1, .ref w2, .int 0, .int 0])), (out, .inl (cJ, 1, .inr (.inl (fun _ => 0))))] sz)) 0 0 (va_A [(h0, .inr (0, [.ref row, .int 0, .int 0, .ref nb, .ref wi, .ref ga, .ref sg, .ref tc, .ref st, .ref hp, .ref ec, .ref row, .int 0, .int 0])), (wi, .inr (2, [.ref nb, .ref w1, .ref w2, .int 0, .int 0])), (out, .inl (cJ, 1, .inr (.inl (fun _ => 0))))] sz) := by
  refine va_MetW (hh := [(0, 8, 11, 19)]) (cc := b_La_arrive) (maxL := 3) (ret := some .int) (by decide) rfl ?_
  intro p e s m args below meth c s₁ B hml hv
  obtain ⟨rfl, hsz, hP, hK, hD0, hT⟩ := hv
  have hx := B.exec
  have hb := B.bytes
  have hr := B.returns
  have hown : s.vm.findClass "UnikernelHttpLaw" = some m.cls := findClass_of_methodNamed B.named
  have hlocks := B.notSynchronized
  subst hsz
  have hD := hD0.self (sz := s.heap.size)
  have hns := ux_ns hP
  generalize hAe : va_A [(h0, .inr (0, [.ref row, .int 0, .int 0, .ref nb, .ref wi, .ref ga, .ref sg, .ref tc, .ref st, .ref hp, .ref ec, .ref row, .int 0, .int 0])), (wi, .inr (2, [.ref nb, .ref w1, .ref w2, .int 0, .int 0])), (out, .inl (cJ, 1, .inr (.inl (fun _ => 0))))] s.heap.size = A at hD hns ⊢
  have hA : ∀ q : Nat, s.heap.size ≤ q → A q := fun q h => by rw [← hAe]; exact Or.inr h
  have hS : va_S A s.heap s.heap [] := va_S.rf
  have hl := lv_entry ([.ref h0, .ref out]) (n := 3) (Nat.le_of_ble_eq_true rfl)
  rw [lg_entry_eq]
  generalize (lg_sl ([.ref h0, .ref out]) ++ List.replicate (3 - (lg_sl ([.ref h0, .ref out])).length) Slot.unset).toArray = ls at hl ⊢
  have hl : lv_has ls 3 [(0, .ref h0), (1, .ref out)] := hl
  have hfx : CallFix p m c b_La_arrive 3 s ([.ref h0, .ref out] : List Value).toArray [] "UnikernelHttpLaw" := ⟨hx, hb, hml, hown, fun _ h => by cases h⟩
  refine lv_aload_n hx hb d_La_arrive_0 rfl (lv_at hl 1 rfl) ?_
  refine lv_iconst (v := 0) hx hb d_La_arrive_1 (by decide) ?_
  refine lv_aload_n hx hb d_La_arrive_2 rfl (lv_at hl 0 rfl) ?_
  have hPc := hP.sub (ws' := [(h0, .inr (0, [.ref row, .int 0, .int 0, .ref nb, .ref wi, .ref ga, .ref sg, .ref tc, .ref st, .ref hp, .ref ec, .ref row, .int 0, .int 0])), (wi, .inr (2, [.ref nb, .ref w1, .ref w2, .int 0, .int 0]))]) [0, 1] rfl
  have hDc := hD.sub (ws' := [(h0, .inr (0, [.ref row, .int 0, .int 0, .ref nb, .ref wi, .ref ga, .ref sg, .ref tc, .ref st, .ref hp, .ref ec, .ref row, .int 0, .int 0])), (wi, .inr (2, [.ref nb, .ref w1, .ref w2, .int 0, .int 0]))]) [0, 1] (by decide) rfl
  have hKc := hK.sub (tys' := []) [] rfl
  have hFc := va_free (wc := [(h0, .inr (0, [.ref row, .int 0, .int 0, .ref nb, .ref wi, .ref ga, .ref sg, .ref tc, .ref st, .ref hp, .ref ec, .ref row, .int 0, .int 0])), (wi, .inr (2, [.ref nb, .ref w1, .ref w2, .int 0, .int 0]))]) hD hS hA [0, 1] rfl
  have hkc : 0 + 0 ≤ 0 := (Nat.le_of_ble_eq_true rfl)
  refine va_calli (va_runV (As := []) (rest := [.int 0, .ref out]) hfx (c_U_arrive l dC dI h0 row nb wi ga sg tc st hp ec w1 w2 s.heap.size) ⟨(ux_cb 0 hT tw_592 tw_589 tw_1 rfl rfl (by decide +kernel) ⟨(Nat.le_of_ble_eq_true rfl), (Nat.le_of_ble_eq_true rfl)⟩), (ux_T_at hT tw_590 rfl), (ux_T_at hT tw_591 rfl)⟩ (ux_preV (r := (R_U, F_U, 14)) (ci := 0) (q0 := 0) [] hT hPc hKc hDc rfl rfl) rfl rfl hl.1 rfl (lv_room (Nat.le_of_ble_eq_true rfl)) d_La_arrive_3 ⟨(Nat.le_of_ble_eq_true rfl), (Nat.le_of_ble_eq_true rfl)⟩) hS (fun q _ h => hFc q h) hFc (fun r1 u t H1 locs ht hvm hw hB hz1 hk1 hS => ?_)
  obtain ⟨hP1, hK1, hD1⟩ := hB
  rw [ht] at hP1
  have hK1 := va_K.moved hvm.symm hK1
  obtain ⟨hP, hD⟩ := va_join (wr := [(out, .inl (cJ, 1, .inr (.inl (fun _ => 0))))]) (w1 := []) hP hD [0, 1] [2] rfl rfl (by decide) (by decide) hk1 hFc hP1 hD1
  have hK := (hK.sub (tys' := [(cJ, .long)]) [0] rfl).app hK1
  generalize H1 = H at hP hS ⊢
  have hP : va_P (dC, dI) cls [(out, .inl (cJ, 1, .inr (.inl (fun _ => 0))))] H := hP
  have hD : va_D A [(out, .inl (cJ, 1, .inr (.inl (fun _ => 0))))] := hD
  have hK : va_K (dC, dI) cls [(cJ, .long)] s := hK
  obtain rfl : r1 = 0 := hw
  refine lv_i2l (v := 0) hx hb d_La_arrive_6 (by decide) ?_
  refine va_last hx hb hK hP hD hS 0 0 rfl rfl (i := 0) (show ¬ ((0 : Int32) < 0 ∨ 1 ≤ (0 : Int32).toNatClampNeg) by decide) d_La_arrive_7 (fun H locs hP hD hS => ?_)
  have hP : va_P (dC, dI) cls [(out, .inl (cJ, 1, .inr (.inl (vp_updL (fun _ => 0) (0 : Int32).toNatClampNeg 0))))] H := hP
  have hD : va_D A [(out, .inl (cJ, 1, .inr (.inl (vp_updL (fun _ => 0) (0 : Int32).toNatClampNeg 0))))] := hD
  refine lv_goto hx hb d_La_arrive_8 (tgt := 14) (by decide) ?_
  refine lv_iconst (v := 0) hx hb d_La_arrive_14 (by decide) ?_
  have hP9 := hP.sub (ws' := [(out, .inl (cJ, 1, .inr (.inl (vp_updL (fun _ => 0) (0 : Int32).toNatClampNeg 0))))]) [0] rfl
  have hD9 := hD.sub (ws' := [(out, .inl (cJ, 1, .inr (.inl (vp_updL (fun _ => 0) (0 : Int32).toNatClampNeg 0))))]) [0] (by decide) rfl
  have hK9 := hK.sub (tys' := [(cJ, .long)]) [0] rfl
  refine W.widen (k := 0) (n := 0) (Nat.le_of_ble_eq_true rfl) (Nat.le_of_ble_eq_true rfl) ?_
  exact W.iret (v := 0) hx hb hr (fun t ht hW => ⟨⟨_, (), rfl, rfl, by rw [ht]; exact hP9, va_K.moved hW.alike hK9, hD9⟩, hS.F ht⟩) hS.2.2 d_La_arrive_15
set_option maxHeartbeats 4000000 in
set_option maxRecDepth 100000 in
theorem c_La_page (l : Launch) (hfl : l.flags = flags0) (dC : Nat → ClassId) (dI : Nat → Nat → Nat) (h0 : Nat) (out : Nat) (row : Nat) (nb : Nat) (wi : Nat) (ga : Nat) (sg : Nat) (tc : Nat) (st : Nat) (hp : Nat) (ec : Nat) (cJ : ClassId) (p0 : Int32) (sz : Nat) : Met l y_La_page [Cond.codeWith y_La_page b_La_page 4 (some .int) [(0, 9, 12, 19), (0, 9, 15, 13)]] ({ frames := 120, cells := 1, slots := 6, locals := 1800 }) (ux_PcH [.ref h0, .int p0, .ref out] (dC, dI) cls [(h0, .inr (0, [.ref row, .int 0, .int 0, .ref nb, .ref wi, .ref ga, .ref sg, .ref tc, .ref st, .ref hp, .ref ec, .ref row, .int 0, .int 0])), (out, .inl (cJ, 1, .inr (.inl (fun _ => 0))))] [(cJ, .long)] sz) (va_Qi (fun (r : Int32) (_ : Unit) => r = 1) (fun (_ : Unit) (t : State) => ux_B (dC, dI) cls (va_A [(h0, .inr (0, [.ref row, .int 0, .int 0, .ref nb, .ref wi, .ref ga, .ref sg, .ref tc, .ref st, .ref hp, .ref ec, .ref row, .int 0, .int 0])), (out, .inl (cJ, 1, .inr (.inl (fun _ => 0))))] sz) [(out, .inl (cJ, 1, .inr (.inl (fun _ => 0))))] [(cJ, .long)] t) (va_A [(h0, .inr (0, [.ref row, .int 0, .int 0, .ref nb, .ref wi, .ref ga, .ref sg, .ref tc, .ref st, .ref hp, .ref ec, .ref row, .int 0, .int 0])), (out, .inl (cJ, 1, .inr (.inl (fun _ => 0))))] sz)) 1 6 (va_A [(h0, .inr (0, [.ref row, .int 0, .int 0, .ref nb, .ref wi, .ref ga, .ref sg, .ref tc, .ref st, .ref hp, .ref ec, .ref row, .int 0, .int 0])), (out, .inl (cJ, 1, .inr (.inl (fun _ => 0))))] sz) := by
  refine va_MetW (hh := [(0, 9, 12, 19), (0, 9, 15, 13)]) (cc := b_La_page) (maxL := 4) (ret := some .int) (by decide) rfl ?_
  intro p e s m args below meth c s₁ B hml hv
  obtain ⟨⟨rfl, hsz, hP, hK, hD0, hT⟩, hH⟩ := hv
  have hx := B.exec
  have hb := B.bytes
  have hr := B.returns
  have hown : s.vm.findClass "UnikernelHttpLaw" = some m.cls := findClass_of_methodNamed B.named
  have hlocks := B.notSynchronized
  subst hsz
  have hD := hD0.self (sz := s.heap.size)
  have hns := ux_ns hP
  generalize hAe : va_A [(h0, .inr (0, [.ref row, .int 0, .int 0, .ref nb, .ref wi, .ref ga, .ref sg, .ref tc, .ref st, .ref hp, .ref ec, .ref row, .int 0, .int 0])), (out, .inl (cJ, 1, .inr (.inl (fun _ => 0))))] s.heap.size = A at hD hns ⊢
  have hA : ∀ q : Nat, s.heap.size ≤ q → A q := fun q h => by rw [← hAe]; exact Or.inr h
  have hS : va_S A s.heap s.heap [] := va_S.rf
  have hl := lv_entry ([.ref h0, .int p0, .ref out]) (n := 4) (Nat.le_of_ble_eq_true rfl)
  rw [lg_entry_eq]
  generalize (lg_sl ([.ref h0, .int p0, .ref out]) ++ List.replicate (4 - (lg_sl ([.ref h0, .int p0, .ref out])).length) Slot.unset).toArray = ls at hl ⊢
  have hl : lv_has ls 4 [(0, .ref h0), (1, .int p0), (2, .ref out)] := hl
  have hfx : CallFix p m c b_La_page 4 s ([.ref h0, .int p0, .ref out] : List Value).toArray [] "UnikernelHttpLaw" := ⟨hx, hb, hml, hown, fun _ h => by cases h⟩
  refine lv_aload_n hx hb d_La_page_0 rfl (lv_at hl 2 rfl) ?_
  refine lv_iconst (v := 0) hx hb d_La_page_1 (by decide) ?_
  refine lv_aload_n hx hb d_La_page_2 rfl (lv_at hl 0 rfl) ?_
  refine lv_iload_n hx hb d_La_page_3 rfl (lv_at hl 1 rfl) ?_
  have hPc := hP.sub (ws' := [(h0, .inr (0, [.ref row, .int 0, .int 0, .ref nb, .ref wi, .ref ga, .ref sg, .ref tc, .ref st, .ref hp, .ref ec, .ref row, .int 0, .int 0]))]) [0] rfl
  have hDc := hD.sub (ws' := [(h0, .inr (0, [.ref row, .int 0, .int 0, .ref nb, .ref wi, .ref ga, .ref sg, .ref tc, .ref st, .ref hp, .ref ec, .ref row, .int 0, .int 0]))]) [0] (by decide) rfl
  have hKc := hK.sub (tys' := []) [] rfl
  have hFc := va_free (wc := [(h0, .inr (0, [.ref row, .int 0, .int 0, .ref nb, .ref wi, .ref ga, .ref sg, .ref tc, .ref st, .ref hp, .ref ec, .ref row, .int 0, .int 0]))]) hD hS hA [0] rfl
  have hkc : 0 + 1 ≤ 1 := (Nat.le_of_ble_eq_true rfl)
  obtain ⟨more, htab⟩ := ux_tab B (atoms_spec (ws := [Cond.codeWith y_La_page b_La_page 4 (some .int) [(0, 9, 12, 19), (0, 9, 15, 13)]]) B.pre _ List.mem_cons_self)
  refine ux_run (own := "UnikernelHttpLaw") (E := "java/lang/IllegalArgumentException") (A0 := A) (H0 := s.heap) (As := [.int p0]) (rest := [.int 0, .ref out]) hfx (c_U_page l hfl dC dI h0 row nb wi ga sg tc st hp ec p0 s.heap.size) ⟨(ux_cb 1 hT tw_1346 tw_1343 tw_1 rfl rfl (by decide +kernel) ⟨(Nat.le_of_ble_eq_true rfl), (Nat.le_of_ble_eq_true rfl)⟩), (ux_T_at hT tw_1344 rfl), (ux_T_at hT tw_1345 rfl)⟩ (ux_preHV (r := (R_U, F_U, 14)) (ci := 0) (q0 := 0) [.int p0] hT hH (fun _ _ => rfl) hPc hKc hDc rfl rfl) htab (by decide) (by decide) (ux_T_at hT tw_566 rfl) rfl hl.1 rfl (Nat.le_of_ble_eq_true rfl) d_La_page_4 ⟨(Nat.le_of_ble_eq_true rfl), (Nat.le_of_ble_eq_true rfl)⟩ hS (fun q h => hFc q h) (ux_XQ hFc) (fun v st₀ t H1 locs1 _ _ _ hq _ => (ux_Xno hq).elim) (fun z1 st₀ t H1 locs h0_ ht hal hq hS => ?_)
  have hk1 : ∀ q : Nat, q < s.heap.size → ¬ va_A [(h0, .inr (0, [.ref row, .int 0, .int 0, .ref nb, .ref wi, .ref ga, .ref sg, .ref tc, .ref st, .ref hp, .ref ec, .ref row, .int 0, .int 0]))] s.heap.size q → H1[q]? = s.heap[q]? := fun q h1 h2 => by rw [← ht, ← h0_]; exact hq.2.2 q (by rw [h0_]; exact h1) h2
  obtain ⟨hP, hD⟩ := va_join (wr := [(out, .inl (cJ, 1, .inr (.inl (fun _ => 0))))]) (w1 := []) hP hD [0] [1] rfl rfl (by decide) (by decide) hk1 hFc ux_P0 ux_D0
  generalize H1 = H at hP hS ⊢
  have hP : va_P (dC, dI) cls [(out, .inl (cJ, 1, .inr (.inl (fun _ => 0))))] H := hP
  have hD : va_D A [(out, .inl (cJ, 1, .inr (.inl (fun _ => 0))))] := hD
  refine W.eq (g2 := F0 m 12 ls [.ref z1]) rfl ?_
  refine lv_astore_n hx hb d_La_page_12 rfl hl (by decide) rfl (fun ls hl => ?_)
  have hl : lv_has ls 4 [(3, .ref z1), (0, .ref h0), (1, .int p0), (2, .ref out)] := hl
  refine lv_iconst (v := 1) hx hb d_La_page_13 (by decide) ?_
  have hP9 := hP.sub (ws' := [(out, .inl (cJ, 1, .inr (.inl (fun _ => 0))))]) [0] rfl
  have hD9 := hD.sub (ws' := [(out, .inl (cJ, 1, .inr (.inl (fun _ => 0))))]) [0] (by decide) rfl
  have hK9 := hK.sub (tys' := [(cJ, .long)]) [0] rfl
  refine W.widen (k := 1) (n := 6) (Nat.le_of_ble_eq_true rfl) (Nat.le_of_ble_eq_true rfl) ?_
  exact W.iret (v := 1) hx hb hr (fun t ht hW => ⟨⟨_, (), rfl, rfl, by rw [ht]; exact hP9, va_K.moved hW.alike hK9, hD9⟩, hS.F ht⟩) hS.2.2 d_La_page_14
set_option maxHeartbeats 4000000 in
set_option maxRecDepth 100000 in
theorem c_La_damage (l : Launch) (hfl : l.flags = flags0) (dC : Nat → ClassId) (dI : Nat → Nat → Nat) (h0 : Nat) (out : Nat) (row : Nat) (nb : Nat) (wi : Nat) (ga : Nat) (sg : Nat) (tc : Nat) (st : Nat) (hp : Nat) (ec : Nat) (s1 : Nat) (s2 : Nat) (s3 : Nat) (s4 : Nat) (s5 : Nat) (cJ : ClassId) (p0 : Int32) (p1 : Int32) (p2 : Int32) (sz : Nat) : Met l y_La_damage [Cond.codeWith y_La_damage b_La_damage 6 (some .int) [(0, 12, 15, 32)]] ({ frames := 120, cells := 1, slots := 6, locals := 1800 }) (ux_PcH [.ref h0, .int p0, .int p1, .int p2, .ref out] (dC, dI) cls [(h0, .inr (0, [.ref row, .int 0, .int 0, .ref nb, .ref wi, .ref ga, .ref sg, .ref tc, .ref st, .ref hp, .ref ec, .ref row, .int 0, .int 0])), (st, .inr (10, [.ref s1, .ref s2, .ref s3, .ref s4, .ref s5, .int 0])), (out, .inl (cJ, 1, .inr (.inl (fun _ => 0))))] [(cJ, .long)] sz) (va_Qi (fun (r : Int32) (_ : Unit) => r = 1) (fun (_ : Unit) (t : State) => ux_B (dC, dI) cls (va_A [(h0, .inr (0, [.ref row, .int 0, .int 0, .ref nb, .ref wi, .ref ga, .ref sg, .ref tc, .ref st, .ref hp, .ref ec, .ref row, .int 0, .int 0])), (st, .inr (10, [.ref s1, .ref s2, .ref s3, .ref s4, .ref s5, .int 0])), (out, .inl (cJ, 1, .inr (.inl (fun _ => 0))))] sz) [(out, .inl (cJ, 1, .inr (.inl (fun _ => 0))))] [(cJ, .long)] t) (va_A [(h0, .inr (0, [.ref row, .int 0, .int 0, .ref nb, .ref wi, .ref ga, .ref sg, .ref tc, .ref st, .ref hp, .ref ec, .ref row, .int 0, .int 0])), (st, .inr (10, [.ref s1, .ref s2, .ref s3, .ref s4, .ref s5, .int 0])), (out, .inl (cJ, 1, .inr (.inl (fun _ => 0))))] sz)) 1 6 (va_A [(h0, .inr (0, [.ref row, .int 0, .int 0, .ref nb, .ref wi, .ref ga, .ref sg, .ref tc, .ref st, .ref hp, .ref ec, .ref row, .int 0, .int 0])), (st, .inr (10, [.ref s1, .ref s2, .ref s3, .ref s4, .ref s5, .int 0])), (out, .inl (cJ, 1, .inr (.inl (fun _ => 0))))] sz) := by
  refine va_MetW (hh := [(0, 12, 15, 32)]) (cc := b_La_damage) (maxL := 6) (ret := some .int) (by decide) rfl ?_
  intro p e s m args below meth c s₁ B hml hv
  obtain ⟨⟨rfl, hsz, hP, hK, hD0, hT⟩, hH⟩ := hv
  have hx := B.exec
  have hb := B.bytes
  have hr := B.returns
  have hown : s.vm.findClass "UnikernelHttpLaw" = some m.cls := findClass_of_methodNamed B.named
  have hlocks := B.notSynchronized
  subst hsz
  have hD := hD0.self (sz := s.heap.size)
  have hns := ux_ns hP
  generalize hAe : va_A [(h0, .inr (0, [.ref row, .int 0, .int 0, .ref nb, .ref wi, .ref ga, .ref sg, .ref tc, .ref st, .ref hp, .ref ec, .ref row, .int 0, .int 0])), (st, .inr (10, [.ref s1, .ref s2, .ref s3, .ref s4, .ref s5, .int 0])), (out, .inl (cJ, 1, .inr (.inl (fun _ => 0))))] s.heap.size = A at hD hns ⊢
  have hA : ∀ q : Nat, s.heap.size ≤ q → A q := fun q h => by rw [← hAe]; exact Or.inr h
  have hS : va_S A s.heap s.heap [] := va_S.rf
  have hl := lv_entry ([.ref h0, .int p0, .int p1, .int p2, .ref out]) (n := 6) (Nat.le_of_ble_eq_true rfl)
  rw [lg_entry_eq]
  generalize (lg_sl ([.ref h0, .int p0, .int p1, .int p2, .ref out]) ++ List.replicate (6 - (lg_sl ([.ref h0, .int p0, .int p1, .int p2, .ref out])).length) Slot.unset).toArray = ls at hl ⊢
  have hl : lv_has ls 6 [(0, .ref h0), (1, .int p0), (2, .int p1), (3, .int p2), (4, .ref out)] := hl
  have hfx : CallFix p m c b_La_damage 6 s ([.ref h0, .int p0, .int p1, .int p2, .ref out] : List Value).toArray [] "UnikernelHttpLaw" := ⟨hx, hb, hml, hown, fun _ h => by cases h⟩
  refine lv_aload hx hb d_La_damage_0 (lv_at hl 4 rfl) ?_
  refine lv_iconst (v := 0) hx hb d_La_damage_2 (by decide) ?_
  refine lv_aload_n hx hb d_La_damage_3 rfl (lv_at hl 0 rfl) ?_
  refine lv_iload_n hx hb d_La_damage_4 rfl (lv_at hl 1 rfl) ?_
  refine lv_iload_n hx hb d_La_damage_5 rfl (lv_at hl 2 rfl) ?_
  refine lv_iload_n hx hb d_La_damage_6 rfl (lv_at hl 3 rfl) ?_
  have hPc := hP.sub (ws' := [(h0, .inr (0, [.ref row, .int 0, .int 0, .ref nb, .ref wi, .ref ga, .ref sg, .ref tc, .ref st, .ref hp, .ref ec, .ref row, .int 0, .int 0])), (st, .inr (10, [.ref s1, .ref s2, .ref s3, .ref s4, .ref s5, .int 0]))]) [0, 1] rfl
  have hDc := hD.sub (ws' := [(h0, .inr (0, [.ref row, .int 0, .int 0, .ref nb, .ref wi, .ref ga, .ref sg, .ref tc, .ref st, .ref hp, .ref ec, .ref row, .int 0, .int 0])), (st, .inr (10, [.ref s1, .ref s2, .ref s3, .ref s4, .ref s5, .int 0]))]) [0, 1] (by decide) rfl
  have hKc := hK.sub (tys' := []) [] rfl
  have hFc := va_free (wc := [(h0, .inr (0, [.ref row, .int 0, .int 0, .ref nb, .ref wi, .ref ga, .ref sg, .ref tc, .ref st, .ref hp, .ref ec, .ref row, .int 0, .int 0])), (st, .inr (10, [.ref s1, .ref s2, .ref s3, .ref s4, .ref s5, .int 0]))]) hD hS hA [0, 1] rfl
  have hkc : 0 + 1 ≤ 1 := (Nat.le_of_ble_eq_true rfl)
  obtain ⟨more, htab⟩ := ux_tab B (atoms_spec (ws := [Cond.codeWith y_La_damage b_La_damage 6 (some .int) [(0, 12, 15, 32)]]) B.pre _ List.mem_cons_self)
  refine ux_run (own := "UnikernelHttpLaw") (E := "java/lang/IndexOutOfBoundsException") (A0 := A) (H0 := s.heap) (As := [.int p0, .int p1, .int p2]) (rest := [.int 0, .ref out]) hfx (c_U_damage l hfl dC dI h0 row nb wi ga sg tc st hp ec s1 s2 s3 s4 s5 p0 p1 p2 s.heap.size) ⟨(ux_cb 3 hT tw_1364 tw_1361 tw_1 rfl rfl (by decide +kernel) ⟨(Nat.le_of_ble_eq_true rfl), (Nat.le_of_ble_eq_true rfl)⟩), (ux_T_at hT tw_1362 rfl), (ux_T_at hT tw_1363 rfl)⟩ (ux_preHV (r := (R_U, F_U, 14)) (ci := 0) (q0 := 0) [.int p0, .int p1, .int p2] hT hH (fun _ _ => rfl) hPc hKc hDc rfl rfl) htab (by decide) (by decide) (ux_T_at hT tw_1360 rfl) rfl hl.1 rfl (Nat.le_of_ble_eq_true rfl) d_La_damage_7 ⟨(Nat.le_of_ble_eq_true rfl), (Nat.le_of_ble_eq_true rfl)⟩ hS (fun q h => hFc q h) (ux_XQ hFc) (fun v st₀ t H1 locs1 _ _ _ hq _ => (ux_Xno hq).elim) (fun z1 st₀ t H1 locs h0_ ht hal hq hS => ?_)
  have hk1 : ∀ q : Nat, q < s.heap.size → ¬ va_A [(h0, .inr (0, [.ref row, .int 0, .int 0, .ref nb, .ref wi, .ref ga, .ref sg, .ref tc, .ref st, .ref hp, .ref ec, .ref row, .int 0, .int 0])), (st, .inr (10, [.ref s1, .ref s2, .ref s3, .ref s4, .ref s5, .int 0]))] s.heap.size q → H1[q]? = s.heap[q]? := fun q h1 h2 => by rw [← ht, ← h0_]; exact hq.2.2 q (by rw [h0_]; exact h1) h2
  obtain ⟨hP, hD⟩ := va_join (wr := [(out, .inl (cJ, 1, .inr (.inl (fun _ => 0))))]) (w1 := []) hP hD [0, 1] [2] rfl rfl (by decide) (by decide) hk1 hFc ux_P0 ux_D0
  generalize H1 = H at hP hS ⊢
  have hP : va_P (dC, dI) cls [(out, .inl (cJ, 1, .inr (.inl (fun _ => 0))))] H := hP
  have hD : va_D A [(out, .inl (cJ, 1, .inr (.inl (fun _ => 0))))] := hD
  refine W.eq (g2 := F0 m 15 ls [.ref z1]) rfl ?_
  refine lv_astore hx hb d_La_damage_15 hl (by decide) rfl (fun ls hl => ?_)
  have hl : lv_has ls 6 [(5, .ref z1), (0, .ref h0), (1, .int p0), (2, .int p1), (3, .int p2), (4, .ref out)] := hl
  refine lv_iconst (v := 1) hx hb d_La_damage_17 (by decide) ?_
  have hP9 := hP.sub (ws' := [(out, .inl (cJ, 1, .inr (.inl (fun _ => 0))))]) [0] rfl
  have hD9 := hD.sub (ws' := [(out, .inl (cJ, 1, .inr (.inl (fun _ => 0))))]) [0] (by decide) rfl
  have hK9 := hK.sub (tys' := [(cJ, .long)]) [0] rfl
  refine W.widen (k := 1) (n := 6) (Nat.le_of_ble_eq_true rfl) (Nat.le_of_ble_eq_true rfl) ?_
  exact W.iret (v := 1) hx hb hr (fun t ht hW => ⟨⟨_, (), rfl, rfl, by rw [ht]; exact hP9, va_K.moved hW.alike hK9, hD9⟩, hS.F ht⟩) hS.2.2 d_La_damage_18
set_option maxHeartbeats 4000000 in
set_option maxRecDepth 100000 in
theorem c_La_tick_ok (l : Launch) (dC : Nat → ClassId) (dI : Nat → Nat → Nat) (h0 : Nat) (out : Nat) (row : Nat) (nb : Nat) (wi : Nat) (ga : Nat) (sg : Nat) (tc : Nat) (st : Nat) (hp : Nat) (ec : Nat) (w1 : Nat) (w2 : Nat) (g1 : Nat) (t1 : Nat) (t2 : Nat) (cJ : ClassId) (p0 : Int32) (hn : 0 ≤ p0.toInt ∧ p0.toInt ≤ 100000) (sz : Nat) : Met l y_La_tick [Cond.codeWith y_La_tick b_La_tick 4 (some .int) [(0, 9, 12, 19)]] ({ frames := 120, cells := 0, slots := 0, locals := 1800 }) (ux_Pc [.ref h0, .int p0, .ref out] (dC, dI) cls [(h0, .inr (0, [.ref row, .int 0, .int 0, .ref nb, .ref wi, .ref ga, .ref sg, .ref tc, .ref st, .ref hp, .ref ec, .ref row, .int 0, .int 0])), (wi, .inr (2, [.ref nb, .ref w1, .ref w2, .int 0, .int 0])), (ga, .inr (3, [.ref g1, .int 0])), (tc, .inr (6, [.ref t1, .ref t2, .ref wi, .int 0, .int 0])), (out, .inl (cJ, 1, .inr (.inl (fun _ => 0))))] [(cJ, .long)] sz) (va_Qi (fun (r : Int32) (_ : Unit) => r = 0) (fun (_ : Unit) (t : State) => ux_B (dC, dI) cls (va_A [(h0, .inr (0, [.ref row, .int 0, .int 0, .ref nb, .ref wi, .ref ga, .ref sg, .ref tc, .ref st, .ref hp, .ref ec, .ref row, .int 0, .int 0])), (wi, .inr (2, [.ref nb, .ref w1, .ref w2, .int 0, .int 0])), (ga, .inr (3, [.ref g1, .int 0])), (tc, .inr (6, [.ref t1, .ref t2, .ref wi, .int 0, .int 0])), (out, .inl (cJ, 1, .inr (.inl (fun _ => 0))))] sz) [(out, .inl (cJ, 1, .inr (.inl (vp_updL (fun _ => 0) (0 : Int32).toNatClampNeg 0))))] [(cJ, .long)] t) (va_A [(h0, .inr (0, [.ref row, .int 0, .int 0, .ref nb, .ref wi, .ref ga, .ref sg, .ref tc, .ref st, .ref hp, .ref ec, .ref row, .int 0, .int 0])), (wi, .inr (2, [.ref nb, .ref w1, .ref w2, .int 0, .int 0])), (ga, .inr (3, [.ref g1, .int 0])), (tc, .inr (6, [.ref t1, .ref t2, .ref wi, .int 0, .int 0])), (out, .inl (cJ, 1, .inr (.inl (fun _ => 0))))] sz)) 0 0 (va_A [(h0, .inr (0, [.ref row, .int 0, .int 0, .ref nb, .ref wi, .ref ga, .ref sg, .ref tc, .ref st, .ref hp, .ref ec, .ref row, .int 0, .int 0])), (wi, .inr (2, [.ref nb, .ref w1, .ref w2, .int 0, .int 0])), (ga, .inr (3, [.ref g1, .int 0])), (tc, .inr (6, [.ref t1, .ref t2, .ref wi, .int 0, .int 0])), (out, .inl (cJ, 1, .inr (.inl (fun _ => 0))))] sz) := by
  refine va_MetW (hh := [(0, 9, 12, 19)]) (cc := b_La_tick) (maxL := 4) (ret := some .int) (by decide) rfl ?_
  intro p e s m args below meth c s₁ B hml hv
  obtain ⟨rfl, hsz, hP, hK, hD0, hT⟩ := hv
  have hx := B.exec
  have hb := B.bytes
  have hr := B.returns
  have hown : s.vm.findClass "UnikernelHttpLaw" = some m.cls := findClass_of_methodNamed B.named
  have hlocks := B.notSynchronized
  subst hsz
  have hD := hD0.self (sz := s.heap.size)
  have hns := ux_ns hP
  generalize hAe : va_A [(h0, .inr (0, [.ref row, .int 0, .int 0, .ref nb, .ref wi, .ref ga, .ref sg, .ref tc, .ref st, .ref hp, .ref ec, .ref row, .int 0, .int 0])), (wi, .inr (2, [.ref nb, .ref w1, .ref w2, .int 0, .int 0])), (ga, .inr (3, [.ref g1, .int 0])), (tc, .inr (6, [.ref t1, .ref t2, .ref wi, .int 0, .int 0])), (out, .inl (cJ, 1, .inr (.inl (fun _ => 0))))] s.heap.size = A at hD hns ⊢
  have hA : ∀ q : Nat, s.heap.size ≤ q → A q := fun q h => by rw [← hAe]; exact Or.inr h
  have hS : va_S A s.heap s.heap [] := va_S.rf
  have hl := lv_entry ([.ref h0, .int p0, .ref out]) (n := 4) (Nat.le_of_ble_eq_true rfl)
  rw [lg_entry_eq]
  generalize (lg_sl ([.ref h0, .int p0, .ref out]) ++ List.replicate (4 - (lg_sl ([.ref h0, .int p0, .ref out])).length) Slot.unset).toArray = ls at hl ⊢
  have hl : lv_has ls 4 [(0, .ref h0), (1, .int p0), (2, .ref out)] := hl
  have hfx : CallFix p m c b_La_tick 4 s ([.ref h0, .int p0, .ref out] : List Value).toArray [] "UnikernelHttpLaw" := ⟨hx, hb, hml, hown, fun _ h => by cases h⟩
  refine lv_aload_n hx hb d_La_tick_0 rfl (lv_at hl 2 rfl) ?_
  refine lv_iconst (v := 0) hx hb d_La_tick_1 (by decide) ?_
  refine lv_aload_n hx hb d_La_tick_2 rfl (lv_at hl 0 rfl) ?_
  refine lv_iload_n hx hb d_La_tick_3 rfl (lv_at hl 1 rfl) ?_
  have hPc := hP.sub (ws' := [(h0, .inr (0, [.ref row, .int 0, .int 0, .ref nb, .ref wi, .ref ga, .ref sg, .ref tc, .ref st, .ref hp, .ref ec, .ref row, .int 0, .int 0])), (wi, .inr (2, [.ref nb, .ref w1, .ref w2, .int 0, .int 0])), (ga, .inr (3, [.ref g1, .int 0])), (tc, .inr (6, [.ref t1, .ref t2, .ref wi, .int 0, .int 0]))]) [0, 1, 2, 3] rfl
  have hDc := hD.sub (ws' := [(h0, .inr (0, [.ref row, .int 0, .int 0, .ref nb, .ref wi, .ref ga, .ref sg, .ref tc, .ref st, .ref hp, .ref ec, .ref row, .int 0, .int 0])), (wi, .inr (2, [.ref nb, .ref w1, .ref w2, .int 0, .int 0])), (ga, .inr (3, [.ref g1, .int 0])), (tc, .inr (6, [.ref t1, .ref t2, .ref wi, .int 0, .int 0]))]) [0, 1, 2, 3] (by decide) rfl
  have hKc := hK.sub (tys' := []) [] rfl
  have hFc := va_free (wc := [(h0, .inr (0, [.ref row, .int 0, .int 0, .ref nb, .ref wi, .ref ga, .ref sg, .ref tc, .ref st, .ref hp, .ref ec, .ref row, .int 0, .int 0])), (wi, .inr (2, [.ref nb, .ref w1, .ref w2, .int 0, .int 0])), (ga, .inr (3, [.ref g1, .int 0])), (tc, .inr (6, [.ref t1, .ref t2, .ref wi, .int 0, .int 0]))]) hD hS hA [0, 1, 2, 3] rfl
  have hkc : 0 + 0 ≤ 0 := (Nat.le_of_ble_eq_true rfl)
  refine va_calli (va_runV (As := [.int p0]) (rest := [.int 0, .ref out]) hfx (c_U_tick_ok l dC dI h0 row nb wi ga sg tc st hp ec w1 w2 g1 t1 t2 p0 hn s.heap.size) ⟨(ux_cb 1 hT tw_1386 tw_1383 tw_1 rfl rfl (by decide +kernel) ⟨(Nat.le_of_ble_eq_true rfl), (Nat.le_of_ble_eq_true rfl)⟩), (ux_T_at hT tw_1384 rfl), (ux_T_at hT tw_1385 rfl)⟩ (ux_preV (r := (R_U, F_U, 14)) (ci := 0) (q0 := 0) [.int p0] hT hPc hKc hDc rfl rfl) rfl rfl hl.1 rfl (lv_room (Nat.le_of_ble_eq_true rfl)) d_La_tick_4 ⟨(Nat.le_of_ble_eq_true rfl), (Nat.le_of_ble_eq_true rfl)⟩) hS (fun q _ h => hFc q h) hFc (fun r1 u t H1 locs ht hvm hw hB hz1 hk1 hS => ?_)
  obtain ⟨hP1, hK1, hD1⟩ := hB
  rw [ht] at hP1
  have hK1 := va_K.moved hvm.symm hK1
  obtain ⟨hP, hD⟩ := va_join (wr := [(out, .inl (cJ, 1, .inr (.inl (fun _ => 0))))]) (w1 := []) hP hD [0, 1, 2, 3] [4] rfl rfl (by decide) (by decide) hk1 hFc hP1 hD1
  have hK := (hK.sub (tys' := [(cJ, .long)]) [0] rfl).app hK1
  generalize H1 = H at hP hS ⊢
  have hP : va_P (dC, dI) cls [(out, .inl (cJ, 1, .inr (.inl (fun _ => 0))))] H := hP
  have hD : va_D A [(out, .inl (cJ, 1, .inr (.inl (fun _ => 0))))] := hD
  have hK : va_K (dC, dI) cls [(cJ, .long)] s := hK
  obtain rfl : r1 = 0 := hw
  refine lv_i2l (v := 0) hx hb d_La_tick_7 (by decide) ?_
  refine va_last hx hb hK hP hD hS 0 0 rfl rfl (i := 0) (show ¬ ((0 : Int32) < 0 ∨ 1 ≤ (0 : Int32).toNatClampNeg) by decide) d_La_tick_8 (fun H locs hP hD hS => ?_)
  have hP : va_P (dC, dI) cls [(out, .inl (cJ, 1, .inr (.inl (vp_updL (fun _ => 0) (0 : Int32).toNatClampNeg 0))))] H := hP
  have hD : va_D A [(out, .inl (cJ, 1, .inr (.inl (vp_updL (fun _ => 0) (0 : Int32).toNatClampNeg 0))))] := hD
  refine lv_goto hx hb d_La_tick_9 (tgt := 15) (by decide) ?_
  refine lv_iconst (v := 0) hx hb d_La_tick_15 (by decide) ?_
  have hP9 := hP.sub (ws' := [(out, .inl (cJ, 1, .inr (.inl (vp_updL (fun _ => 0) (0 : Int32).toNatClampNeg 0))))]) [0] rfl
  have hD9 := hD.sub (ws' := [(out, .inl (cJ, 1, .inr (.inl (vp_updL (fun _ => 0) (0 : Int32).toNatClampNeg 0))))]) [0] (by decide) rfl
  have hK9 := hK.sub (tys' := [(cJ, .long)]) [0] rfl
  refine W.widen (k := 0) (n := 0) (Nat.le_of_ble_eq_true rfl) (Nat.le_of_ble_eq_true rfl) ?_
  exact W.iret (v := 0) hx hb hr (fun t ht hW => ⟨⟨_, (), rfl, rfl, by rw [ht]; exact hP9, va_K.moved hW.alike hK9, hD9⟩, hS.F ht⟩) hS.2.2 d_La_tick_16
set_option maxHeartbeats 4000000 in
set_option maxRecDepth 100000 in
theorem c_La_tick_no (l : Launch) (hfl : l.flags = flags0) (dC : Nat → ClassId) (dI : Nat → Nat → Nat) (h0 : Nat) (out : Nat) (row : Nat) (nb : Nat) (wi : Nat) (ga : Nat) (sg : Nat) (tc : Nat) (st : Nat) (hp : Nat) (ec : Nat) (cJ : ClassId) (p0 : Int32) (hn : p0.toInt < 0 ∨ 100000 < p0.toInt) (sz : Nat) : Met l y_La_tick [Cond.codeWith y_La_tick b_La_tick 4 (some .int) [(0, 9, 12, 19)]] ({ frames := 120, cells := 1, slots := 6, locals := 1800 }) (ux_PcH [.ref h0, .int p0, .ref out] (dC, dI) cls [(h0, .inr (0, [.ref row, .int 0, .int 0, .ref nb, .ref wi, .ref ga, .ref sg, .ref tc, .ref st, .ref hp, .ref ec, .ref row, .int 0, .int 0])), (out, .inl (cJ, 1, .inr (.inl (fun _ => 0))))] [(cJ, .long)] sz) (va_Qi (fun (r : Int32) (_ : Unit) => r = 1) (fun (_ : Unit) (t : State) => ux_B (dC, dI) cls (va_A [(h0, .inr (0, [.ref row, .int 0, .int 0, .ref nb, .ref wi, .ref ga, .ref sg, .ref tc, .ref st, .ref hp, .ref ec, .ref row, .int 0, .int 0])), (out, .inl (cJ, 1, .inr (.inl (fun _ => 0))))] sz) [(out, .inl (cJ, 1, .inr (.inl (fun _ => 0))))] [(cJ, .long)] t) (va_A [(h0, .inr (0, [.ref row, .int 0, .int 0, .ref nb, .ref wi, .ref ga, .ref sg, .ref tc, .ref st, .ref hp, .ref ec, .ref row, .int 0, .int 0])), (out, .inl (cJ, 1, .inr (.inl (fun _ => 0))))] sz)) 1 6 (va_A [(h0, .inr (0, [.ref row, .int 0, .int 0, .ref nb, .ref wi, .ref ga, .ref sg, .ref tc, .ref st, .ref hp, .ref ec, .ref row, .int 0, .int 0])), (out, .inl (cJ, 1, .inr (.inl (fun _ => 0))))] sz) := by
  refine va_MetW (hh := [(0, 9, 12, 19)]) (cc := b_La_tick) (maxL := 4) (ret := some .int) (by decide) rfl ?_
  intro p e s m args below meth c s₁ B hml hv
  obtain ⟨⟨rfl, hsz, hP, hK, hD0, hT⟩, hH⟩ := hv
  have hx := B.exec
  have hb := B.bytes
  have hr := B.returns
  have hown : s.vm.findClass "UnikernelHttpLaw" = some m.cls := findClass_of_methodNamed B.named
  have hlocks := B.notSynchronized
  subst hsz
  have hD := hD0.self (sz := s.heap.size)
  have hns := ux_ns hP
  generalize hAe : va_A [(h0, .inr (0, [.ref row, .int 0, .int 0, .ref nb, .ref wi, .ref ga, .ref sg, .ref tc, .ref st, .ref hp, .ref ec, .ref row, .int 0, .int 0])), (out, .inl (cJ, 1, .inr (.inl (fun _ => 0))))] s.heap.size = A at hD hns ⊢
  have hA : ∀ q : Nat, s.heap.size ≤ q → A q := fun q h => by rw [← hAe]; exact Or.inr h
  have hS : va_S A s.heap s.heap [] := va_S.rf
  have hl := lv_entry ([.ref h0, .int p0, .ref out]) (n := 4) (Nat.le_of_ble_eq_true rfl)
  rw [lg_entry_eq]
  generalize (lg_sl ([.ref h0, .int p0, .ref out]) ++ List.replicate (4 - (lg_sl ([.ref h0, .int p0, .ref out])).length) Slot.unset).toArray = ls at hl ⊢
  have hl : lv_has ls 4 [(0, .ref h0), (1, .int p0), (2, .ref out)] := hl
  have hfx : CallFix p m c b_La_tick 4 s ([.ref h0, .int p0, .ref out] : List Value).toArray [] "UnikernelHttpLaw" := ⟨hx, hb, hml, hown, fun _ h => by cases h⟩
  refine lv_aload_n hx hb d_La_tick_0 rfl (lv_at hl 2 rfl) ?_
  refine lv_iconst (v := 0) hx hb d_La_tick_1 (by decide) ?_
  refine lv_aload_n hx hb d_La_tick_2 rfl (lv_at hl 0 rfl) ?_
  refine lv_iload_n hx hb d_La_tick_3 rfl (lv_at hl 1 rfl) ?_
  have hPc := hP.sub (ws' := [(h0, .inr (0, [.ref row, .int 0, .int 0, .ref nb, .ref wi, .ref ga, .ref sg, .ref tc, .ref st, .ref hp, .ref ec, .ref row, .int 0, .int 0]))]) [0] rfl
  have hDc := hD.sub (ws' := [(h0, .inr (0, [.ref row, .int 0, .int 0, .ref nb, .ref wi, .ref ga, .ref sg, .ref tc, .ref st, .ref hp, .ref ec, .ref row, .int 0, .int 0]))]) [0] (by decide) rfl
  have hKc := hK.sub (tys' := []) [] rfl
  have hFc := va_free (wc := [(h0, .inr (0, [.ref row, .int 0, .int 0, .ref nb, .ref wi, .ref ga, .ref sg, .ref tc, .ref st, .ref hp, .ref ec, .ref row, .int 0, .int 0]))]) hD hS hA [0] rfl
  have hkc : 0 + 1 ≤ 1 := (Nat.le_of_ble_eq_true rfl)
  obtain ⟨more, htab⟩ := ux_tab B (atoms_spec (ws := [Cond.codeWith y_La_tick b_La_tick 4 (some .int) [(0, 9, 12, 19)]]) B.pre _ List.mem_cons_self)
  refine ux_run (own := "UnikernelHttpLaw") (E := "java/lang/IllegalArgumentException") (A0 := A) (H0 := s.heap) (As := [.int p0]) (rest := [.int 0, .ref out]) hfx (c_U_tick_no l hfl dC dI h0 row nb wi ga sg tc st hp ec p0 hn s.heap.size) ⟨(ux_cb 1 hT tw_1386 tw_1383 tw_1 rfl rfl (by decide +kernel) ⟨(Nat.le_of_ble_eq_true rfl), (Nat.le_of_ble_eq_true rfl)⟩), (ux_T_at hT tw_1384 rfl), (ux_T_at hT tw_1385 rfl)⟩ (ux_preHV (r := (R_U, F_U, 14)) (ci := 0) (q0 := 0) [.int p0] hT hH (fun _ _ => rfl) hPc hKc hDc rfl rfl) htab (by decide) (by decide) (ux_T_at hT tw_566 rfl) rfl hl.1 rfl (Nat.le_of_ble_eq_true rfl) d_La_tick_4 ⟨(Nat.le_of_ble_eq_true rfl), (Nat.le_of_ble_eq_true rfl)⟩ hS (fun q h => hFc q h) (ux_XQ hFc) (fun v st₀ t H1 locs1 _ _ _ hq _ => (ux_Xno hq).elim) (fun z1 st₀ t H1 locs h0_ ht hal hq hS => ?_)
  have hk1 : ∀ q : Nat, q < s.heap.size → ¬ va_A [(h0, .inr (0, [.ref row, .int 0, .int 0, .ref nb, .ref wi, .ref ga, .ref sg, .ref tc, .ref st, .ref hp, .ref ec, .ref row, .int 0, .int 0]))] s.heap.size q → H1[q]? = s.heap[q]? := fun q h1 h2 => by rw [← ht, ← h0_]; exact hq.2.2 q (by rw [h0_]; exact h1) h2
  obtain ⟨hP, hD⟩ := va_join (wr := [(out, .inl (cJ, 1, .inr (.inl (fun _ => 0))))]) (w1 := []) hP hD [0] [1] rfl rfl (by decide) (by decide) hk1 hFc ux_P0 ux_D0
  generalize H1 = H at hP hS ⊢
  have hP : va_P (dC, dI) cls [(out, .inl (cJ, 1, .inr (.inl (fun _ => 0))))] H := hP
  have hD : va_D A [(out, .inl (cJ, 1, .inr (.inl (fun _ => 0))))] := hD
  refine W.eq (g2 := F0 m 12 ls [.ref z1]) rfl ?_
  refine lv_astore_n hx hb d_La_tick_12 rfl hl (by decide) rfl (fun ls hl => ?_)
  have hl : lv_has ls 4 [(3, .ref z1), (0, .ref h0), (1, .int p0), (2, .ref out)] := hl
  refine lv_iconst (v := 1) hx hb d_La_tick_13 (by decide) ?_
  have hP9 := hP.sub (ws' := [(out, .inl (cJ, 1, .inr (.inl (fun _ => 0))))]) [0] rfl
  have hD9 := hD.sub (ws' := [(out, .inl (cJ, 1, .inr (.inl (fun _ => 0))))]) [0] (by decide) rfl
  have hK9 := hK.sub (tys' := [(cJ, .long)]) [0] rfl
  refine W.widen (k := 1) (n := 6) (Nat.le_of_ble_eq_true rfl) (Nat.le_of_ble_eq_true rfl) ?_
  exact W.iret (v := 1) hx hb hr (fun t ht hW => ⟨⟨_, (), rfl, rfl, by rw [ht]; exact hP9, va_K.moved hW.alike hK9, hD9⟩, hS.F ht⟩) hS.2.2 d_La_tick_14
set_option maxHeartbeats 4000000 in
set_option maxRecDepth 100000 in
theorem c_La_size (l : Launch) (hfl : l.flags = flags0) (dC : Nat → ClassId) (dI : Nat → Nat → Nat) (h0 : Nat) (out : Nat) (row : Nat) (nb : Nat) (wi : Nat) (ga : Nat) (sg : Nat) (tc : Nat) (st : Nat) (hp : Nat) (ec : Nat) (w1 : Nat) (w2 : Nat) (cJ : ClassId) (p0 : Int32) (sz : Nat) : Met l y_La_size [Cond.codeWith y_La_size b_La_size 4 (some .int) [(0, 9, 12, 32)]] ({ frames := 120, cells := 1, slots := 6, locals := 1800 }) (ux_PcH [.ref h0, .int p0, .ref out] (dC, dI) cls [(h0, .inr (0, [.ref row, .int 0, .int 0, .ref nb, .ref wi, .ref ga, .ref sg, .ref tc, .ref st, .ref hp, .ref ec, .ref row, .int 0, .int 0])), (wi, .inr (2, [.ref nb, .ref w1, .ref w2, .int 0, .int 0])), (out, .inl (cJ, 1, .inr (.inl (fun _ => 0))))] [(cJ, .long)] sz) (va_Qi (fun (r : Int32) (_ : Unit) => r = 1) (fun (_ : Unit) (t : State) => ux_B (dC, dI) cls (va_A [(h0, .inr (0, [.ref row, .int 0, .int 0, .ref nb, .ref wi, .ref ga, .ref sg, .ref tc, .ref st, .ref hp, .ref ec, .ref row, .int 0, .int 0])), (wi, .inr (2, [.ref nb, .ref w1, .ref w2, .int 0, .int 0])), (out, .inl (cJ, 1, .inr (.inl (fun _ => 0))))] sz) [(out, .inl (cJ, 1, .inr (.inl (fun _ => 0))))] [(cJ, .long)] t) (va_A [(h0, .inr (0, [.ref row, .int 0, .int 0, .ref nb, .ref wi, .ref ga, .ref sg, .ref tc, .ref st, .ref hp, .ref ec, .ref row, .int 0, .int 0])), (wi, .inr (2, [.ref nb, .ref w1, .ref w2, .int 0, .int 0])), (out, .inl (cJ, 1, .inr (.inl (fun _ => 0))))] sz)) 1 6 (va_A [(h0, .inr (0, [.ref row, .int 0, .int 0, .ref nb, .ref wi, .ref ga, .ref sg, .ref tc, .ref st, .ref hp, .ref ec, .ref row, .int 0, .int 0])), (wi, .inr (2, [.ref nb, .ref w1, .ref w2, .int 0, .int 0])), (out, .inl (cJ, 1, .inr (.inl (fun _ => 0))))] sz) := by
  refine va_MetW (hh := [(0, 9, 12, 32)]) (cc := b_La_size) (maxL := 4) (ret := some .int) (by decide) rfl ?_
  intro p e s m args below meth c s₁ B hml hv
  obtain ⟨⟨rfl, hsz, hP, hK, hD0, hT⟩, hH⟩ := hv
  have hx := B.exec
  have hb := B.bytes
  have hr := B.returns
  have hown : s.vm.findClass "UnikernelHttpLaw" = some m.cls := findClass_of_methodNamed B.named
  have hlocks := B.notSynchronized
  subst hsz
  have hD := hD0.self (sz := s.heap.size)
  have hns := ux_ns hP
  generalize hAe : va_A [(h0, .inr (0, [.ref row, .int 0, .int 0, .ref nb, .ref wi, .ref ga, .ref sg, .ref tc, .ref st, .ref hp, .ref ec, .ref row, .int 0, .int 0])), (wi, .inr (2, [.ref nb, .ref w1, .ref w2, .int 0, .int 0])), (out, .inl (cJ, 1, .inr (.inl (fun _ => 0))))] s.heap.size = A at hD hns ⊢
  have hA : ∀ q : Nat, s.heap.size ≤ q → A q := fun q h => by rw [← hAe]; exact Or.inr h
  have hS : va_S A s.heap s.heap [] := va_S.rf
  have hl := lv_entry ([.ref h0, .int p0, .ref out]) (n := 4) (Nat.le_of_ble_eq_true rfl)
  rw [lg_entry_eq]
  generalize (lg_sl ([.ref h0, .int p0, .ref out]) ++ List.replicate (4 - (lg_sl ([.ref h0, .int p0, .ref out])).length) Slot.unset).toArray = ls at hl ⊢
  have hl : lv_has ls 4 [(0, .ref h0), (1, .int p0), (2, .ref out)] := hl
  have hfx : CallFix p m c b_La_size 4 s ([.ref h0, .int p0, .ref out] : List Value).toArray [] "UnikernelHttpLaw" := ⟨hx, hb, hml, hown, fun _ h => by cases h⟩
  refine lv_aload_n hx hb d_La_size_0 rfl (lv_at hl 2 rfl) ?_
  refine lv_iconst (v := 0) hx hb d_La_size_1 (by decide) ?_
  refine lv_aload_n hx hb d_La_size_2 rfl (lv_at hl 0 rfl) ?_
  refine lv_iload_n hx hb d_La_size_3 rfl (lv_at hl 1 rfl) ?_
  have hPc := hP.sub (ws' := [(h0, .inr (0, [.ref row, .int 0, .int 0, .ref nb, .ref wi, .ref ga, .ref sg, .ref tc, .ref st, .ref hp, .ref ec, .ref row, .int 0, .int 0])), (wi, .inr (2, [.ref nb, .ref w1, .ref w2, .int 0, .int 0]))]) [0, 1] rfl
  have hDc := hD.sub (ws' := [(h0, .inr (0, [.ref row, .int 0, .int 0, .ref nb, .ref wi, .ref ga, .ref sg, .ref tc, .ref st, .ref hp, .ref ec, .ref row, .int 0, .int 0])), (wi, .inr (2, [.ref nb, .ref w1, .ref w2, .int 0, .int 0]))]) [0, 1] (by decide) rfl
  have hKc := hK.sub (tys' := []) [] rfl
  have hFc := va_free (wc := [(h0, .inr (0, [.ref row, .int 0, .int 0, .ref nb, .ref wi, .ref ga, .ref sg, .ref tc, .ref st, .ref hp, .ref ec, .ref row, .int 0, .int 0])), (wi, .inr (2, [.ref nb, .ref w1, .ref w2, .int 0, .int 0]))]) hD hS hA [0, 1] rfl
  have hkc : 0 + 1 ≤ 1 := (Nat.le_of_ble_eq_true rfl)
  obtain ⟨more, htab⟩ := ux_tab B (atoms_spec (ws := [Cond.codeWith y_La_size b_La_size 4 (some .int) [(0, 9, 12, 32)]]) B.pre _ List.mem_cons_self)
  refine ux_run (own := "UnikernelHttpLaw") (E := "java/lang/IndexOutOfBoundsException") (A0 := A) (H0 := s.heap) (As := [.int p0]) (rest := [.int 0, .ref out]) hfx (c_U_size l hfl dC dI h0 row nb wi ga sg tc st hp ec w1 w2 p0 s.heap.size) ⟨(ux_cb 1 hT tw_1430 tw_1427 tw_1 rfl rfl (by decide +kernel) ⟨(Nat.le_of_ble_eq_true rfl), (Nat.le_of_ble_eq_true rfl)⟩), (ux_T_at hT tw_1428 rfl), (ux_T_at hT tw_1429 rfl)⟩ (ux_preHV (r := (R_U, F_U, 14)) (ci := 0) (q0 := 0) [.int p0] hT hH (fun _ _ => rfl) hPc hKc hDc rfl rfl) htab (by decide) (by decide) (ux_T_at hT tw_1360 rfl) rfl hl.1 rfl (Nat.le_of_ble_eq_true rfl) d_La_size_4 ⟨(Nat.le_of_ble_eq_true rfl), (Nat.le_of_ble_eq_true rfl)⟩ hS (fun q h => hFc q h) (ux_XQ hFc) (fun v st₀ t H1 locs1 _ _ _ hq _ => (ux_Xno hq).elim) (fun z1 st₀ t H1 locs h0_ ht hal hq hS => ?_)
  have hk1 : ∀ q : Nat, q < s.heap.size → ¬ va_A [(h0, .inr (0, [.ref row, .int 0, .int 0, .ref nb, .ref wi, .ref ga, .ref sg, .ref tc, .ref st, .ref hp, .ref ec, .ref row, .int 0, .int 0])), (wi, .inr (2, [.ref nb, .ref w1, .ref w2, .int 0, .int 0]))] s.heap.size q → H1[q]? = s.heap[q]? := fun q h1 h2 => by rw [← ht, ← h0_]; exact hq.2.2 q (by rw [h0_]; exact h1) h2
  obtain ⟨hP, hD⟩ := va_join (wr := [(out, .inl (cJ, 1, .inr (.inl (fun _ => 0))))]) (w1 := []) hP hD [0, 1] [2] rfl rfl (by decide) (by decide) hk1 hFc ux_P0 ux_D0
  generalize H1 = H at hP hS ⊢
  have hP : va_P (dC, dI) cls [(out, .inl (cJ, 1, .inr (.inl (fun _ => 0))))] H := hP
  have hD : va_D A [(out, .inl (cJ, 1, .inr (.inl (fun _ => 0))))] := hD
  refine W.eq (g2 := F0 m 12 ls [.ref z1]) rfl ?_
  refine lv_astore_n hx hb d_La_size_12 rfl hl (by decide) rfl (fun ls hl => ?_)
  have hl : lv_has ls 4 [(3, .ref z1), (0, .ref h0), (1, .int p0), (2, .ref out)] := hl
  refine lv_iconst (v := 1) hx hb d_La_size_13 (by decide) ?_
  have hP9 := hP.sub (ws' := [(out, .inl (cJ, 1, .inr (.inl (fun _ => 0))))]) [0] rfl
  have hD9 := hD.sub (ws' := [(out, .inl (cJ, 1, .inr (.inl (fun _ => 0))))]) [0] (by decide) rfl
  have hK9 := hK.sub (tys' := [(cJ, .long)]) [0] rfl
  refine W.widen (k := 1) (n := 6) (Nat.le_of_ble_eq_true rfl) (Nat.le_of_ble_eq_true rfl) ?_
  exact W.iret (v := 1) hx hb hr (fun t ht hW => ⟨⟨_, (), rfl, rfl, by rw [ht]; exact hP9, va_K.moved hW.alike hK9, hD9⟩, hS.F ht⟩) hS.2.2 d_La_size_14
set_option maxHeartbeats 4000000 in
set_option maxRecDepth 100000 in
theorem c_La_bytes (l : Launch) (hfl : l.flags = flags0) (dC : Nat → ClassId) (dI : Nat → Nat → Nat) (h0 : Nat) (out : Nat) (row : Nat) (nb : Nat) (wi : Nat) (ga : Nat) (sg : Nat) (tc : Nat) (st : Nat) (hp : Nat) (ec : Nat) (w1 : Nat) (w2 : Nat) (cJ : ClassId) (p0 : Int32) (p1 : Int32) (sz : Nat) : Met l y_La_bytes [Cond.codeWith y_La_bytes b_La_bytes 5 (some .int) [(0, 9, 12, 32)]] ({ frames := 120, cells := 1, slots := 6, locals := 1800 }) (ux_PcH [.ref h0, .int p0, .int p1, .ref out] (dC, dI) cls [(h0, .inr (0, [.ref row, .int 0, .int 0, .ref nb, .ref wi, .ref ga, .ref sg, .ref tc, .ref st, .ref hp, .ref ec, .ref row, .int 0, .int 0])), (wi, .inr (2, [.ref nb, .ref w1, .ref w2, .int 0, .int 0])), (out, .inl (cJ, 1, .inr (.inl (fun _ => 0))))] [(cJ, .long)] sz) (va_Qi (fun (r : Int32) (_ : Unit) => r = 1) (fun (_ : Unit) (t : State) => ux_B (dC, dI) cls (va_A [(h0, .inr (0, [.ref row, .int 0, .int 0, .ref nb, .ref wi, .ref ga, .ref sg, .ref tc, .ref st, .ref hp, .ref ec, .ref row, .int 0, .int 0])), (wi, .inr (2, [.ref nb, .ref w1, .ref w2, .int 0, .int 0])), (out, .inl (cJ, 1, .inr (.inl (fun _ => 0))))] sz) [(out, .inl (cJ, 1, .inr (.inl (fun _ => 0))))] [(cJ, .long)] t) (va_A [(h0, .inr (0, [.ref row, .int 0, .int 0, .ref nb, .ref wi, .ref ga, .ref sg, .ref tc, .ref st, .ref hp, .ref ec, .ref row, .int 0, .int 0])), (wi, .inr (2, [.ref nb, .ref w1, .ref w2, .int 0, .int 0])), (out, .inl (cJ, 1, .inr (.inl (fun _ => 0))))] sz)) 1 6 (va_A [(h0, .inr (0, [.ref row, .int 0, .int 0, .ref nb, .ref wi, .ref ga, .ref sg, .ref tc, .ref st, .ref hp, .ref ec, .ref row, .int 0, .int 0])), (wi, .inr (2, [.ref nb, .ref w1, .ref w2, .int 0, .int 0])), (out, .inl (cJ, 1, .inr (.inl (fun _ => 0))))] sz) := by
  refine va_MetW (hh := [(0, 9, 12, 32)]) (cc := b_La_bytes) (maxL := 5) (ret := some .int) (by decide) rfl ?_
  intro p e s m args below meth c s₁ B hml hv
  obtain ⟨⟨rfl, hsz, hP, hK, hD0, hT⟩, hH⟩ := hv
  have hx := B.exec
  have hb := B.bytes
  have hr := B.returns
  have hown : s.vm.findClass "UnikernelHttpLaw" = some m.cls := findClass_of_methodNamed B.named
  have hlocks := B.notSynchronized
  subst hsz
  have hD := hD0.self (sz := s.heap.size)
  have hns := ux_ns hP
  generalize hAe : va_A [(h0, .inr (0, [.ref row, .int 0, .int 0, .ref nb, .ref wi, .ref ga, .ref sg, .ref tc, .ref st, .ref hp, .ref ec, .ref row, .int 0, .int 0])), (wi, .inr (2, [.ref nb, .ref w1, .ref w2, .int 0, .int 0])), (out, .inl (cJ, 1, .inr (.inl (fun _ => 0))))] s.heap.size = A at hD hns ⊢
  have hA : ∀ q : Nat, s.heap.size ≤ q → A q := fun q h => by rw [← hAe]; exact Or.inr h
  have hS : va_S A s.heap s.heap [] := va_S.rf
  have hl := lv_entry ([.ref h0, .int p0, .int p1, .ref out]) (n := 5) (Nat.le_of_ble_eq_true rfl)
  rw [lg_entry_eq]
  generalize (lg_sl ([.ref h0, .int p0, .int p1, .ref out]) ++ List.replicate (5 - (lg_sl ([.ref h0, .int p0, .int p1, .ref out])).length) Slot.unset).toArray = ls at hl ⊢
  have hl : lv_has ls 5 [(0, .ref h0), (1, .int p0), (2, .int p1), (3, .ref out)] := hl
  have hfx : CallFix p m c b_La_bytes 5 s ([.ref h0, .int p0, .int p1, .ref out] : List Value).toArray [] "UnikernelHttpLaw" := ⟨hx, hb, hml, hown, fun _ h => by cases h⟩
  refine lv_aload_n hx hb d_La_bytes_0 rfl (lv_at hl 3 rfl) ?_
  refine lv_iconst (v := 0) hx hb d_La_bytes_1 (by decide) ?_
  refine lv_aload_n hx hb d_La_bytes_2 rfl (lv_at hl 0 rfl) ?_
  refine lv_iload_n hx hb d_La_bytes_3 rfl (lv_at hl 1 rfl) ?_
  refine lv_iload_n hx hb d_La_bytes_4 rfl (lv_at hl 2 rfl) ?_
  have hPc := hP.sub (ws' := [(h0, .inr (0, [.ref row, .int 0, .int 0, .ref nb, .ref wi, .ref ga, .ref sg, .ref tc, .ref st, .ref hp, .ref ec, .ref row, .int 0, .int 0])), (wi, .inr (2, [.ref nb, .ref w1, .ref w2, .int 0, .int 0]))]) [0, 1] rfl
  have hDc := hD.sub (ws' := [(h0, .inr (0, [.ref row, .int 0, .int 0, .ref nb, .ref wi, .ref ga, .ref sg, .ref tc, .ref st, .ref hp, .ref ec, .ref row, .int 0, .int 0])), (wi, .inr (2, [.ref nb, .ref w1, .ref w2, .int 0, .int 0]))]) [0, 1] (by decide) rfl
  have hKc := hK.sub (tys' := []) [] rfl
  have hFc := va_free (wc := [(h0, .inr (0, [.ref row, .int 0, .int 0, .ref nb, .ref wi, .ref ga, .ref sg, .ref tc, .ref st, .ref hp, .ref ec, .ref row, .int 0, .int 0])), (wi, .inr (2, [.ref nb, .ref w1, .ref w2, .int 0, .int 0]))]) hD hS hA [0, 1] rfl
  have hkc : 0 + 1 ≤ 1 := (Nat.le_of_ble_eq_true rfl)
  obtain ⟨more, htab⟩ := ux_tab B (atoms_spec (ws := [Cond.codeWith y_La_bytes b_La_bytes 5 (some .int) [(0, 9, 12, 32)]]) B.pre _ List.mem_cons_self)
  refine ux_run (own := "UnikernelHttpLaw") (E := "java/lang/IndexOutOfBoundsException") (A0 := A) (H0 := s.heap) (As := [.int p0, .int p1]) (rest := [.int 0, .ref out]) hfx (c_U_bytes l hfl dC dI h0 row nb wi ga sg tc st hp ec w1 w2 p0 p1 s.heap.size) ⟨(ux_cb 2 hT tw_1442 tw_1439 tw_1 rfl rfl (by decide +kernel) ⟨(Nat.le_of_ble_eq_true rfl), (Nat.le_of_ble_eq_true rfl)⟩), (ux_T_at hT tw_1440 rfl), (ux_T_at hT tw_1441 rfl)⟩ (ux_preHV (r := (R_U, F_U, 14)) (ci := 0) (q0 := 0) [.int p0, .int p1] hT hH (fun _ _ => rfl) hPc hKc hDc rfl rfl) htab (by decide) (by decide) (ux_T_at hT tw_1360 rfl) rfl hl.1 rfl (Nat.le_of_ble_eq_true rfl) d_La_bytes_5 ⟨(Nat.le_of_ble_eq_true rfl), (Nat.le_of_ble_eq_true rfl)⟩ hS (fun q h => hFc q h) (ux_XQ hFc) (fun v st₀ t H1 locs1 _ _ _ hq _ => (ux_Xno hq).elim) (fun z1 st₀ t H1 locs h0_ ht hal hq hS => ?_)
  have hk1 : ∀ q : Nat, q < s.heap.size → ¬ va_A [(h0, .inr (0, [.ref row, .int 0, .int 0, .ref nb, .ref wi, .ref ga, .ref sg, .ref tc, .ref st, .ref hp, .ref ec, .ref row, .int 0, .int 0])), (wi, .inr (2, [.ref nb, .ref w1, .ref w2, .int 0, .int 0]))] s.heap.size q → H1[q]? = s.heap[q]? := fun q h1 h2 => by rw [← ht, ← h0_]; exact hq.2.2 q (by rw [h0_]; exact h1) h2
  obtain ⟨hP, hD⟩ := va_join (wr := [(out, .inl (cJ, 1, .inr (.inl (fun _ => 0))))]) (w1 := []) hP hD [0, 1] [2] rfl rfl (by decide) (by decide) hk1 hFc ux_P0 ux_D0
  generalize H1 = H at hP hS ⊢
  have hP : va_P (dC, dI) cls [(out, .inl (cJ, 1, .inr (.inl (fun _ => 0))))] H := hP
  have hD : va_D A [(out, .inl (cJ, 1, .inr (.inl (fun _ => 0))))] := hD
  refine W.eq (g2 := F0 m 12 ls [.ref z1]) rfl ?_
  refine lv_astore hx hb d_La_bytes_12 hl (by decide) rfl (fun ls hl => ?_)
  have hl : lv_has ls 5 [(4, .ref z1), (0, .ref h0), (1, .int p0), (2, .int p1), (3, .ref out)] := hl
  refine lv_iconst (v := 1) hx hb d_La_bytes_14 (by decide) ?_
  have hP9 := hP.sub (ws' := [(out, .inl (cJ, 1, .inr (.inl (fun _ => 0))))]) [0] rfl
  have hD9 := hD.sub (ws' := [(out, .inl (cJ, 1, .inr (.inl (fun _ => 0))))]) [0] (by decide) rfl
  have hK9 := hK.sub (tys' := [(cJ, .long)]) [0] rfl
  refine W.widen (k := 1) (n := 6) (Nat.le_of_ble_eq_true rfl) (Nat.le_of_ble_eq_true rfl) ?_
  exact W.iret (v := 1) hx hb hr (fun t ht hW => ⟨⟨_, (), rfl, rfl, by rw [ht]; exact hP9, va_K.moved hW.alike hK9, hD9⟩, hS.F ht⟩) hS.2.2 d_La_bytes_15
set_option maxHeartbeats 4000000 in
set_option maxRecDepth 100000 in
theorem c_La_count_0 (l : Launch) (dC : Nat → ClassId) (dI : Nat → Nat → Nat) (h0 : Nat) (out : Nat) (row : Nat) (nb : Nat) (wi : Nat) (ga : Nat) (sg : Nat) (tc : Nat) (st : Nat) (hp : Nat) (ec : Nat) (w1 : Nat) (w2 : Nat) (t1 : Nat) (t2 : Nat) (n1 : Nat) (n2 : Nat) (n3 : Nat) (g1 : Nat) (s1 : Nat) (s2 : Nat) (s3 : Nat) (s4 : Nat) (s5 : Nat) (cJ : ClassId) (sz : Nat) : Met l y_La_count [Cond.codeWith y_La_count b_La_count 4 (some .int) [(0, 9, 12, 19)]] ({ frames := 120, cells := 0, slots := 0, locals := 1800 }) (ux_Pc [.ref h0, .int 0, .ref out] (dC, dI) cls [(h0, .inr (0, [.ref row, .int 0, .int 0, .ref nb, .ref wi, .ref ga, .ref sg, .ref tc, .ref st, .ref hp, .ref ec, .ref row, .int 0, .int 0])), (wi, .inr (2, [.ref nb, .ref w1, .ref w2, .int 0, .int 0])), (tc, .inr (6, [.ref t1, .ref t2, .ref wi, .int 0, .int 0])), (nb, .inr (1, [.ref n1, .ref n2, .ref n3, .int 0, .int 0])), (ga, .inr (3, [.ref g1, .int 0])), (st, .inr (10, [.ref s1, .ref s2, .ref s3, .ref s4, .ref s5, .int 0])), (out, .inl (cJ, 1, .inr (.inl (fun _ => 0))))] [(cJ, .long)] sz) (va_Qi (fun (r : Int32) (_ : Unit) => r = 0) (fun (_ : Unit) (t : State) => ux_B (dC, dI) cls (va_A [(h0, .inr (0, [.ref row, .int 0, .int 0, .ref nb, .ref wi, .ref ga, .ref sg, .ref tc, .ref st, .ref hp, .ref ec, .ref row, .int 0, .int 0])), (wi, .inr (2, [.ref nb, .ref w1, .ref w2, .int 0, .int 0])), (tc, .inr (6, [.ref t1, .ref t2, .ref wi, .int 0, .int 0])), (nb, .inr (1, [.ref n1, .ref n2, .ref n3, .int 0, .int 0])), (ga, .inr (3, [.ref g1, .int 0])), (st, .inr (10, [.ref s1, .ref s2, .ref s3, .ref s4, .ref s5, .int 0])), (out, .inl (cJ, 1, .inr (.inl (fun _ => 0))))] sz) [(out, .inl (cJ, 1, .inr (.inl (vp_updL (fun _ => 0) (0 : Int32).toNatClampNeg 0))))] [(cJ, .long)] t) (va_A [(h0, .inr (0, [.ref row, .int 0, .int 0, .ref nb, .ref wi, .ref ga, .ref sg, .ref tc, .ref st, .ref hp, .ref ec, .ref row, .int 0, .int 0])), (wi, .inr (2, [.ref nb, .ref w1, .ref w2, .int 0, .int 0])), (tc, .inr (6, [.ref t1, .ref t2, .ref wi, .int 0, .int 0])), (nb, .inr (1, [.ref n1, .ref n2, .ref n3, .int 0, .int 0])), (ga, .inr (3, [.ref g1, .int 0])), (st, .inr (10, [.ref s1, .ref s2, .ref s3, .ref s4, .ref s5, .int 0])), (out, .inl (cJ, 1, .inr (.inl (fun _ => 0))))] sz)) 0 0 (va_A [(h0, .inr (0, [.ref row, .int 0, .int 0, .ref nb, .ref wi, .ref ga, .ref sg, .ref tc, .ref st, .ref hp, .ref ec, .ref row, .int 0, .int 0])), (wi, .inr (2, [.ref nb, .ref w1, .ref w2, .int 0, .int 0])), (tc, .inr (6, [.ref t1, .ref t2, .ref wi, .int 0, .int 0])), (nb, .inr (1, [.ref n1, .ref n2, .ref n3, .int 0, .int 0])), (ga, .inr (3, [.ref g1, .int 0])), (st, .inr (10, [.ref s1, .ref s2, .ref s3, .ref s4, .ref s5, .int 0])), (out, .inl (cJ, 1, .inr (.inl (fun _ => 0))))] sz) := by
  refine va_MetW (hh := [(0, 9, 12, 19)]) (cc := b_La_count) (maxL := 4) (ret := some .int) (by decide) rfl ?_
  intro p e s m args below meth c s₁ B hml hv
  obtain ⟨rfl, hsz, hP, hK, hD0, hT⟩ := hv
  have hx := B.exec
  have hb := B.bytes
  have hr := B.returns
  have hown : s.vm.findClass "UnikernelHttpLaw" = some m.cls := findClass_of_methodNamed B.named
  have hlocks := B.notSynchronized
  subst hsz
  have hD := hD0.self (sz := s.heap.size)
  have hns := ux_ns hP
  generalize hAe : va_A [(h0, .inr (0, [.ref row, .int 0, .int 0, .ref nb, .ref wi, .ref ga, .ref sg, .ref tc, .ref st, .ref hp, .ref ec, .ref row, .int 0, .int 0])), (wi, .inr (2, [.ref nb, .ref w1, .ref w2, .int 0, .int 0])), (tc, .inr (6, [.ref t1, .ref t2, .ref wi, .int 0, .int 0])), (nb, .inr (1, [.ref n1, .ref n2, .ref n3, .int 0, .int 0])), (ga, .inr (3, [.ref g1, .int 0])), (st, .inr (10, [.ref s1, .ref s2, .ref s3, .ref s4, .ref s5, .int 0])), (out, .inl (cJ, 1, .inr (.inl (fun _ => 0))))] s.heap.size = A at hD hns ⊢
  have hA : ∀ q : Nat, s.heap.size ≤ q → A q := fun q h => by rw [← hAe]; exact Or.inr h
  have hS : va_S A s.heap s.heap [] := va_S.rf
  have hl := lv_entry ([.ref h0, .int 0, .ref out]) (n := 4) (Nat.le_of_ble_eq_true rfl)
  rw [lg_entry_eq]
  generalize (lg_sl ([.ref h0, .int 0, .ref out]) ++ List.replicate (4 - (lg_sl ([.ref h0, .int 0, .ref out])).length) Slot.unset).toArray = ls at hl ⊢
  have hl : lv_has ls 4 [(0, .ref h0), (1, .int 0), (2, .ref out)] := hl
  have hfx : CallFix p m c b_La_count 4 s ([.ref h0, .int 0, .ref out] : List Value).toArray [] "UnikernelHttpLaw" := ⟨hx, hb, hml, hown, fun _ h => by cases h⟩
  refine lv_aload_n hx hb d_La_count_0 rfl (lv_at hl 2 rfl) ?_
  refine lv_iconst (v := 0) hx hb d_La_count_1 (by decide) ?_
  refine lv_aload_n hx hb d_La_count_2 rfl (lv_at hl 0 rfl) ?_
  refine lv_iload_n hx hb d_La_count_3 rfl (lv_at hl 1 rfl) ?_
  have hPc := hP.sub (ws' := [(h0, .inr (0, [.ref row, .int 0, .int 0, .ref nb, .ref wi, .ref ga, .ref sg, .ref tc, .ref st, .ref hp, .ref ec, .ref row, .int 0, .int 0])), (wi, .inr (2, [.ref nb, .ref w1, .ref w2, .int 0, .int 0])), (tc, .inr (6, [.ref t1, .ref t2, .ref wi, .int 0, .int 0])), (nb, .inr (1, [.ref n1, .ref n2, .ref n3, .int 0, .int 0])), (ga, .inr (3, [.ref g1, .int 0])), (st, .inr (10, [.ref s1, .ref s2, .ref s3, .ref s4, .ref s5, .int 0]))]) [0, 1, 2, 3, 4, 5] rfl
  have hDc := hD.sub (ws' := [(h0, .inr (0, [.ref row, .int 0, .int 0, .ref nb, .ref wi, .ref ga, .ref sg, .ref tc, .ref st, .ref hp, .ref ec, .ref row, .int 0, .int 0])), (wi, .inr (2, [.ref nb, .ref w1, .ref w2, .int 0, .int 0])), (tc, .inr (6, [.ref t1, .ref t2, .ref wi, .int 0, .int 0])), (nb, .inr (1, [.ref n1, .ref n2, .ref n3, .int 0, .int 0])), (ga, .inr (3, [.ref g1, .int 0])), (st, .inr (10, [.ref s1, .ref s2, .ref s3, .ref s4, .ref s5, .int 0]))]) [0, 1, 2, 3, 4, 5] (by decide) rfl
  have hKc := hK.sub (tys' := []) [] rfl
  have hFc := va_free (wc := [(h0, .inr (0, [.ref row, .int 0, .int 0, .ref nb, .ref wi, .ref ga, .ref sg, .ref tc, .ref st, .ref hp, .ref ec, .ref row, .int 0, .int 0])), (wi, .inr (2, [.ref nb, .ref w1, .ref w2, .int 0, .int 0])), (tc, .inr (6, [.ref t1, .ref t2, .ref wi, .int 0, .int 0])), (nb, .inr (1, [.ref n1, .ref n2, .ref n3, .int 0, .int 0])), (ga, .inr (3, [.ref g1, .int 0])), (st, .inr (10, [.ref s1, .ref s2, .ref s3, .ref s4, .ref s5, .int 0]))]) hD hS hA [0, 1, 2, 3, 4, 5] rfl
  have hkc : 0 + 0 ≤ 0 := (Nat.le_of_ble_eq_true rfl)
  refine va_calli (va_runV (As := [.int 0]) (rest := [.int 0, .ref out]) hfx (c_U_count_0 l dC dI h0 row nb wi ga sg tc st hp ec w1 w2 t1 t2 n1 n2 n3 g1 s1 s2 s3 s4 s5 s.heap.size) ⟨(ux_cb 1 hT tw_1454 tw_1451 tw_1 rfl rfl (by decide +kernel) ⟨(Nat.le_of_ble_eq_true rfl), (Nat.le_of_ble_eq_true rfl)⟩), (ux_T_at hT tw_1452 rfl), (ux_T_at hT tw_1453 rfl)⟩ (ux_preV (r := (R_U, F_U, 14)) (ci := 0) (q0 := 0) [.int 0] hT hPc hKc hDc rfl rfl) rfl rfl hl.1 rfl (lv_room (Nat.le_of_ble_eq_true rfl)) d_La_count_4 ⟨(Nat.le_of_ble_eq_true rfl), (Nat.le_of_ble_eq_true rfl)⟩) hS (fun q _ h => hFc q h) hFc (fun r1 u t H1 locs ht hvm hw hB hz1 hk1 hS => ?_)
  obtain ⟨hP1, hK1, hD1⟩ := hB
  rw [ht] at hP1
  have hK1 := va_K.moved hvm.symm hK1
  obtain ⟨hP, hD⟩ := va_join (wr := [(out, .inl (cJ, 1, .inr (.inl (fun _ => 0))))]) (w1 := []) hP hD [0, 1, 2, 3, 4, 5] [6] rfl rfl (by decide) (by decide) hk1 hFc hP1 hD1
  have hK := (hK.sub (tys' := [(cJ, .long)]) [0] rfl).app hK1
  generalize H1 = H at hP hS ⊢
  have hP : va_P (dC, dI) cls [(out, .inl (cJ, 1, .inr (.inl (fun _ => 0))))] H := hP
  have hD : va_D A [(out, .inl (cJ, 1, .inr (.inl (fun _ => 0))))] := hD
  have hK : va_K (dC, dI) cls [(cJ, .long)] s := hK
  obtain rfl : r1 = 0 := hw
  refine lv_i2l (v := 0) hx hb d_La_count_7 (by decide) ?_
  refine va_last hx hb hK hP hD hS 0 0 rfl rfl (i := 0) (show ¬ ((0 : Int32) < 0 ∨ 1 ≤ (0 : Int32).toNatClampNeg) by decide) d_La_count_8 (fun H locs hP hD hS => ?_)
  have hP : va_P (dC, dI) cls [(out, .inl (cJ, 1, .inr (.inl (vp_updL (fun _ => 0) (0 : Int32).toNatClampNeg 0))))] H := hP
  have hD : va_D A [(out, .inl (cJ, 1, .inr (.inl (vp_updL (fun _ => 0) (0 : Int32).toNatClampNeg 0))))] := hD
  refine lv_goto hx hb d_La_count_9 (tgt := 15) (by decide) ?_
  refine lv_iconst (v := 0) hx hb d_La_count_15 (by decide) ?_
  have hP9 := hP.sub (ws' := [(out, .inl (cJ, 1, .inr (.inl (vp_updL (fun _ => 0) (0 : Int32).toNatClampNeg 0))))]) [0] rfl
  have hD9 := hD.sub (ws' := [(out, .inl (cJ, 1, .inr (.inl (vp_updL (fun _ => 0) (0 : Int32).toNatClampNeg 0))))]) [0] (by decide) rfl
  have hK9 := hK.sub (tys' := [(cJ, .long)]) [0] rfl
  refine W.widen (k := 0) (n := 0) (Nat.le_of_ble_eq_true rfl) (Nat.le_of_ble_eq_true rfl) ?_
  exact W.iret (v := 0) hx hb hr (fun t ht hW => ⟨⟨_, (), rfl, rfl, by rw [ht]; exact hP9, va_K.moved hW.alike hK9, hD9⟩, hS.F ht⟩) hS.2.2 d_La_count_16
set_option maxHeartbeats 4000000 in
set_option maxRecDepth 100000 in
theorem c_La_count_1 (l : Launch) (dC : Nat → ClassId) (dI : Nat → Nat → Nat) (h0 : Nat) (out : Nat) (row : Nat) (nb : Nat) (wi : Nat) (ga : Nat) (sg : Nat) (tc : Nat) (st : Nat) (hp : Nat) (ec : Nat) (w1 : Nat) (w2 : Nat) (t1 : Nat) (t2 : Nat) (n1 : Nat) (n2 : Nat) (n3 : Nat) (g1 : Nat) (s1 : Nat) (s2 : Nat) (s3 : Nat) (s4 : Nat) (s5 : Nat) (cJ : ClassId) (sz : Nat) : Met l y_La_count [Cond.codeWith y_La_count b_La_count 4 (some .int) [(0, 9, 12, 19)]] ({ frames := 120, cells := 0, slots := 0, locals := 1800 }) (ux_Pc [.ref h0, .int 1, .ref out] (dC, dI) cls [(h0, .inr (0, [.ref row, .int 0, .int 0, .ref nb, .ref wi, .ref ga, .ref sg, .ref tc, .ref st, .ref hp, .ref ec, .ref row, .int 0, .int 0])), (wi, .inr (2, [.ref nb, .ref w1, .ref w2, .int 0, .int 0])), (tc, .inr (6, [.ref t1, .ref t2, .ref wi, .int 0, .int 0])), (nb, .inr (1, [.ref n1, .ref n2, .ref n3, .int 0, .int 0])), (ga, .inr (3, [.ref g1, .int 0])), (st, .inr (10, [.ref s1, .ref s2, .ref s3, .ref s4, .ref s5, .int 0])), (out, .inl (cJ, 1, .inr (.inl (fun _ => 0))))] [(cJ, .long)] sz) (va_Qi (fun (r : Int32) (_ : Unit) => r = 0) (fun (_ : Unit) (t : State) => ux_B (dC, dI) cls (va_A [(h0, .inr (0, [.ref row, .int 0, .int 0, .ref nb, .ref wi, .ref ga, .ref sg, .ref tc, .ref st, .ref hp, .ref ec, .ref row, .int 0, .int 0])), (wi, .inr (2, [.ref nb, .ref w1, .ref w2, .int 0, .int 0])), (tc, .inr (6, [.ref t1, .ref t2, .ref wi, .int 0, .int 0])), (nb, .inr (1, [.ref n1, .ref n2, .ref n3, .int 0, .int 0])), (ga, .inr (3, [.ref g1, .int 0])), (st, .inr (10, [.ref s1, .ref s2, .ref s3, .ref s4, .ref s5, .int 0])), (out, .inl (cJ, 1, .inr (.inl (fun _ => 0))))] sz) [(out, .inl (cJ, 1, .inr (.inl (vp_updL (fun _ => 0) (0 : Int32).toNatClampNeg 0))))] [(cJ, .long)] t) (va_A [(h0, .inr (0, [.ref row, .int 0, .int 0, .ref nb, .ref wi, .ref ga, .ref sg, .ref tc, .ref st, .ref hp, .ref ec, .ref row, .int 0, .int 0])), (wi, .inr (2, [.ref nb, .ref w1, .ref w2, .int 0, .int 0])), (tc, .inr (6, [.ref t1, .ref t2, .ref wi, .int 0, .int 0])), (nb, .inr (1, [.ref n1, .ref n2, .ref n3, .int 0, .int 0])), (ga, .inr (3, [.ref g1, .int 0])), (st, .inr (10, [.ref s1, .ref s2, .ref s3, .ref s4, .ref s5, .int 0])), (out, .inl (cJ, 1, .inr (.inl (fun _ => 0))))] sz)) 0 0 (va_A [(h0, .inr (0, [.ref row, .int 0, .int 0, .ref nb, .ref wi, .ref ga, .ref sg, .ref tc, .ref st, .ref hp, .ref ec, .ref row, .int 0, .int 0])), (wi, .inr (2, [.ref nb, .ref w1, .ref w2, .int 0, .int 0])), (tc, .inr (6, [.ref t1, .ref t2, .ref wi, .int 0, .int 0])), (nb, .inr (1, [.ref n1, .ref n2, .ref n3, .int 0, .int 0])), (ga, .inr (3, [.ref g1, .int 0])), (st, .inr (10, [.ref s1, .ref s2, .ref s3, .ref s4, .ref s5, .int 0])), (out, .inl (cJ, 1, .inr (.inl (fun _ => 0))))] sz) := by
  refine va_MetW (hh := [(0, 9, 12, 19)]) (cc := b_La_count) (maxL := 4) (ret := some .int) (by decide) rfl ?_
  intro p e s m args below meth c s₁ B hml hv
  obtain ⟨rfl, hsz, hP, hK, hD0, hT⟩ := hv
  have hx := B.exec
  have hb := B.bytes
  have hr := B.returns
  have hown : s.vm.findClass "UnikernelHttpLaw" = some m.cls := findClass_of_methodNamed B.named
  have hlocks := B.notSynchronized
  subst hsz
  have hD := hD0.self (sz := s.heap.size)
  have hns := ux_ns hP
  generalize hAe : va_A [(h0, .inr (0, [.ref row, .int 0, .int 0, .ref nb, .ref wi, .ref ga, .ref sg, .ref tc, .ref st, .ref hp, .ref ec, .ref row, .int 0, .int 0])), (wi, .inr (2, [.ref nb, .ref w1, .ref w2, .int 0, .int 0])), (tc, .inr (6, [.ref t1, .ref t2, .ref wi, .int 0, .int 0])), (nb, .inr (1, [.ref n1, .ref n2, .ref n3, .int 0, .int 0])), (ga, .inr (3, [.ref g1, .int 0])), (st, .inr (10, [.ref s1, .ref s2, .ref s3, .ref s4, .ref s5, .int 0])), (out, .inl (cJ, 1, .inr (.inl (fun _ => 0))))] s.heap.size = A at hD hns ⊢
  have hA : ∀ q : Nat, s.heap.size ≤ q → A q := fun q h => by rw [← hAe]; exact Or.inr h
  have hS : va_S A s.heap s.heap [] := va_S.rf
  have hl := lv_entry ([.ref h0, .int 1, .ref out]) (n := 4) (Nat.le_of_ble_eq_true rfl)
  rw [lg_entry_eq]
  generalize (lg_sl ([.ref h0, .int 1, .ref out]) ++ List.replicate (4 - (lg_sl ([.ref h0, .int 1, .ref out])).length) Slot.unset).toArray = ls at hl ⊢
  have hl : lv_has ls 4 [(0, .ref h0), (1, .int 1), (2, .ref out)] := hl
  have hfx : CallFix p m c b_La_count 4 s ([.ref h0, .int 1, .ref out] : List Value).toArray [] "UnikernelHttpLaw" := ⟨hx, hb, hml, hown, fun _ h => by cases h⟩
  refine lv_aload_n hx hb d_La_count_0 rfl (lv_at hl 2 rfl) ?_
  refine lv_iconst (v := 0) hx hb d_La_count_1 (by decide) ?_
  refine lv_aload_n hx hb d_La_count_2 rfl (lv_at hl 0 rfl) ?_
  refine lv_iload_n hx hb d_La_count_3 rfl (lv_at hl 1 rfl) ?_
  have hPc := hP.sub (ws' := [(h0, .inr (0, [.ref row, .int 0, .int 0, .ref nb, .ref wi, .ref ga, .ref sg, .ref tc, .ref st, .ref hp, .ref ec, .ref row, .int 0, .int 0])), (wi, .inr (2, [.ref nb, .ref w1, .ref w2, .int 0, .int 0])), (tc, .inr (6, [.ref t1, .ref t2, .ref wi, .int 0, .int 0])), (nb, .inr (1, [.ref n1, .ref n2, .ref n3, .int 0, .int 0])), (ga, .inr (3, [.ref g1, .int 0])), (st, .inr (10, [.ref s1, .ref s2, .ref s3, .ref s4, .ref s5, .int 0]))]) [0, 1, 2, 3, 4, 5] rfl
  have hDc := hD.sub (ws' := [(h0, .inr (0, [.ref row, .int 0, .int 0, .ref nb, .ref wi, .ref ga, .ref sg, .ref tc, .ref st, .ref hp, .ref ec, .ref row, .int 0, .int 0])), (wi, .inr (2, [.ref nb, .ref w1, .ref w2, .int 0, .int 0])), (tc, .inr (6, [.ref t1, .ref t2, .ref wi, .int 0, .int 0])), (nb, .inr (1, [.ref n1, .ref n2, .ref n3, .int 0, .int 0])), (ga, .inr (3, [.ref g1, .int 0])), (st, .inr (10, [.ref s1, .ref s2, .ref s3, .ref s4, .ref s5, .int 0]))]) [0, 1, 2, 3, 4, 5] (by decide) rfl
  have hKc := hK.sub (tys' := []) [] rfl
  have hFc := va_free (wc := [(h0, .inr (0, [.ref row, .int 0, .int 0, .ref nb, .ref wi, .ref ga, .ref sg, .ref tc, .ref st, .ref hp, .ref ec, .ref row, .int 0, .int 0])), (wi, .inr (2, [.ref nb, .ref w1, .ref w2, .int 0, .int 0])), (tc, .inr (6, [.ref t1, .ref t2, .ref wi, .int 0, .int 0])), (nb, .inr (1, [.ref n1, .ref n2, .ref n3, .int 0, .int 0])), (ga, .inr (3, [.ref g1, .int 0])), (st, .inr (10, [.ref s1, .ref s2, .ref s3, .ref s4, .ref s5, .int 0]))]) hD hS hA [0, 1, 2, 3, 4, 5] rfl
  have hkc : 0 + 0 ≤ 0 := (Nat.le_of_ble_eq_true rfl)
  refine va_calli (va_runV (As := [.int 1]) (rest := [.int 0, .ref out]) hfx (c_U_count_1 l dC dI h0 row nb wi ga sg tc st hp ec w1 w2 t1 t2 n1 n2 n3 g1 s1 s2 s3 s4 s5 s.heap.size) ⟨(ux_cb 1 hT tw_1454 tw_1451 tw_1 rfl rfl (by decide +kernel) ⟨(Nat.le_of_ble_eq_true rfl), (Nat.le_of_ble_eq_true rfl)⟩), (ux_T_at hT tw_1452 rfl), (ux_T_at hT tw_1453 rfl)⟩ (ux_preV (r := (R_U, F_U, 14)) (ci := 0) (q0 := 0) [.int 1] hT hPc hKc hDc rfl rfl) rfl rfl hl.1 rfl (lv_room (Nat.le_of_ble_eq_true rfl)) d_La_count_4 ⟨(Nat.le_of_ble_eq_true rfl), (Nat.le_of_ble_eq_true rfl)⟩) hS (fun q _ h => hFc q h) hFc (fun r1 u t H1 locs ht hvm hw hB hz1 hk1 hS => ?_)
  obtain ⟨hP1, hK1, hD1⟩ := hB
  rw [ht] at hP1
  have hK1 := va_K.moved hvm.symm hK1
  obtain ⟨hP, hD⟩ := va_join (wr := [(out, .inl (cJ, 1, .inr (.inl (fun _ => 0))))]) (w1 := []) hP hD [0, 1, 2, 3, 4, 5] [6] rfl rfl (by decide) (by decide) hk1 hFc hP1 hD1
  have hK := (hK.sub (tys' := [(cJ, .long)]) [0] rfl).app hK1
  generalize H1 = H at hP hS ⊢
  have hP : va_P (dC, dI) cls [(out, .inl (cJ, 1, .inr (.inl (fun _ => 0))))] H := hP
  have hD : va_D A [(out, .inl (cJ, 1, .inr (.inl (fun _ => 0))))] := hD
  have hK : va_K (dC, dI) cls [(cJ, .long)] s := hK
  obtain rfl : r1 = 0 := hw
  refine lv_i2l (v := 0) hx hb d_La_count_7 (by decide) ?_
  refine va_last hx hb hK hP hD hS 0 0 rfl rfl (i := 0) (show ¬ ((0 : Int32) < 0 ∨ 1 ≤ (0 : Int32).toNatClampNeg) by decide) d_La_count_8 (fun H locs hP hD hS => ?_)
  have hP : va_P (dC, dI) cls [(out, .inl (cJ, 1, .inr (.inl (vp_updL (fun _ => 0) (0 : Int32).toNatClampNeg 0))))] H := hP
  have hD : va_D A [(out, .inl (cJ, 1, .inr (.inl (vp_updL (fun _ => 0) (0 : Int32).toNatClampNeg 0))))] := hD
  refine lv_goto hx hb d_La_count_9 (tgt := 15) (by decide) ?_
  refine lv_iconst (v := 0) hx hb d_La_count_15 (by decide) ?_
  have hP9 := hP.sub (ws' := [(out, .inl (cJ, 1, .inr (.inl (vp_updL (fun _ => 0) (0 : Int32).toNatClampNeg 0))))]) [0] rfl
  have hD9 := hD.sub (ws' := [(out, .inl (cJ, 1, .inr (.inl (vp_updL (fun _ => 0) (0 : Int32).toNatClampNeg 0))))]) [0] (by decide) rfl
  have hK9 := hK.sub (tys' := [(cJ, .long)]) [0] rfl
  refine W.widen (k := 0) (n := 0) (Nat.le_of_ble_eq_true rfl) (Nat.le_of_ble_eq_true rfl) ?_
  exact W.iret (v := 0) hx hb hr (fun t ht hW => ⟨⟨_, (), rfl, rfl, by rw [ht]; exact hP9, va_K.moved hW.alike hK9, hD9⟩, hS.F ht⟩) hS.2.2 d_La_count_16
set_option maxHeartbeats 4000000 in
set_option maxRecDepth 100000 in
theorem c_La_count_2 (l : Launch) (dC : Nat → ClassId) (dI : Nat → Nat → Nat) (h0 : Nat) (out : Nat) (row : Nat) (nb : Nat) (wi : Nat) (ga : Nat) (sg : Nat) (tc : Nat) (st : Nat) (hp : Nat) (ec : Nat) (w1 : Nat) (w2 : Nat) (t1 : Nat) (t2 : Nat) (n1 : Nat) (n2 : Nat) (n3 : Nat) (g1 : Nat) (s1 : Nat) (s2 : Nat) (s3 : Nat) (s4 : Nat) (s5 : Nat) (cJ : ClassId) (sz : Nat) : Met l y_La_count [Cond.codeWith y_La_count b_La_count 4 (some .int) [(0, 9, 12, 19)]] ({ frames := 120, cells := 0, slots := 0, locals := 1800 }) (ux_Pc [.ref h0, .int 2, .ref out] (dC, dI) cls [(h0, .inr (0, [.ref row, .int 0, .int 0, .ref nb, .ref wi, .ref ga, .ref sg, .ref tc, .ref st, .ref hp, .ref ec, .ref row, .int 0, .int 0])), (wi, .inr (2, [.ref nb, .ref w1, .ref w2, .int 0, .int 0])), (tc, .inr (6, [.ref t1, .ref t2, .ref wi, .int 0, .int 0])), (nb, .inr (1, [.ref n1, .ref n2, .ref n3, .int 0, .int 0])), (ga, .inr (3, [.ref g1, .int 0])), (st, .inr (10, [.ref s1, .ref s2, .ref s3, .ref s4, .ref s5, .int 0])), (out, .inl (cJ, 1, .inr (.inl (fun _ => 0))))] [(cJ, .long)] sz) (va_Qi (fun (r : Int32) (_ : Unit) => r = 0) (fun (_ : Unit) (t : State) => ux_B (dC, dI) cls (va_A [(h0, .inr (0, [.ref row, .int 0, .int 0, .ref nb, .ref wi, .ref ga, .ref sg, .ref tc, .ref st, .ref hp, .ref ec, .ref row, .int 0, .int 0])), (wi, .inr (2, [.ref nb, .ref w1, .ref w2, .int 0, .int 0])), (tc, .inr (6, [.ref t1, .ref t2, .ref wi, .int 0, .int 0])), (nb, .inr (1, [.ref n1, .ref n2, .ref n3, .int 0, .int 0])), (ga, .inr (3, [.ref g1, .int 0])), (st, .inr (10, [.ref s1, .ref s2, .ref s3, .ref s4, .ref s5, .int 0])), (out, .inl (cJ, 1, .inr (.inl (fun _ => 0))))] sz) [(out, .inl (cJ, 1, .inr (.inl (vp_updL (fun _ => 0) (0 : Int32).toNatClampNeg 0))))] [(cJ, .long)] t) (va_A [(h0, .inr (0, [.ref row, .int 0, .int 0, .ref nb, .ref wi, .ref ga, .ref sg, .ref tc, .ref st, .ref hp, .ref ec, .ref row, .int 0, .int 0])), (wi, .inr (2, [.ref nb, .ref w1, .ref w2, .int 0, .int 0])), (tc, .inr (6, [.ref t1, .ref t2, .ref wi, .int 0, .int 0])), (nb, .inr (1, [.ref n1, .ref n2, .ref n3, .int 0, .int 0])), (ga, .inr (3, [.ref g1, .int 0])), (st, .inr (10, [.ref s1, .ref s2, .ref s3, .ref s4, .ref s5, .int 0])), (out, .inl (cJ, 1, .inr (.inl (fun _ => 0))))] sz)) 0 0 (va_A [(h0, .inr (0, [.ref row, .int 0, .int 0, .ref nb, .ref wi, .ref ga, .ref sg, .ref tc, .ref st, .ref hp, .ref ec, .ref row, .int 0, .int 0])), (wi, .inr (2, [.ref nb, .ref w1, .ref w2, .int 0, .int 0])), (tc, .inr (6, [.ref t1, .ref t2, .ref wi, .int 0, .int 0])), (nb, .inr (1, [.ref n1, .ref n2, .ref n3, .int 0, .int 0])), (ga, .inr (3, [.ref g1, .int 0])), (st, .inr (10, [.ref s1, .ref s2, .ref s3, .ref s4, .ref s5, .int 0])), (out, .inl (cJ, 1, .inr (.inl (fun _ => 0))))] sz) := by
  refine va_MetW (hh := [(0, 9, 12, 19)]) (cc := b_La_count) (maxL := 4) (ret := some .int) (by decide) rfl ?_
  intro p e s m args below meth c s₁ B hml hv
  obtain ⟨rfl, hsz, hP, hK, hD0, hT⟩ := hv
  have hx := B.exec
  have hb := B.bytes
  have hr := B.returns
  have hown : s.vm.findClass "UnikernelHttpLaw" = some m.cls := findClass_of_methodNamed B.named
  have hlocks := B.notSynchronized
  subst hsz
  have hD := hD0.self (sz := s.heap.size)
  have hns := ux_ns hP
  generalize hAe : va_A [(h0, .inr (0, [.ref row, .int 0, .int 0, .ref nb, .ref wi, .ref ga, .ref sg, .ref tc, .ref st, .ref hp, .ref ec, .ref row, .int 0, .int 0])), (wi, .inr (2, [.ref nb, .ref w1, .ref w2, .int 0, .int 0])), (tc, .inr (6, [.ref t1, .ref t2, .ref wi, .int 0, .int 0])), (nb, .inr (1, [.ref n1, .ref n2, .ref n3, .int 0, .int 0])), (ga, .inr (3, [.ref g1, .int 0])), (st, .inr (10, [.ref s1, .ref s2, .ref s3, .ref s4, .ref s5, .int 0])), (out, .inl (cJ, 1, .inr (.inl (fun _ => 0))))] s.heap.size = A at hD hns ⊢
  have hA : ∀ q : Nat, s.heap.size ≤ q → A q := fun q h => by rw [← hAe]; exact Or.inr h
  have hS : va_S A s.heap s.heap [] := va_S.rf
  have hl := lv_entry ([.ref h0, .int 2, .ref out]) (n := 4) (Nat.le_of_ble_eq_true rfl)
  rw [lg_entry_eq]
  generalize (lg_sl ([.ref h0, .int 2, .ref out]) ++ List.replicate (4 - (lg_sl ([.ref h0, .int 2, .ref out])).length) Slot.unset).toArray = ls at hl ⊢
  have hl : lv_has ls 4 [(0, .ref h0), (1, .int 2), (2, .ref out)] := hl
  have hfx : CallFix p m c b_La_count 4 s ([.ref h0, .int 2, .ref out] : List Value).toArray [] "UnikernelHttpLaw" := ⟨hx, hb, hml, hown, fun _ h => by cases h⟩
  refine lv_aload_n hx hb d_La_count_0 rfl (lv_at hl 2 rfl) ?_
  refine lv_iconst (v := 0) hx hb d_La_count_1 (by decide) ?_
  refine lv_aload_n hx hb d_La_count_2 rfl (lv_at hl 0 rfl) ?_
  refine lv_iload_n hx hb d_La_count_3 rfl (lv_at hl 1 rfl) ?_
  have hPc := hP.sub (ws' := [(h0, .inr (0, [.ref row, .int 0, .int 0, .ref nb, .ref wi, .ref ga, .ref sg, .ref tc, .ref st, .ref hp, .ref ec, .ref row, .int 0, .int 0])), (wi, .inr (2, [.ref nb, .ref w1, .ref w2, .int 0, .int 0])), (tc, .inr (6, [.ref t1, .ref t2, .ref wi, .int 0, .int 0])), (nb, .inr (1, [.ref n1, .ref n2, .ref n3, .int 0, .int 0])), (ga, .inr (3, [.ref g1, .int 0])), (st, .inr (10, [.ref s1, .ref s2, .ref s3, .ref s4, .ref s5, .int 0]))]) [0, 1, 2, 3, 4, 5] rfl
  have hDc := hD.sub (ws' := [(h0, .inr (0, [.ref row, .int 0, .int 0, .ref nb, .ref wi, .ref ga, .ref sg, .ref tc, .ref st, .ref hp, .ref ec, .ref row, .int 0, .int 0])), (wi, .inr (2, [.ref nb, .ref w1, .ref w2, .int 0, .int 0])), (tc, .inr (6, [.ref t1, .ref t2, .ref wi, .int 0, .int 0])), (nb, .inr (1, [.ref n1, .ref n2, .ref n3, .int 0, .int 0])), (ga, .inr (3, [.ref g1, .int 0])), (st, .inr (10, [.ref s1, .ref s2, .ref s3, .ref s4, .ref s5, .int 0]))]) [0, 1, 2, 3, 4, 5] (by decide) rfl
  have hKc := hK.sub (tys' := []) [] rfl
  have hFc := va_free (wc := [(h0, .inr (0, [.ref row, .int 0, .int 0, .ref nb, .ref wi, .ref ga, .ref sg, .ref tc, .ref st, .ref hp, .ref ec, .ref row, .int 0, .int 0])), (wi, .inr (2, [.ref nb, .ref w1, .ref w2, .int 0, .int 0])), (tc, .inr (6, [.ref t1, .ref t2, .ref wi, .int 0, .int 0])), (nb, .inr (1, [.ref n1, .ref n2, .ref n3, .int 0, .int 0])), (ga, .inr (3, [.ref g1, .int 0])), (st, .inr (10, [.ref s1, .ref s2, .ref s3, .ref s4, .ref s5, .int 0]))]) hD hS hA [0, 1, 2, 3, 4, 5] rfl
  have hkc : 0 + 0 ≤ 0 := (Nat.le_of_ble_eq_true rfl)
  refine va_calli (va_runV (As := [.int 2]) (rest := [.int 0, .ref out]) hfx (c_U_count_2 l dC dI h0 row nb wi ga sg tc st hp ec w1 w2 t1 t2 n1 n2 n3 g1 s1 s2 s3 s4 s5 s.heap.size) ⟨(ux_cb 1 hT tw_1454 tw_1451 tw_1 rfl rfl (by decide +kernel) ⟨(Nat.le_of_ble_eq_true rfl), (Nat.le_of_ble_eq_true rfl)⟩), (ux_T_at hT tw_1452 rfl), (ux_T_at hT tw_1453 rfl)⟩ (ux_preV (r := (R_U, F_U, 14)) (ci := 0) (q0 := 0) [.int 2] hT hPc hKc hDc rfl rfl) rfl rfl hl.1 rfl (lv_room (Nat.le_of_ble_eq_true rfl)) d_La_count_4 ⟨(Nat.le_of_ble_eq_true rfl), (Nat.le_of_ble_eq_true rfl)⟩) hS (fun q _ h => hFc q h) hFc (fun r1 u t H1 locs ht hvm hw hB hz1 hk1 hS => ?_)
  obtain ⟨hP1, hK1, hD1⟩ := hB
  rw [ht] at hP1
  have hK1 := va_K.moved hvm.symm hK1
  obtain ⟨hP, hD⟩ := va_join (wr := [(out, .inl (cJ, 1, .inr (.inl (fun _ => 0))))]) (w1 := []) hP hD [0, 1, 2, 3, 4, 5] [6] rfl rfl (by decide) (by decide) hk1 hFc hP1 hD1
  have hK := (hK.sub (tys' := [(cJ, .long)]) [0] rfl).app hK1
  generalize H1 = H at hP hS ⊢
  have hP : va_P (dC, dI) cls [(out, .inl (cJ, 1, .inr (.inl (fun _ => 0))))] H := hP
  have hD : va_D A [(out, .inl (cJ, 1, .inr (.inl (fun _ => 0))))] := hD
  have hK : va_K (dC, dI) cls [(cJ, .long)] s := hK
  obtain rfl : r1 = 0 := hw
  refine lv_i2l (v := 0) hx hb d_La_count_7 (by decide) ?_
  refine va_last hx hb hK hP hD hS 0 0 rfl rfl (i := 0) (show ¬ ((0 : Int32) < 0 ∨ 1 ≤ (0 : Int32).toNatClampNeg) by decide) d_La_count_8 (fun H locs hP hD hS => ?_)
  have hP : va_P (dC, dI) cls [(out, .inl (cJ, 1, .inr (.inl (vp_updL (fun _ => 0) (0 : Int32).toNatClampNeg 0))))] H := hP
  have hD : va_D A [(out, .inl (cJ, 1, .inr (.inl (vp_updL (fun _ => 0) (0 : Int32).toNatClampNeg 0))))] := hD
  refine lv_goto hx hb d_La_count_9 (tgt := 15) (by decide) ?_
  refine lv_iconst (v := 0) hx hb d_La_count_15 (by decide) ?_
  have hP9 := hP.sub (ws' := [(out, .inl (cJ, 1, .inr (.inl (vp_updL (fun _ => 0) (0 : Int32).toNatClampNeg 0))))]) [0] rfl
  have hD9 := hD.sub (ws' := [(out, .inl (cJ, 1, .inr (.inl (vp_updL (fun _ => 0) (0 : Int32).toNatClampNeg 0))))]) [0] (by decide) rfl
  have hK9 := hK.sub (tys' := [(cJ, .long)]) [0] rfl
  refine W.widen (k := 0) (n := 0) (Nat.le_of_ble_eq_true rfl) (Nat.le_of_ble_eq_true rfl) ?_
  exact W.iret (v := 0) hx hb hr (fun t ht hW => ⟨⟨_, (), rfl, rfl, by rw [ht]; exact hP9, va_K.moved hW.alike hK9, hD9⟩, hS.F ht⟩) hS.2.2 d_La_count_16
set_option maxHeartbeats 4000000 in
set_option maxRecDepth 100000 in
theorem c_La_count_3 (l : Launch) (dC : Nat → ClassId) (dI : Nat → Nat → Nat) (h0 : Nat) (out : Nat) (row : Nat) (nb : Nat) (wi : Nat) (ga : Nat) (sg : Nat) (tc : Nat) (st : Nat) (hp : Nat) (ec : Nat) (w1 : Nat) (w2 : Nat) (t1 : Nat) (t2 : Nat) (n1 : Nat) (n2 : Nat) (n3 : Nat) (g1 : Nat) (s1 : Nat) (s2 : Nat) (s3 : Nat) (s4 : Nat) (s5 : Nat) (cJ : ClassId) (sz : Nat) : Met l y_La_count [Cond.codeWith y_La_count b_La_count 4 (some .int) [(0, 9, 12, 19)]] ({ frames := 120, cells := 0, slots := 0, locals := 1800 }) (ux_Pc [.ref h0, .int 3, .ref out] (dC, dI) cls [(h0, .inr (0, [.ref row, .int 0, .int 0, .ref nb, .ref wi, .ref ga, .ref sg, .ref tc, .ref st, .ref hp, .ref ec, .ref row, .int 0, .int 0])), (wi, .inr (2, [.ref nb, .ref w1, .ref w2, .int 0, .int 0])), (tc, .inr (6, [.ref t1, .ref t2, .ref wi, .int 0, .int 0])), (nb, .inr (1, [.ref n1, .ref n2, .ref n3, .int 0, .int 0])), (ga, .inr (3, [.ref g1, .int 0])), (st, .inr (10, [.ref s1, .ref s2, .ref s3, .ref s4, .ref s5, .int 0])), (out, .inl (cJ, 1, .inr (.inl (fun _ => 0))))] [(cJ, .long)] sz) (va_Qi (fun (r : Int32) (_ : Unit) => r = 0) (fun (_ : Unit) (t : State) => ux_B (dC, dI) cls (va_A [(h0, .inr (0, [.ref row, .int 0, .int 0, .ref nb, .ref wi, .ref ga, .ref sg, .ref tc, .ref st, .ref hp, .ref ec, .ref row, .int 0, .int 0])), (wi, .inr (2, [.ref nb, .ref w1, .ref w2, .int 0, .int 0])), (tc, .inr (6, [.ref t1, .ref t2, .ref wi, .int 0, .int 0])), (nb, .inr (1, [.ref n1, .ref n2, .ref n3, .int 0, .int 0])), (ga, .inr (3, [.ref g1, .int 0])), (st, .inr (10, [.ref s1, .ref s2, .ref s3, .ref s4, .ref s5, .int 0])), (out, .inl (cJ, 1, .inr (.inl (fun _ => 0))))] sz) [(out, .inl (cJ, 1, .inr (.inl (vp_updL (fun _ => 0) (0 : Int32).toNatClampNeg 0))))] [(cJ, .long)] t) (va_A [(h0, .inr (0, [.ref row, .int 0, .int 0, .ref nb, .ref wi, .ref ga, .ref sg, .ref tc, .ref st, .ref hp, .ref ec, .ref row, .int 0, .int 0])), (wi, .inr (2, [.ref nb, .ref w1, .ref w2, .int 0, .int 0])), (tc, .inr (6, [.ref t1, .ref t2, .ref wi, .int 0, .int 0])), (nb, .inr (1, [.ref n1, .ref n2, .ref n3, .int 0, .int 0])), (ga, .inr (3, [.ref g1, .int 0])), (st, .inr (10, [.ref s1, .ref s2, .ref s3, .ref s4, .ref s5, .int 0])), (out, .inl (cJ, 1, .inr (.inl (fun _ => 0))))] sz)) 0 0 (va_A [(h0, .inr (0, [.ref row, .int 0, .int 0, .ref nb, .ref wi, .ref ga, .ref sg, .ref tc, .ref st, .ref hp, .ref ec, .ref row, .int 0, .int 0])), (wi, .inr (2, [.ref nb, .ref w1, .ref w2, .int 0, .int 0])), (tc, .inr (6, [.ref t1, .ref t2, .ref wi, .int 0, .int 0])), (nb, .inr (1, [.ref n1, .ref n2, .ref n3, .int 0, .int 0])), (ga, .inr (3, [.ref g1, .int 0])), (st, .inr (10, [.ref s1, .ref s2, .ref s3, .ref s4, .ref s5, .int 0])), (out, .inl (cJ, 1, .inr (.inl (fun _ => 0))))] sz) := by
  refine va_MetW (hh := [(0, 9, 12, 19)]) (cc := b_La_count) (maxL := 4) (ret := some .int) (by decide) rfl ?_
  intro p e s m args below meth c s₁ B hml hv
  obtain ⟨rfl, hsz, hP, hK, hD0, hT⟩ := hv
  have hx := B.exec
  have hb := B.bytes
  have hr := B.returns
  have hown : s.vm.findClass "UnikernelHttpLaw" = some m.cls := findClass_of_methodNamed B.named
  have hlocks := B.notSynchronized
  subst hsz
  have hD := hD0.self (sz := s.heap.size)
  have hns := ux_ns hP
  generalize hAe : va_A [(h0, .inr (0, [.ref row, .int 0, .int 0, .ref nb, .ref wi, .ref ga, .ref sg, .ref tc, .ref st, .ref hp, .ref ec, .ref row, .int 0, .int 0])), (wi, .inr (2, [.ref nb, .ref w1, .ref w2, .int 0, .int 0])), (tc, .inr (6, [.ref t1, .ref t2, .ref wi, .int 0, .int 0])), (nb, .inr (1, [.ref n1, .ref n2, .ref n3, .int 0, .int 0])), (ga, .inr (3, [.ref g1, .int 0])), (st, .inr (10, [.ref s1, .ref s2, .ref s3, .ref s4, .ref s5, .int 0])), (out, .inl (cJ, 1, .inr (.inl (fun _ => 0))))] s.heap.size = A at hD hns ⊢
  have hA : ∀ q : Nat, s.heap.size ≤ q → A q := fun q h => by rw [← hAe]; exact Or.inr h
  have hS : va_S A s.heap s.heap [] := va_S.rf
  have hl := lv_entry ([.ref h0, .int 3, .ref out]) (n := 4) (Nat.le_of_ble_eq_true rfl)
  rw [lg_entry_eq]
  generalize (lg_sl ([.ref h0, .int 3, .ref out]) ++ List.replicate (4 - (lg_sl ([.ref h0, .int 3, .ref out])).length) Slot.unset).toArray = ls at hl ⊢
  have hl : lv_has ls 4 [(0, .ref h0), (1, .int 3), (2, .ref out)] := hl
  have hfx : CallFix p m c b_La_count 4 s ([.ref h0, .int 3, .ref out] : List Value).toArray [] "UnikernelHttpLaw" := ⟨hx, hb, hml, hown, fun _ h => by cases h⟩
  refine lv_aload_n hx hb d_La_count_0 rfl (lv_at hl 2 rfl) ?_
  refine lv_iconst (v := 0) hx hb d_La_count_1 (by decide) ?_
  refine lv_aload_n hx hb d_La_count_2 rfl (lv_at hl 0 rfl) ?_
  refine lv_iload_n hx hb d_La_count_3 rfl (lv_at hl 1 rfl) ?_
  have hPc := hP.sub (ws' := [(h0, .inr (0, [.ref row, .int 0, .int 0, .ref nb, .ref wi, .ref ga, .ref sg, .ref tc, .ref st, .ref hp, .ref ec, .ref row, .int 0, .int 0])), (wi, .inr (2, [.ref nb, .ref w1, .ref w2, .int 0, .int 0])), (tc, .inr (6, [.ref t1, .ref t2, .ref wi, .int 0, .int 0])), (nb, .inr (1, [.ref n1, .ref n2, .ref n3, .int 0, .int 0])), (ga, .inr (3, [.ref g1, .int 0])), (st, .inr (10, [.ref s1, .ref s2, .ref s3, .ref s4, .ref s5, .int 0]))]) [0, 1, 2, 3, 4, 5] rfl
  have hDc := hD.sub (ws' := [(h0, .inr (0, [.ref row, .int 0, .int 0, .ref nb, .ref wi, .ref ga, .ref sg, .ref tc, .ref st, .ref hp, .ref ec, .ref row, .int 0, .int 0])), (wi, .inr (2, [.ref nb, .ref w1, .ref w2, .int 0, .int 0])), (tc, .inr (6, [.ref t1, .ref t2, .ref wi, .int 0, .int 0])), (nb, .inr (1, [.ref n1, .ref n2, .ref n3, .int 0, .int 0])), (ga, .inr (3, [.ref g1, .int 0])), (st, .inr (10, [.ref s1, .ref s2, .ref s3, .ref s4, .ref s5, .int 0]))]) [0, 1, 2, 3, 4, 5] (by decide) rfl
  have hKc := hK.sub (tys' := []) [] rfl
  have hFc := va_free (wc := [(h0, .inr (0, [.ref row, .int 0, .int 0, .ref nb, .ref wi, .ref ga, .ref sg, .ref tc, .ref st, .ref hp, .ref ec, .ref row, .int 0, .int 0])), (wi, .inr (2, [.ref nb, .ref w1, .ref w2, .int 0, .int 0])), (tc, .inr (6, [.ref t1, .ref t2, .ref wi, .int 0, .int 0])), (nb, .inr (1, [.ref n1, .ref n2, .ref n3, .int 0, .int 0])), (ga, .inr (3, [.ref g1, .int 0])), (st, .inr (10, [.ref s1, .ref s2, .ref s3, .ref s4, .ref s5, .int 0]))]) hD hS hA [0, 1, 2, 3, 4, 5] rfl
  have hkc : 0 + 0 ≤ 0 := (Nat.le_of_ble_eq_true rfl)
  refine va_calli (va_runV (As := [.int 3]) (rest := [.int 0, .ref out]) hfx (c_U_count_3 l dC dI h0 row nb wi ga sg tc st hp ec w1 w2 t1 t2 n1 n2 n3 g1 s1 s2 s3 s4 s5 s.heap.size) ⟨(ux_cb 1 hT tw_1454 tw_1451 tw_1 rfl rfl (by decide +kernel) ⟨(Nat.le_of_ble_eq_true rfl), (Nat.le_of_ble_eq_true rfl)⟩), (ux_T_at hT tw_1452 rfl), (ux_T_at hT tw_1453 rfl)⟩ (ux_preV (r := (R_U, F_U, 14)) (ci := 0) (q0 := 0) [.int 3] hT hPc hKc hDc rfl rfl) rfl rfl hl.1 rfl (lv_room (Nat.le_of_ble_eq_true rfl)) d_La_count_4 ⟨(Nat.le_of_ble_eq_true rfl), (Nat.le_of_ble_eq_true rfl)⟩) hS (fun q _ h => hFc q h) hFc (fun r1 u t H1 locs ht hvm hw hB hz1 hk1 hS => ?_)
  obtain ⟨hP1, hK1, hD1⟩ := hB
  rw [ht] at hP1
  have hK1 := va_K.moved hvm.symm hK1
  obtain ⟨hP, hD⟩ := va_join (wr := [(out, .inl (cJ, 1, .inr (.inl (fun _ => 0))))]) (w1 := []) hP hD [0, 1, 2, 3, 4, 5] [6] rfl rfl (by decide) (by decide) hk1 hFc hP1 hD1
  have hK := (hK.sub (tys' := [(cJ, .long)]) [0] rfl).app hK1
  generalize H1 = H at hP hS ⊢
  have hP : va_P (dC, dI) cls [(out, .inl (cJ, 1, .inr (.inl (fun _ => 0))))] H := hP
  have hD : va_D A [(out, .inl (cJ, 1, .inr (.inl (fun _ => 0))))] := hD
  have hK : va_K (dC, dI) cls [(cJ, .long)] s := hK
  obtain rfl : r1 = 0 := hw
  refine lv_i2l (v := 0) hx hb d_La_count_7 (by decide) ?_
  refine va_last hx hb hK hP hD hS 0 0 rfl rfl (i := 0) (show ¬ ((0 : Int32) < 0 ∨ 1 ≤ (0 : Int32).toNatClampNeg) by decide) d_La_count_8 (fun H locs hP hD hS => ?_)
  have hP : va_P (dC, dI) cls [(out, .inl (cJ, 1, .inr (.inl (vp_updL (fun _ => 0) (0 : Int32).toNatClampNeg 0))))] H := hP
  have hD : va_D A [(out, .inl (cJ, 1, .inr (.inl (vp_updL (fun _ => 0) (0 : Int32).toNatClampNeg 0))))] := hD
  refine lv_goto hx hb d_La_count_9 (tgt := 15) (by decide) ?_
  refine lv_iconst (v := 0) hx hb d_La_count_15 (by decide) ?_
  have hP9 := hP.sub (ws' := [(out, .inl (cJ, 1, .inr (.inl (vp_updL (fun _ => 0) (0 : Int32).toNatClampNeg 0))))]) [0] rfl
  have hD9 := hD.sub (ws' := [(out, .inl (cJ, 1, .inr (.inl (vp_updL (fun _ => 0) (0 : Int32).toNatClampNeg 0))))]) [0] (by decide) rfl
  have hK9 := hK.sub (tys' := [(cJ, .long)]) [0] rfl
  refine W.widen (k := 0) (n := 0) (Nat.le_of_ble_eq_true rfl) (Nat.le_of_ble_eq_true rfl) ?_
  exact W.iret (v := 0) hx hb hr (fun t ht hW => ⟨⟨_, (), rfl, rfl, by rw [ht]; exact hP9, va_K.moved hW.alike hK9, hD9⟩, hS.F ht⟩) hS.2.2 d_La_count_16
set_option maxHeartbeats 4000000 in
set_option maxRecDepth 100000 in
theorem c_La_count_4 (l : Launch) (dC : Nat → ClassId) (dI : Nat → Nat → Nat) (h0 : Nat) (out : Nat) (row : Nat) (nb : Nat) (wi : Nat) (ga : Nat) (sg : Nat) (tc : Nat) (st : Nat) (hp : Nat) (ec : Nat) (w1 : Nat) (w2 : Nat) (t1 : Nat) (t2 : Nat) (n1 : Nat) (n2 : Nat) (n3 : Nat) (g1 : Nat) (s1 : Nat) (s2 : Nat) (s3 : Nat) (s4 : Nat) (s5 : Nat) (cJ : ClassId) (sz : Nat) : Met l y_La_count [Cond.codeWith y_La_count b_La_count 4 (some .int) [(0, 9, 12, 19)]] ({ frames := 120, cells := 0, slots := 0, locals := 1800 }) (ux_Pc [.ref h0, .int 4, .ref out] (dC, dI) cls [(h0, .inr (0, [.ref row, .int 0, .int 0, .ref nb, .ref wi, .ref ga, .ref sg, .ref tc, .ref st, .ref hp, .ref ec, .ref row, .int 0, .int 0])), (wi, .inr (2, [.ref nb, .ref w1, .ref w2, .int 0, .int 0])), (tc, .inr (6, [.ref t1, .ref t2, .ref wi, .int 0, .int 0])), (nb, .inr (1, [.ref n1, .ref n2, .ref n3, .int 0, .int 0])), (ga, .inr (3, [.ref g1, .int 0])), (st, .inr (10, [.ref s1, .ref s2, .ref s3, .ref s4, .ref s5, .int 0])), (out, .inl (cJ, 1, .inr (.inl (fun _ => 0))))] [(cJ, .long)] sz) (va_Qi (fun (r : Int32) (_ : Unit) => r = 0) (fun (_ : Unit) (t : State) => ux_B (dC, dI) cls (va_A [(h0, .inr (0, [.ref row, .int 0, .int 0, .ref nb, .ref wi, .ref ga, .ref sg, .ref tc, .ref st, .ref hp, .ref ec, .ref row, .int 0, .int 0])), (wi, .inr (2, [.ref nb, .ref w1, .ref w2, .int 0, .int 0])), (tc, .inr (6, [.ref t1, .ref t2, .ref wi, .int 0, .int 0])), (nb, .inr (1, [.ref n1, .ref n2, .ref n3, .int 0, .int 0])), (ga, .inr (3, [.ref g1, .int 0])), (st, .inr (10, [.ref s1, .ref s2, .ref s3, .ref s4, .ref s5, .int 0])), (out, .inl (cJ, 1, .inr (.inl (fun _ => 0))))] sz) [(out, .inl (cJ, 1, .inr (.inl (vp_updL (fun _ => 0) (0 : Int32).toNatClampNeg 0))))] [(cJ, .long)] t) (va_A [(h0, .inr (0, [.ref row, .int 0, .int 0, .ref nb, .ref wi, .ref ga, .ref sg, .ref tc, .ref st, .ref hp, .ref ec, .ref row, .int 0, .int 0])), (wi, .inr (2, [.ref nb, .ref w1, .ref w2, .int 0, .int 0])), (tc, .inr (6, [.ref t1, .ref t2, .ref wi, .int 0, .int 0])), (nb, .inr (1, [.ref n1, .ref n2, .ref n3, .int 0, .int 0])), (ga, .inr (3, [.ref g1, .int 0])), (st, .inr (10, [.ref s1, .ref s2, .ref s3, .ref s4, .ref s5, .int 0])), (out, .inl (cJ, 1, .inr (.inl (fun _ => 0))))] sz)) 0 0 (va_A [(h0, .inr (0, [.ref row, .int 0, .int 0, .ref nb, .ref wi, .ref ga, .ref sg, .ref tc, .ref st, .ref hp, .ref ec, .ref row, .int 0, .int 0])), (wi, .inr (2, [.ref nb, .ref w1, .ref w2, .int 0, .int 0])), (tc, .inr (6, [.ref t1, .ref t2, .ref wi, .int 0, .int 0])), (nb, .inr (1, [.ref n1, .ref n2, .ref n3, .int 0, .int 0])), (ga, .inr (3, [.ref g1, .int 0])), (st, .inr (10, [.ref s1, .ref s2, .ref s3, .ref s4, .ref s5, .int 0])), (out, .inl (cJ, 1, .inr (.inl (fun _ => 0))))] sz) := by
  refine va_MetW (hh := [(0, 9, 12, 19)]) (cc := b_La_count) (maxL := 4) (ret := some .int) (by decide) rfl ?_
  intro p e s m args below meth c s₁ B hml hv
  obtain ⟨rfl, hsz, hP, hK, hD0, hT⟩ := hv
  have hx := B.exec
  have hb := B.bytes
  have hr := B.returns
  have hown : s.vm.findClass "UnikernelHttpLaw" = some m.cls := findClass_of_methodNamed B.named
  have hlocks := B.notSynchronized
  subst hsz
  have hD := hD0.self (sz := s.heap.size)
  have hns := ux_ns hP
  generalize hAe : va_A [(h0, .inr (0, [.ref row, .int 0, .int 0, .ref nb, .ref wi, .ref ga, .ref sg, .ref tc, .ref st, .ref hp, .ref ec, .ref row, .int 0, .int 0])), (wi, .inr (2, [.ref nb, .ref w1, .ref w2, .int 0, .int 0])), (tc, .inr (6, [.ref t1, .ref t2, .ref wi, .int 0, .int 0])), (nb, .inr (1, [.ref n1, .ref n2, .ref n3, .int 0, .int 0])), (ga, .inr (3, [.ref g1, .int 0])), (st, .inr (10, [.ref s1, .ref s2, .ref s3, .ref s4, .ref s5, .int 0])), (out, .inl (cJ, 1, .inr (.inl (fun _ => 0))))] s.heap.size = A at hD hns ⊢
  have hA : ∀ q : Nat, s.heap.size ≤ q → A q := fun q h => by rw [← hAe]; exact Or.inr h
  have hS : va_S A s.heap s.heap [] := va_S.rf
  have hl := lv_entry ([.ref h0, .int 4, .ref out]) (n := 4) (Nat.le_of_ble_eq_true rfl)
  rw [lg_entry_eq]
  generalize (lg_sl ([.ref h0, .int 4, .ref out]) ++ List.replicate (4 - (lg_sl ([.ref h0, .int 4, .ref out])).length) Slot.unset).toArray = ls at hl ⊢
  have hl : lv_has ls 4 [(0, .ref h0), (1, .int 4), (2, .ref out)] := hl
  have hfx : CallFix p m c b_La_count 4 s ([.ref h0, .int 4, .ref out] : List Value).toArray [] "UnikernelHttpLaw" := ⟨hx, hb, hml, hown, fun _ h => by cases h⟩
  refine lv_aload_n hx hb d_La_count_0 rfl (lv_at hl 2 rfl) ?_
  refine lv_iconst (v := 0) hx hb d_La_count_1 (by decide) ?_
  refine lv_aload_n hx hb d_La_count_2 rfl (lv_at hl 0 rfl) ?_
  refine lv_iload_n hx hb d_La_count_3 rfl (lv_at hl 1 rfl) ?_
  have hPc := hP.sub (ws' := [(h0, .inr (0, [.ref row, .int 0, .int 0, .ref nb, .ref wi, .ref ga, .ref sg, .ref tc, .ref st, .ref hp, .ref ec, .ref row, .int 0, .int 0])), (wi, .inr (2, [.ref nb, .ref w1, .ref w2, .int 0, .int 0])), (tc, .inr (6, [.ref t1, .ref t2, .ref wi, .int 0, .int 0])), (nb, .inr (1, [.ref n1, .ref n2, .ref n3, .int 0, .int 0])), (ga, .inr (3, [.ref g1, .int 0])), (st, .inr (10, [.ref s1, .ref s2, .ref s3, .ref s4, .ref s5, .int 0]))]) [0, 1, 2, 3, 4, 5] rfl
  have hDc := hD.sub (ws' := [(h0, .inr (0, [.ref row, .int 0, .int 0, .ref nb, .ref wi, .ref ga, .ref sg, .ref tc, .ref st, .ref hp, .ref ec, .ref row, .int 0, .int 0])), (wi, .inr (2, [.ref nb, .ref w1, .ref w2, .int 0, .int 0])), (tc, .inr (6, [.ref t1, .ref t2, .ref wi, .int 0, .int 0])), (nb, .inr (1, [.ref n1, .ref n2, .ref n3, .int 0, .int 0])), (ga, .inr (3, [.ref g1, .int 0])), (st, .inr (10, [.ref s1, .ref s2, .ref s3, .ref s4, .ref s5, .int 0]))]) [0, 1, 2, 3, 4, 5] (by decide) rfl
  have hKc := hK.sub (tys' := []) [] rfl
  have hFc := va_free (wc := [(h0, .inr (0, [.ref row, .int 0, .int 0, .ref nb, .ref wi, .ref ga, .ref sg, .ref tc, .ref st, .ref hp, .ref ec, .ref row, .int 0, .int 0])), (wi, .inr (2, [.ref nb, .ref w1, .ref w2, .int 0, .int 0])), (tc, .inr (6, [.ref t1, .ref t2, .ref wi, .int 0, .int 0])), (nb, .inr (1, [.ref n1, .ref n2, .ref n3, .int 0, .int 0])), (ga, .inr (3, [.ref g1, .int 0])), (st, .inr (10, [.ref s1, .ref s2, .ref s3, .ref s4, .ref s5, .int 0]))]) hD hS hA [0, 1, 2, 3, 4, 5] rfl
  have hkc : 0 + 0 ≤ 0 := (Nat.le_of_ble_eq_true rfl)
  refine va_calli (va_runV (As := [.int 4]) (rest := [.int 0, .ref out]) hfx (c_U_count_4 l dC dI h0 row nb wi ga sg tc st hp ec w1 w2 t1 t2 n1 n2 n3 g1 s1 s2 s3 s4 s5 s.heap.size) ⟨(ux_cb 1 hT tw_1454 tw_1451 tw_1 rfl rfl (by decide +kernel) ⟨(Nat.le_of_ble_eq_true rfl), (Nat.le_of_ble_eq_true rfl)⟩), (ux_T_at hT tw_1452 rfl), (ux_T_at hT tw_1453 rfl)⟩ (ux_preV (r := (R_U, F_U, 14)) (ci := 0) (q0 := 0) [.int 4] hT hPc hKc hDc rfl rfl) rfl rfl hl.1 rfl (lv_room (Nat.le_of_ble_eq_true rfl)) d_La_count_4 ⟨(Nat.le_of_ble_eq_true rfl), (Nat.le_of_ble_eq_true rfl)⟩) hS (fun q _ h => hFc q h) hFc (fun r1 u t H1 locs ht hvm hw hB hz1 hk1 hS => ?_)
  obtain ⟨hP1, hK1, hD1⟩ := hB
  rw [ht] at hP1
  have hK1 := va_K.moved hvm.symm hK1
  obtain ⟨hP, hD⟩ := va_join (wr := [(out, .inl (cJ, 1, .inr (.inl (fun _ => 0))))]) (w1 := []) hP hD [0, 1, 2, 3, 4, 5] [6] rfl rfl (by decide) (by decide) hk1 hFc hP1 hD1
  have hK := (hK.sub (tys' := [(cJ, .long)]) [0] rfl).app hK1
  generalize H1 = H at hP hS ⊢
  have hP : va_P (dC, dI) cls [(out, .inl (cJ, 1, .inr (.inl (fun _ => 0))))] H := hP
  have hD : va_D A [(out, .inl (cJ, 1, .inr (.inl (fun _ => 0))))] := hD
  have hK : va_K (dC, dI) cls [(cJ, .long)] s := hK
  obtain rfl : r1 = 0 := hw
  refine lv_i2l (v := 0) hx hb d_La_count_7 (by decide) ?_
  refine va_last hx hb hK hP hD hS 0 0 rfl rfl (i := 0) (show ¬ ((0 : Int32) < 0 ∨ 1 ≤ (0 : Int32).toNatClampNeg) by decide) d_La_count_8 (fun H locs hP hD hS => ?_)
  have hP : va_P (dC, dI) cls [(out, .inl (cJ, 1, .inr (.inl (vp_updL (fun _ => 0) (0 : Int32).toNatClampNeg 0))))] H := hP
  have hD : va_D A [(out, .inl (cJ, 1, .inr (.inl (vp_updL (fun _ => 0) (0 : Int32).toNatClampNeg 0))))] := hD
  refine lv_goto hx hb d_La_count_9 (tgt := 15) (by decide) ?_
  refine lv_iconst (v := 0) hx hb d_La_count_15 (by decide) ?_
  have hP9 := hP.sub (ws' := [(out, .inl (cJ, 1, .inr (.inl (vp_updL (fun _ => 0) (0 : Int32).toNatClampNeg 0))))]) [0] rfl
  have hD9 := hD.sub (ws' := [(out, .inl (cJ, 1, .inr (.inl (vp_updL (fun _ => 0) (0 : Int32).toNatClampNeg 0))))]) [0] (by decide) rfl
  have hK9 := hK.sub (tys' := [(cJ, .long)]) [0] rfl
  refine W.widen (k := 0) (n := 0) (Nat.le_of_ble_eq_true rfl) (Nat.le_of_ble_eq_true rfl) ?_
  exact W.iret (v := 0) hx hb hr (fun t ht hW => ⟨⟨_, (), rfl, rfl, by rw [ht]; exact hP9, va_K.moved hW.alike hK9, hD9⟩, hS.F ht⟩) hS.2.2 d_La_count_16
set_option maxHeartbeats 4000000 in
set_option maxRecDepth 100000 in
theorem c_La_count_5 (l : Launch) (dC : Nat → ClassId) (dI : Nat → Nat → Nat) (h0 : Nat) (out : Nat) (row : Nat) (nb : Nat) (wi : Nat) (ga : Nat) (sg : Nat) (tc : Nat) (st : Nat) (hp : Nat) (ec : Nat) (w1 : Nat) (w2 : Nat) (t1 : Nat) (t2 : Nat) (n1 : Nat) (n2 : Nat) (n3 : Nat) (g1 : Nat) (s1 : Nat) (s2 : Nat) (s3 : Nat) (s4 : Nat) (s5 : Nat) (cJ : ClassId) (sz : Nat) : Met l y_La_count [Cond.codeWith y_La_count b_La_count 4 (some .int) [(0, 9, 12, 19)]] ({ frames := 120, cells := 0, slots := 0, locals := 1800 }) (ux_Pc [.ref h0, .int 5, .ref out] (dC, dI) cls [(h0, .inr (0, [.ref row, .int 0, .int 0, .ref nb, .ref wi, .ref ga, .ref sg, .ref tc, .ref st, .ref hp, .ref ec, .ref row, .int 0, .int 0])), (wi, .inr (2, [.ref nb, .ref w1, .ref w2, .int 0, .int 0])), (tc, .inr (6, [.ref t1, .ref t2, .ref wi, .int 0, .int 0])), (nb, .inr (1, [.ref n1, .ref n2, .ref n3, .int 0, .int 0])), (ga, .inr (3, [.ref g1, .int 0])), (st, .inr (10, [.ref s1, .ref s2, .ref s3, .ref s4, .ref s5, .int 0])), (out, .inl (cJ, 1, .inr (.inl (fun _ => 0))))] [(cJ, .long)] sz) (va_Qi (fun (r : Int32) (_ : Unit) => r = 0) (fun (_ : Unit) (t : State) => ux_B (dC, dI) cls (va_A [(h0, .inr (0, [.ref row, .int 0, .int 0, .ref nb, .ref wi, .ref ga, .ref sg, .ref tc, .ref st, .ref hp, .ref ec, .ref row, .int 0, .int 0])), (wi, .inr (2, [.ref nb, .ref w1, .ref w2, .int 0, .int 0])), (tc, .inr (6, [.ref t1, .ref t2, .ref wi, .int 0, .int 0])), (nb, .inr (1, [.ref n1, .ref n2, .ref n3, .int 0, .int 0])), (ga, .inr (3, [.ref g1, .int 0])), (st, .inr (10, [.ref s1, .ref s2, .ref s3, .ref s4, .ref s5, .int 0])), (out, .inl (cJ, 1, .inr (.inl (fun _ => 0))))] sz) [(out, .inl (cJ, 1, .inr (.inl (vp_updL (fun _ => 0) (0 : Int32).toNatClampNeg 0))))] [(cJ, .long)] t) (va_A [(h0, .inr (0, [.ref row, .int 0, .int 0, .ref nb, .ref wi, .ref ga, .ref sg, .ref tc, .ref st, .ref hp, .ref ec, .ref row, .int 0, .int 0])), (wi, .inr (2, [.ref nb, .ref w1, .ref w2, .int 0, .int 0])), (tc, .inr (6, [.ref t1, .ref t2, .ref wi, .int 0, .int 0])), (nb, .inr (1, [.ref n1, .ref n2, .ref n3, .int 0, .int 0])), (ga, .inr (3, [.ref g1, .int 0])), (st, .inr (10, [.ref s1, .ref s2, .ref s3, .ref s4, .ref s5, .int 0])), (out, .inl (cJ, 1, .inr (.inl (fun _ => 0))))] sz)) 0 0 (va_A [(h0, .inr (0, [.ref row, .int 0, .int 0, .ref nb, .ref wi, .ref ga, .ref sg, .ref tc, .ref st, .ref hp, .ref ec, .ref row, .int 0, .int 0])), (wi, .inr (2, [.ref nb, .ref w1, .ref w2, .int 0, .int 0])), (tc, .inr (6, [.ref t1, .ref t2, .ref wi, .int 0, .int 0])), (nb, .inr (1, [.ref n1, .ref n2, .ref n3, .int 0, .int 0])), (ga, .inr (3, [.ref g1, .int 0])), (st, .inr (10, [.ref s1, .ref s2, .ref s3, .ref s4, .ref s5, .int 0])), (out, .inl (cJ, 1, .inr (.inl (fun _ => 0))))] sz) := by
  refine va_MetW (hh := [(0, 9, 12, 19)]) (cc := b_La_count) (maxL := 4) (ret := some .int) (by decide) rfl ?_
  intro p e s m args below meth c s₁ B hml hv
  obtain ⟨rfl, hsz, hP, hK, hD0, hT⟩ := hv
  have hx := B.exec
  have hb := B.bytes
  have hr := B.returns
  have hown : s.vm.findClass "UnikernelHttpLaw" = some m.cls := findClass_of_methodNamed B.named
  have hlocks := B.notSynchronized
  subst hsz
  have hD := hD0.self (sz := s.heap.size)
  have hns := ux_ns hP
  generalize hAe : va_A [(h0, .inr (0, [.ref row, .int 0, .int 0, .ref nb, .ref wi, .ref ga, .ref sg, .ref tc, .ref st, .ref hp, .ref ec, .ref row, .int 0, .int 0])), (wi, .inr (2, [.ref nb, .ref w1, .ref w2, .int 0, .int 0])), (tc, .inr (6, [.ref t1, .ref t2, .ref wi, .int 0, .int 0])), (nb, .inr (1, [.ref n1, .ref n2, .ref n3, .int 0, .int 0])), (ga, .inr (3, [.ref g1, .int 0])), (st, .inr (10, [.ref s1, .ref s2, .ref s3, .ref s4, .ref s5, .int 0])), (out, .inl (cJ, 1, .inr (.inl (fun _ => 0))))] s.heap.size = A at hD hns ⊢
  have hA : ∀ q : Nat, s.heap.size ≤ q → A q := fun q h => by rw [← hAe]; exact Or.inr h
  have hS : va_S A s.heap s.heap [] := va_S.rf
  have hl := lv_entry ([.ref h0, .int 5, .ref out]) (n := 4) (Nat.le_of_ble_eq_true rfl)
  rw [lg_entry_eq]
  generalize (lg_sl ([.ref h0, .int 5, .ref out]) ++ List.replicate (4 - (lg_sl ([.ref h0, .int 5, .ref out])).length) Slot.unset).toArray = ls at hl ⊢
  have hl : lv_has ls 4 [(0, .ref h0), (1, .int 5), (2, .ref out)] := hl
  have hfx : CallFix p m c b_La_count 4 s ([.ref h0, .int 5, .ref out] : List Value).toArray [] "UnikernelHttpLaw" := ⟨hx, hb, hml, hown, fun _ h => by cases h⟩
  refine lv_aload_n hx hb d_La_count_0 rfl (lv_at hl 2 rfl) ?_
  refine lv_iconst (v := 0) hx hb d_La_count_1 (by decide) ?_
  refine lv_aload_n hx hb d_La_count_2 rfl (lv_at hl 0 rfl) ?_
  refine lv_iload_n hx hb d_La_count_3 rfl (lv_at hl 1 rfl) ?_
  have hPc := hP.sub (ws' := [(h0, .inr (0, [.ref row, .int 0, .int 0, .ref nb, .ref wi, .ref ga, .ref sg, .ref tc, .ref st, .ref hp, .ref ec, .ref row, .int 0, .int 0])), (wi, .inr (2, [.ref nb, .ref w1, .ref w2, .int 0, .int 0])), (tc, .inr (6, [.ref t1, .ref t2, .ref wi, .int 0, .int 0])), (nb, .inr (1, [.ref n1, .ref n2, .ref n3, .int 0, .int 0])), (ga, .inr (3, [.ref g1, .int 0])), (st, .inr (10, [.ref s1, .ref s2, .ref s3, .ref s4, .ref s5, .int 0]))]) [0, 1, 2, 3, 4, 5] rfl
  have hDc := hD.sub (ws' := [(h0, .inr (0, [.ref row, .int 0, .int 0, .ref nb, .ref wi, .ref ga, .ref sg, .ref tc, .ref st, .ref hp, .ref ec, .ref row, .int 0, .int 0])), (wi, .inr (2, [.ref nb, .ref w1, .ref w2, .int 0, .int 0])), (tc, .inr (6, [.ref t1, .ref t2, .ref wi, .int 0, .int 0])), (nb, .inr (1, [.ref n1, .ref n2, .ref n3, .int 0, .int 0])), (ga, .inr (3, [.ref g1, .int 0])), (st, .inr (10, [.ref s1, .ref s2, .ref s3, .ref s4, .ref s5, .int 0]))]) [0, 1, 2, 3, 4, 5] (by decide) rfl
  have hKc := hK.sub (tys' := []) [] rfl
  have hFc := va_free (wc := [(h0, .inr (0, [.ref row, .int 0, .int 0, .ref nb, .ref wi, .ref ga, .ref sg, .ref tc, .ref st, .ref hp, .ref ec, .ref row, .int 0, .int 0])), (wi, .inr (2, [.ref nb, .ref w1, .ref w2, .int 0, .int 0])), (tc, .inr (6, [.ref t1, .ref t2, .ref wi, .int 0, .int 0])), (nb, .inr (1, [.ref n1, .ref n2, .ref n3, .int 0, .int 0])), (ga, .inr (3, [.ref g1, .int 0])), (st, .inr (10, [.ref s1, .ref s2, .ref s3, .ref s4, .ref s5, .int 0]))]) hD hS hA [0, 1, 2, 3, 4, 5] rfl
  have hkc : 0 + 0 ≤ 0 := (Nat.le_of_ble_eq_true rfl)
  refine va_calli (va_runV (As := [.int 5]) (rest := [.int 0, .ref out]) hfx (c_U_count_5 l dC dI h0 row nb wi ga sg tc st hp ec w1 w2 t1 t2 n1 n2 n3 g1 s1 s2 s3 s4 s5 s.heap.size) ⟨(ux_cb 1 hT tw_1454 tw_1451 tw_1 rfl rfl (by decide +kernel) ⟨(Nat.le_of_ble_eq_true rfl), (Nat.le_of_ble_eq_true rfl)⟩), (ux_T_at hT tw_1452 rfl), (ux_T_at hT tw_1453 rfl)⟩ (ux_preV (r := (R_U, F_U, 14)) (ci := 0) (q0 := 0) [.int 5] hT hPc hKc hDc rfl rfl) rfl rfl hl.1 rfl (lv_room (Nat.le_of_ble_eq_true rfl)) d_La_count_4 ⟨(Nat.le_of_ble_eq_true rfl), (Nat.le_of_ble_eq_true rfl)⟩) hS (fun q _ h => hFc q h) hFc (fun r1 u t H1 locs ht hvm hw hB hz1 hk1 hS => ?_)
  obtain ⟨hP1, hK1, hD1⟩ := hB
  rw [ht] at hP1
  have hK1 := va_K.moved hvm.symm hK1
  obtain ⟨hP, hD⟩ := va_join (wr := [(out, .inl (cJ, 1, .inr (.inl (fun _ => 0))))]) (w1 := []) hP hD [0, 1, 2, 3, 4, 5] [6] rfl rfl (by decide) (by decide) hk1 hFc hP1 hD1
  have hK := (hK.sub (tys' := [(cJ, .long)]) [0] rfl).app hK1
  generalize H1 = H at hP hS ⊢
  have hP : va_P (dC, dI) cls [(out, .inl (cJ, 1, .inr (.inl (fun _ => 0))))] H := hP
  have hD : va_D A [(out, .inl (cJ, 1, .inr (.inl (fun _ => 0))))] := hD
  have hK : va_K (dC, dI) cls [(cJ, .long)] s := hK
  obtain rfl : r1 = 0 := hw
  refine lv_i2l (v := 0) hx hb d_La_count_7 (by decide) ?_
  refine va_last hx hb hK hP hD hS 0 0 rfl rfl (i := 0) (show ¬ ((0 : Int32) < 0 ∨ 1 ≤ (0 : Int32).toNatClampNeg) by decide) d_La_count_8 (fun H locs hP hD hS => ?_)
  have hP : va_P (dC, dI) cls [(out, .inl (cJ, 1, .inr (.inl (vp_updL (fun _ => 0) (0 : Int32).toNatClampNeg 0))))] H := hP
  have hD : va_D A [(out, .inl (cJ, 1, .inr (.inl (vp_updL (fun _ => 0) (0 : Int32).toNatClampNeg 0))))] := hD
  refine lv_goto hx hb d_La_count_9 (tgt := 15) (by decide) ?_
  refine lv_iconst (v := 0) hx hb d_La_count_15 (by decide) ?_
  have hP9 := hP.sub (ws' := [(out, .inl (cJ, 1, .inr (.inl (vp_updL (fun _ => 0) (0 : Int32).toNatClampNeg 0))))]) [0] rfl
  have hD9 := hD.sub (ws' := [(out, .inl (cJ, 1, .inr (.inl (vp_updL (fun _ => 0) (0 : Int32).toNatClampNeg 0))))]) [0] (by decide) rfl
  have hK9 := hK.sub (tys' := [(cJ, .long)]) [0] rfl
  refine W.widen (k := 0) (n := 0) (Nat.le_of_ble_eq_true rfl) (Nat.le_of_ble_eq_true rfl) ?_
  exact W.iret (v := 0) hx hb hr (fun t ht hW => ⟨⟨_, (), rfl, rfl, by rw [ht]; exact hP9, va_K.moved hW.alike hK9, hD9⟩, hS.F ht⟩) hS.2.2 d_La_count_16
set_option maxHeartbeats 4000000 in
set_option maxRecDepth 100000 in
theorem c_La_count_6 (l : Launch) (dC : Nat → ClassId) (dI : Nat → Nat → Nat) (h0 : Nat) (out : Nat) (row : Nat) (nb : Nat) (wi : Nat) (ga : Nat) (sg : Nat) (tc : Nat) (st : Nat) (hp : Nat) (ec : Nat) (w1 : Nat) (w2 : Nat) (t1 : Nat) (t2 : Nat) (n1 : Nat) (n2 : Nat) (n3 : Nat) (g1 : Nat) (s1 : Nat) (s2 : Nat) (s3 : Nat) (s4 : Nat) (s5 : Nat) (cJ : ClassId) (sz : Nat) : Met l y_La_count [Cond.codeWith y_La_count b_La_count 4 (some .int) [(0, 9, 12, 19)]] ({ frames := 120, cells := 0, slots := 0, locals := 1800 }) (ux_Pc [.ref h0, .int 6, .ref out] (dC, dI) cls [(h0, .inr (0, [.ref row, .int 0, .int 0, .ref nb, .ref wi, .ref ga, .ref sg, .ref tc, .ref st, .ref hp, .ref ec, .ref row, .int 0, .int 0])), (wi, .inr (2, [.ref nb, .ref w1, .ref w2, .int 0, .int 0])), (tc, .inr (6, [.ref t1, .ref t2, .ref wi, .int 0, .int 0])), (nb, .inr (1, [.ref n1, .ref n2, .ref n3, .int 0, .int 0])), (ga, .inr (3, [.ref g1, .int 0])), (st, .inr (10, [.ref s1, .ref s2, .ref s3, .ref s4, .ref s5, .int 0])), (out, .inl (cJ, 1, .inr (.inl (fun _ => 0))))] [(cJ, .long)] sz) (va_Qi (fun (r : Int32) (_ : Unit) => r = 0) (fun (_ : Unit) (t : State) => ux_B (dC, dI) cls (va_A [(h0, .inr (0, [.ref row, .int 0, .int 0, .ref nb, .ref wi, .ref ga, .ref sg, .ref tc, .ref st, .ref hp, .ref ec, .ref row, .int 0, .int 0])), (wi, .inr (2, [.ref nb, .ref w1, .ref w2, .int 0, .int 0])), (tc, .inr (6, [.ref t1, .ref t2, .ref wi, .int 0, .int 0])), (nb, .inr (1, [.ref n1, .ref n2, .ref n3, .int 0, .int 0])), (ga, .inr (3, [.ref g1, .int 0])), (st, .inr (10, [.ref s1, .ref s2, .ref s3, .ref s4, .ref s5, .int 0])), (out, .inl (cJ, 1, .inr (.inl (fun _ => 0))))] sz) [(out, .inl (cJ, 1, .inr (.inl (vp_updL (fun _ => 0) (0 : Int32).toNatClampNeg 0))))] [(cJ, .long)] t) (va_A [(h0, .inr (0, [.ref row, .int 0, .int 0, .ref nb, .ref wi, .ref ga, .ref sg, .ref tc, .ref st, .ref hp, .ref ec, .ref row, .int 0, .int 0])), (wi, .inr (2, [.ref nb, .ref w1, .ref w2, .int 0, .int 0])), (tc, .inr (6, [.ref t1, .ref t2, .ref wi, .int 0, .int 0])), (nb, .inr (1, [.ref n1, .ref n2, .ref n3, .int 0, .int 0])), (ga, .inr (3, [.ref g1, .int 0])), (st, .inr (10, [.ref s1, .ref s2, .ref s3, .ref s4, .ref s5, .int 0])), (out, .inl (cJ, 1, .inr (.inl (fun _ => 0))))] sz)) 0 0 (va_A [(h0, .inr (0, [.ref row, .int 0, .int 0, .ref nb, .ref wi, .ref ga, .ref sg, .ref tc, .ref st, .ref hp, .ref ec, .ref row, .int 0, .int 0])), (wi, .inr (2, [.ref nb, .ref w1, .ref w2, .int 0, .int 0])), (tc, .inr (6, [.ref t1, .ref t2, .ref wi, .int 0, .int 0])), (nb, .inr (1, [.ref n1, .ref n2, .ref n3, .int 0, .int 0])), (ga, .inr (3, [.ref g1, .int 0])), (st, .inr (10, [.ref s1, .ref s2, .ref s3, .ref s4, .ref s5, .int 0])), (out, .inl (cJ, 1, .inr (.inl (fun _ => 0))))] sz) := by
  refine va_MetW (hh := [(0, 9, 12, 19)]) (cc := b_La_count) (maxL := 4) (ret := some .int) (by decide) rfl ?_
  intro p e s m args below meth c s₁ B hml hv
  obtain ⟨rfl, hsz, hP, hK, hD0, hT⟩ := hv
  have hx := B.exec
  have hb := B.bytes
  have hr := B.returns
  have hown : s.vm.findClass "UnikernelHttpLaw" = some m.cls := findClass_of_methodNamed B.named
  have hlocks := B.notSynchronized
  subst hsz
  have hD := hD0.self (sz := s.heap.size)
  have hns := ux_ns hP
  generalize hAe : va_A [(h0, .inr (0, [.ref row, .int 0, .int 0, .ref nb, .ref wi, .ref ga, .ref sg, .ref tc, .ref st, .ref hp, .ref ec, .ref row, .int 0, .int 0])), (wi, .inr (2, [.ref nb, .ref w1, .ref w2, .int 0, .int 0])), (tc, .inr (6, [.ref t1, .ref t2, .ref wi, .int 0, .int 0])), (nb, .inr (1, [.ref n1, .ref n2, .ref n3, .int 0, .int 0])), (ga, .inr (3, [.ref g1, .int 0])), (st, .inr (10, [.ref s1, .ref s2, .ref s3, .ref s4, .ref s5, .int 0])), (out, .inl (cJ, 1, .inr (.inl (fun _ => 0))))] s.heap.size = A at hD hns ⊢
  have hA : ∀ q : Nat, s.heap.size ≤ q → A q := fun q h => by rw [← hAe]; exact Or.inr h
  have hS : va_S A s.heap s.heap [] := va_S.rf
  have hl := lv_entry ([.ref h0, .int 6, .ref out]) (n := 4) (Nat.le_of_ble_eq_true rfl)
  rw [lg_entry_eq]
  generalize (lg_sl ([.ref h0, .int 6, .ref out]) ++ List.replicate (4 - (lg_sl ([.ref h0, .int 6, .ref out])).length) Slot.unset).toArray = ls at hl ⊢
  have hl : lv_has ls 4 [(0, .ref h0), (1, .int 6), (2, .ref out)] := hl
  have hfx : CallFix p m c b_La_count 4 s ([.ref h0, .int 6, .ref out] : List Value).toArray [] "UnikernelHttpLaw" := ⟨hx, hb, hml, hown, fun _ h => by cases h⟩
  refine lv_aload_n hx hb d_La_count_0 rfl (lv_at hl 2 rfl) ?_
  refine lv_iconst (v := 0) hx hb d_La_count_1 (by decide) ?_
  refine lv_aload_n hx hb d_La_count_2 rfl (lv_at hl 0 rfl) ?_
  refine lv_iload_n hx hb d_La_count_3 rfl (lv_at hl 1 rfl) ?_
  have hPc := hP.sub (ws' := [(h0, .inr (0, [.ref row, .int 0, .int 0, .ref nb, .ref wi, .ref ga, .ref sg, .ref tc, .ref st, .ref hp, .ref ec, .ref row, .int 0, .int 0])), (wi, .inr (2, [.ref nb, .ref w1, .ref w2, .int 0, .int 0])), (tc, .inr (6, [.ref t1, .ref t2, .ref wi, .int 0, .int 0])), (nb, .inr (1, [.ref n1, .ref n2, .ref n3, .int 0, .int 0])), (ga, .inr (3, [.ref g1, .int 0])), (st, .inr (10, [.ref s1, .ref s2, .ref s3, .ref s4, .ref s5, .int 0]))]) [0, 1, 2, 3, 4, 5] rfl
  have hDc := hD.sub (ws' := [(h0, .inr (0, [.ref row, .int 0, .int 0, .ref nb, .ref wi, .ref ga, .ref sg, .ref tc, .ref st, .ref hp, .ref ec, .ref row, .int 0, .int 0])), (wi, .inr (2, [.ref nb, .ref w1, .ref w2, .int 0, .int 0])), (tc, .inr (6, [.ref t1, .ref t2, .ref wi, .int 0, .int 0])), (nb, .inr (1, [.ref n1, .ref n2, .ref n3, .int 0, .int 0])), (ga, .inr (3, [.ref g1, .int 0])), (st, .inr (10, [.ref s1, .ref s2, .ref s3, .ref s4, .ref s5, .int 0]))]) [0, 1, 2, 3, 4, 5] (by decide) rfl
  have hKc := hK.sub (tys' := []) [] rfl
  have hFc := va_free (wc := [(h0, .inr (0, [.ref row, .int 0, .int 0, .ref nb, .ref wi, .ref ga, .ref sg, .ref tc, .ref st, .ref hp, .ref ec, .ref row, .int 0, .int 0])), (wi, .inr (2, [.ref nb, .ref w1, .ref w2, .int 0, .int 0])), (tc, .inr (6, [.ref t1, .ref t2, .ref wi, .int 0, .int 0])), (nb, .inr (1, [.ref n1, .ref n2, .ref n3, .int 0, .int 0])), (ga, .inr (3, [.ref g1, .int 0])), (st, .inr (10, [.ref s1, .ref s2, .ref s3, .ref s4, .ref s5, .int 0]))]) hD hS hA [0, 1, 2, 3, 4, 5] rfl
  have hkc : 0 + 0 ≤ 0 := (Nat.le_of_ble_eq_true rfl)
  refine va_calli (va_runV (As := [.int 6]) (rest := [.int 0, .ref out]) hfx (c_U_count_6 l dC dI h0 row nb wi ga sg tc st hp ec w1 w2 t1 t2 n1 n2 n3 g1 s1 s2 s3 s4 s5 s.heap.size) ⟨(ux_cb 1 hT tw_1454 tw_1451 tw_1 rfl rfl (by decide +kernel) ⟨(Nat.le_of_ble_eq_true rfl), (Nat.le_of_ble_eq_true rfl)⟩), (ux_T_at hT tw_1452 rfl), (ux_T_at hT tw_1453 rfl)⟩ (ux_preV (r := (R_U, F_U, 14)) (ci := 0) (q0 := 0) [.int 6] hT hPc hKc hDc rfl rfl) rfl rfl hl.1 rfl (lv_room (Nat.le_of_ble_eq_true rfl)) d_La_count_4 ⟨(Nat.le_of_ble_eq_true rfl), (Nat.le_of_ble_eq_true rfl)⟩) hS (fun q _ h => hFc q h) hFc (fun r1 u t H1 locs ht hvm hw hB hz1 hk1 hS => ?_)
  obtain ⟨hP1, hK1, hD1⟩ := hB
  rw [ht] at hP1
  have hK1 := va_K.moved hvm.symm hK1
  obtain ⟨hP, hD⟩ := va_join (wr := [(out, .inl (cJ, 1, .inr (.inl (fun _ => 0))))]) (w1 := []) hP hD [0, 1, 2, 3, 4, 5] [6] rfl rfl (by decide) (by decide) hk1 hFc hP1 hD1
  have hK := (hK.sub (tys' := [(cJ, .long)]) [0] rfl).app hK1
  generalize H1 = H at hP hS ⊢
  have hP : va_P (dC, dI) cls [(out, .inl (cJ, 1, .inr (.inl (fun _ => 0))))] H := hP
  have hD : va_D A [(out, .inl (cJ, 1, .inr (.inl (fun _ => 0))))] := hD
  have hK : va_K (dC, dI) cls [(cJ, .long)] s := hK
  obtain rfl : r1 = 0 := hw
  refine lv_i2l (v := 0) hx hb d_La_count_7 (by decide) ?_
  refine va_last hx hb hK hP hD hS 0 0 rfl rfl (i := 0) (show ¬ ((0 : Int32) < 0 ∨ 1 ≤ (0 : Int32).toNatClampNeg) by decide) d_La_count_8 (fun H locs hP hD hS => ?_)
  have hP : va_P (dC, dI) cls [(out, .inl (cJ, 1, .inr (.inl (vp_updL (fun _ => 0) (0 : Int32).toNatClampNeg 0))))] H := hP
  have hD : va_D A [(out, .inl (cJ, 1, .inr (.inl (vp_updL (fun _ => 0) (0 : Int32).toNatClampNeg 0))))] := hD
  refine lv_goto hx hb d_La_count_9 (tgt := 15) (by decide) ?_
  refine lv_iconst (v := 0) hx hb d_La_count_15 (by decide) ?_
  have hP9 := hP.sub (ws' := [(out, .inl (cJ, 1, .inr (.inl (vp_updL (fun _ => 0) (0 : Int32).toNatClampNeg 0))))]) [0] rfl
  have hD9 := hD.sub (ws' := [(out, .inl (cJ, 1, .inr (.inl (vp_updL (fun _ => 0) (0 : Int32).toNatClampNeg 0))))]) [0] (by decide) rfl
  have hK9 := hK.sub (tys' := [(cJ, .long)]) [0] rfl
  refine W.widen (k := 0) (n := 0) (Nat.le_of_ble_eq_true rfl) (Nat.le_of_ble_eq_true rfl) ?_
  exact W.iret (v := 0) hx hb hr (fun t ht hW => ⟨⟨_, (), rfl, rfl, by rw [ht]; exact hP9, va_K.moved hW.alike hK9, hD9⟩, hS.F ht⟩) hS.2.2 d_La_count_16
set_option maxHeartbeats 4000000 in
set_option maxRecDepth 100000 in
theorem c_La_count_7 (l : Launch) (dC : Nat → ClassId) (dI : Nat → Nat → Nat) (h0 : Nat) (out : Nat) (row : Nat) (nb : Nat) (wi : Nat) (ga : Nat) (sg : Nat) (tc : Nat) (st : Nat) (hp : Nat) (ec : Nat) (w1 : Nat) (w2 : Nat) (t1 : Nat) (t2 : Nat) (n1 : Nat) (n2 : Nat) (n3 : Nat) (g1 : Nat) (s1 : Nat) (s2 : Nat) (s3 : Nat) (s4 : Nat) (s5 : Nat) (cJ : ClassId) (sz : Nat) : Met l y_La_count [Cond.codeWith y_La_count b_La_count 4 (some .int) [(0, 9, 12, 19)]] ({ frames := 120, cells := 0, slots := 0, locals := 1800 }) (ux_Pc [.ref h0, .int 7, .ref out] (dC, dI) cls [(h0, .inr (0, [.ref row, .int 0, .int 0, .ref nb, .ref wi, .ref ga, .ref sg, .ref tc, .ref st, .ref hp, .ref ec, .ref row, .int 0, .int 0])), (wi, .inr (2, [.ref nb, .ref w1, .ref w2, .int 0, .int 0])), (tc, .inr (6, [.ref t1, .ref t2, .ref wi, .int 0, .int 0])), (nb, .inr (1, [.ref n1, .ref n2, .ref n3, .int 0, .int 0])), (ga, .inr (3, [.ref g1, .int 0])), (st, .inr (10, [.ref s1, .ref s2, .ref s3, .ref s4, .ref s5, .int 0])), (out, .inl (cJ, 1, .inr (.inl (fun _ => 0))))] [(cJ, .long)] sz) (va_Qi (fun (r : Int32) (_ : Unit) => r = 0) (fun (_ : Unit) (t : State) => ux_B (dC, dI) cls (va_A [(h0, .inr (0, [.ref row, .int 0, .int 0, .ref nb, .ref wi, .ref ga, .ref sg, .ref tc, .ref st, .ref hp, .ref ec, .ref row, .int 0, .int 0])), (wi, .inr (2, [.ref nb, .ref w1, .ref w2, .int 0, .int 0])), (tc, .inr (6, [.ref t1, .ref t2, .ref wi, .int 0, .int 0])), (nb, .inr (1, [.ref n1, .ref n2, .ref n3, .int 0, .int 0])), (ga, .inr (3, [.ref g1, .int 0])), (st, .inr (10, [.ref s1, .ref s2, .ref s3, .ref s4, .ref s5, .int 0])), (out, .inl (cJ, 1, .inr (.inl (fun _ => 0))))] sz) [(out, .inl (cJ, 1, .inr (.inl (vp_updL (fun _ => 0) (0 : Int32).toNatClampNeg 0))))] [(cJ, .long)] t) (va_A [(h0, .inr (0, [.ref row, .int 0, .int 0, .ref nb, .ref wi, .ref ga, .ref sg, .ref tc, .ref st, .ref hp, .ref ec, .ref row, .int 0, .int 0])), (wi, .inr (2, [.ref nb, .ref w1, .ref w2, .int 0, .int 0])), (tc, .inr (6, [.ref t1, .ref t2, .ref wi, .int 0, .int 0])), (nb, .inr (1, [.ref n1, .ref n2, .ref n3, .int 0, .int 0])), (ga, .inr (3, [.ref g1, .int 0])), (st, .inr (10, [.ref s1, .ref s2, .ref s3, .ref s4, .ref s5, .int 0])), (out, .inl (cJ, 1, .inr (.inl (fun _ => 0))))] sz)) 0 0 (va_A [(h0, .inr (0, [.ref row, .int 0, .int 0, .ref nb, .ref wi, .ref ga, .ref sg, .ref tc, .ref st, .ref hp, .ref ec, .ref row, .int 0, .int 0])), (wi, .inr (2, [.ref nb, .ref w1, .ref w2, .int 0, .int 0])), (tc, .inr (6, [.ref t1, .ref t2, .ref wi, .int 0, .int 0])), (nb, .inr (1, [.ref n1, .ref n2, .ref n3, .int 0, .int 0])), (ga, .inr (3, [.ref g1, .int 0])), (st, .inr (10, [.ref s1, .ref s2, .ref s3, .ref s4, .ref s5, .int 0])), (out, .inl (cJ, 1, .inr (.inl (fun _ => 0))))] sz) := by
  refine va_MetW (hh := [(0, 9, 12, 19)]) (cc := b_La_count) (maxL := 4) (ret := some .int) (by decide) rfl ?_
  intro p e s m args below meth c s₁ B hml hv
  obtain ⟨rfl, hsz, hP, hK, hD0, hT⟩ := hv
  have hx := B.exec
  have hb := B.bytes
  have hr := B.returns
  have hown : s.vm.findClass "UnikernelHttpLaw" = some m.cls := findClass_of_methodNamed B.named
  have hlocks := B.notSynchronized
  subst hsz
  have hD := hD0.self (sz := s.heap.size)
  have hns := ux_ns hP
  generalize hAe : va_A [(h0, .inr (0, [.ref row, .int 0, .int 0, .ref nb, .ref wi, .ref ga, .ref sg, .ref tc, .ref st, .ref hp, .ref ec, .ref row, .int 0, .int 0])), (wi, .inr (2, [.ref nb, .ref w1, .ref w2, .int 0, .int 0])), (tc, .inr (6, [.ref t1, .ref t2, .ref wi, .int 0, .int 0])), (nb, .inr (1, [.ref n1, .ref n2, .ref n3, .int 0, .int 0])), (ga, .inr (3, [.ref g1, .int 0])), (st, .inr (10, [.ref s1, .ref s2, .ref s3, .ref s4, .ref s5, .int 0])), (out, .inl (cJ, 1, .inr (.inl (fun _ => 0))))] s.heap.size = A at hD hns ⊢
  have hA : ∀ q : Nat, s.heap.size ≤ q → A q := fun q h => by rw [← hAe]; exact Or.inr h
  have hS : va_S A s.heap s.heap [] := va_S.rf
  have hl := lv_entry ([.ref h0, .int 7, .ref out]) (n := 4) (Nat.le_of_ble_eq_true rfl)
  rw [lg_entry_eq]
  generalize (lg_sl ([.ref h0, .int 7, .ref out]) ++ List.replicate (4 - (lg_sl ([.ref h0, .int 7, .ref out])).length) Slot.unset).toArray = ls at hl ⊢
  have hl : lv_has ls 4 [(0, .ref h0), (1, .int 7), (2, .ref out)] := hl
  have hfx : CallFix p m c b_La_count 4 s ([.ref h0, .int 7, .ref out] : List Value).toArray [] "UnikernelHttpLaw" := ⟨hx, hb, hml, hown, fun _ h => by cases h⟩
  refine lv_aload_n hx hb d_La_count_0 rfl (lv_at hl 2 rfl) ?_
  refine lv_iconst (v := 0) hx hb d_La_count_1 (by decide) ?_
  refine lv_aload_n hx hb d_La_count_2 rfl (lv_at hl 0 rfl) ?_
  refine lv_iload_n hx hb d_La_count_3 rfl (lv_at hl 1 rfl) ?_
  have hPc := hP.sub (ws' := [(h0, .inr (0, [.ref row, .int 0, .int 0, .ref nb, .ref wi, .ref ga, .ref sg, .ref tc, .ref st, .ref hp, .ref ec, .ref row, .int 0, .int 0])), (wi, .inr (2, [.ref nb, .ref w1, .ref w2, .int 0, .int 0])), (tc, .inr (6, [.ref t1, .ref t2, .ref wi, .int 0, .int 0])), (nb, .inr (1, [.ref n1, .ref n2, .ref n3, .int 0, .int 0])), (ga, .inr (3, [.ref g1, .int 0])), (st, .inr (10, [.ref s1, .ref s2, .ref s3, .ref s4, .ref s5, .int 0]))]) [0, 1, 2, 3, 4, 5] rfl
  have hDc := hD.sub (ws' := [(h0, .inr (0, [.ref row, .int 0, .int 0, .ref nb, .ref wi, .ref ga, .ref sg, .ref tc, .ref st, .ref hp, .ref ec, .ref row, .int 0, .int 0])), (wi, .inr (2, [.ref nb, .ref w1, .ref w2, .int 0, .int 0])), (tc, .inr (6, [.ref t1, .ref t2, .ref wi, .int 0, .int 0])), (nb, .inr (1, [.ref n1, .ref n2, .ref n3, .int 0, .int 0])), (ga, .inr (3, [.ref g1, .int 0])), (st, .inr (10, [.ref s1, .ref s2, .ref s3, .ref s4, .ref s5, .int 0]))]) [0, 1, 2, 3, 4, 5] (by decide) rfl
  have hKc := hK.sub (tys' := []) [] rfl
  have hFc := va_free (wc := [(h0, .inr (0, [.ref row, .int 0, .int 0, .ref nb, .ref wi, .ref ga, .ref sg, .ref tc, .ref st, .ref hp, .ref ec, .ref row, .int 0, .int 0])), (wi, .inr (2, [.ref nb, .ref w1, .ref w2, .int 0, .int 0])), (tc, .inr (6, [.ref t1, .ref t2, .ref wi, .int 0, .int 0])), (nb, .inr (1, [.ref n1, .ref n2, .ref n3, .int 0, .int 0])), (ga, .inr (3, [.ref g1, .int 0])), (st, .inr (10, [.ref s1, .ref s2, .ref s3, .ref s4, .ref s5, .int 0]))]) hD hS hA [0, 1, 2, 3, 4, 5] rfl
  have hkc : 0 + 0 ≤ 0 := (Nat.le_of_ble_eq_true rfl)
  refine va_calli (va_runV (As := [.int 7]) (rest := [.int 0, .ref out]) hfx (c_U_count_7 l dC dI h0 row nb wi ga sg tc st hp ec w1 w2 t1 t2 n1 n2 n3 g1 s1 s2 s3 s4 s5 s.heap.size) ⟨(ux_cb 1 hT tw_1454 tw_1451 tw_1 rfl rfl (by decide +kernel) ⟨(Nat.le_of_ble_eq_true rfl), (Nat.le_of_ble_eq_true rfl)⟩), (ux_T_at hT tw_1452 rfl), (ux_T_at hT tw_1453 rfl)⟩ (ux_preV (r := (R_U, F_U, 14)) (ci := 0) (q0 := 0) [.int 7] hT hPc hKc hDc rfl rfl) rfl rfl hl.1 rfl (lv_room (Nat.le_of_ble_eq_true rfl)) d_La_count_4 ⟨(Nat.le_of_ble_eq_true rfl), (Nat.le_of_ble_eq_true rfl)⟩) hS (fun q _ h => hFc q h) hFc (fun r1 u t H1 locs ht hvm hw hB hz1 hk1 hS => ?_)
  obtain ⟨hP1, hK1, hD1⟩ := hB
  rw [ht] at hP1
  have hK1 := va_K.moved hvm.symm hK1
  obtain ⟨hP, hD⟩ := va_join (wr := [(out, .inl (cJ, 1, .inr (.inl (fun _ => 0))))]) (w1 := []) hP hD [0, 1, 2, 3, 4, 5] [6] rfl rfl (by decide) (by decide) hk1 hFc hP1 hD1
  have hK := (hK.sub (tys' := [(cJ, .long)]) [0] rfl).app hK1
  generalize H1 = H at hP hS ⊢
  have hP : va_P (dC, dI) cls [(out, .inl (cJ, 1, .inr (.inl (fun _ => 0))))] H := hP
  have hD : va_D A [(out, .inl (cJ, 1, .inr (.inl (fun _ => 0))))] := hD
  have hK : va_K (dC, dI) cls [(cJ, .long)] s := hK
  obtain rfl : r1 = 0 := hw
  refine lv_i2l (v := 0) hx hb d_La_count_7 (by decide) ?_
  refine va_last hx hb hK hP hD hS 0 0 rfl rfl (i := 0) (show ¬ ((0 : Int32) < 0 ∨ 1 ≤ (0 : Int32).toNatClampNeg) by decide) d_La_count_8 (fun H locs hP hD hS => ?_)
  have hP : va_P (dC, dI) cls [(out, .inl (cJ, 1, .inr (.inl (vp_updL (fun _ => 0) (0 : Int32).toNatClampNeg 0))))] H := hP
  have hD : va_D A [(out, .inl (cJ, 1, .inr (.inl (vp_updL (fun _ => 0) (0 : Int32).toNatClampNeg 0))))] := hD
  refine lv_goto hx hb d_La_count_9 (tgt := 15) (by decide) ?_
  refine lv_iconst (v := 0) hx hb d_La_count_15 (by decide) ?_
  have hP9 := hP.sub (ws' := [(out, .inl (cJ, 1, .inr (.inl (vp_updL (fun _ => 0) (0 : Int32).toNatClampNeg 0))))]) [0] rfl
  have hD9 := hD.sub (ws' := [(out, .inl (cJ, 1, .inr (.inl (vp_updL (fun _ => 0) (0 : Int32).toNatClampNeg 0))))]) [0] (by decide) rfl
  have hK9 := hK.sub (tys' := [(cJ, .long)]) [0] rfl
  refine W.widen (k := 0) (n := 0) (Nat.le_of_ble_eq_true rfl) (Nat.le_of_ble_eq_true rfl) ?_
  exact W.iret (v := 0) hx hb hr (fun t ht hW => ⟨⟨_, (), rfl, rfl, by rw [ht]; exact hP9, va_K.moved hW.alike hK9, hD9⟩, hS.F ht⟩) hS.2.2 d_La_count_16
set_option maxHeartbeats 4000000 in
set_option maxRecDepth 100000 in
theorem c_La_count_no (l : Launch) (hfl : l.flags = flags0) (dC : Nat → ClassId) (dI : Nat → Nat → Nat) (h0 : Nat) (out : Nat) (row : Nat) (nb : Nat) (wi : Nat) (ga : Nat) (sg : Nat) (tc : Nat) (st : Nat) (hp : Nat) (ec : Nat) (cJ : ClassId) (p0 : Int32) (hn : p0.toInt < 0 ∨ 7 < p0.toInt) (sz : Nat) : Met l y_La_count [Cond.codeWith y_La_count b_La_count 4 (some .int) [(0, 9, 12, 19)]] ({ frames := 120, cells := 1, slots := 6, locals := 1800 }) (ux_PcH [.ref h0, .int p0, .ref out] (dC, dI) cls [(h0, .inr (0, [.ref row, .int 0, .int 0, .ref nb, .ref wi, .ref ga, .ref sg, .ref tc, .ref st, .ref hp, .ref ec, .ref row, .int 0, .int 0])), (out, .inl (cJ, 1, .inr (.inl (fun _ => 0))))] [(cJ, .long)] sz) (va_Qi (fun (r : Int32) (_ : Unit) => r = 1) (fun (_ : Unit) (t : State) => ux_B (dC, dI) cls (va_A [(h0, .inr (0, [.ref row, .int 0, .int 0, .ref nb, .ref wi, .ref ga, .ref sg, .ref tc, .ref st, .ref hp, .ref ec, .ref row, .int 0, .int 0])), (out, .inl (cJ, 1, .inr (.inl (fun _ => 0))))] sz) [(out, .inl (cJ, 1, .inr (.inl (fun _ => 0))))] [(cJ, .long)] t) (va_A [(h0, .inr (0, [.ref row, .int 0, .int 0, .ref nb, .ref wi, .ref ga, .ref sg, .ref tc, .ref st, .ref hp, .ref ec, .ref row, .int 0, .int 0])), (out, .inl (cJ, 1, .inr (.inl (fun _ => 0))))] sz)) 1 6 (va_A [(h0, .inr (0, [.ref row, .int 0, .int 0, .ref nb, .ref wi, .ref ga, .ref sg, .ref tc, .ref st, .ref hp, .ref ec, .ref row, .int 0, .int 0])), (out, .inl (cJ, 1, .inr (.inl (fun _ => 0))))] sz) := by
  refine va_MetW (hh := [(0, 9, 12, 19)]) (cc := b_La_count) (maxL := 4) (ret := some .int) (by decide) rfl ?_
  intro p e s m args below meth c s₁ B hml hv
  obtain ⟨⟨rfl, hsz, hP, hK, hD0, hT⟩, hH⟩ := hv
  have hx := B.exec
  have hb := B.bytes
  have hr := B.returns
  have hown : s.vm.findClass "UnikernelHttpLaw" = some m.cls := findClass_of_methodNamed B.named
  have hlocks := B.notSynchronized
  subst hsz
  have hD := hD0.self (sz := s.heap.size)
  have hns := ux_ns hP
  generalize hAe : va_A [(h0, .inr (0, [.ref row, .int 0, .int 0, .ref nb, .ref wi, .ref ga, .ref sg, .ref tc, .ref st, .ref hp, .ref ec, .ref row, .int 0, .int 0])), (out, .inl (cJ, 1, .inr (.inl (fun _ => 0))))] s.heap.size = A at hD hns ⊢
  have hA : ∀ q : Nat, s.heap.size ≤ q → A q := fun q h => by rw [← hAe]; exact Or.inr h
  have hS : va_S A s.heap s.heap [] := va_S.rf
  have hl := lv_entry ([.ref h0, .int p0, .ref out]) (n := 4) (Nat.le_of_ble_eq_true rfl)
  rw [lg_entry_eq]
  generalize (lg_sl ([.ref h0, .int p0, .ref out]) ++ List.replicate (4 - (lg_sl ([.ref h0, .int p0, .ref out])).length) Slot.unset).toArray = ls at hl ⊢
  have hl : lv_has ls 4 [(0, .ref h0), (1, .int p0), (2, .ref out)] := hl
  have hfx : CallFix p m c b_La_count 4 s ([.ref h0, .int p0, .ref out] : List Value).toArray [] "UnikernelHttpLaw" := ⟨hx, hb, hml, hown, fun _ h => by cases h⟩
  refine lv_aload_n hx hb d_La_count_0 rfl (lv_at hl 2 rfl) ?_
  refine lv_iconst (v := 0) hx hb d_La_count_1 (by decide) ?_
  refine lv_aload_n hx hb d_La_count_2 rfl (lv_at hl 0 rfl) ?_
  refine lv_iload_n hx hb d_La_count_3 rfl (lv_at hl 1 rfl) ?_
  have hPc := hP.sub (ws' := [(h0, .inr (0, [.ref row, .int 0, .int 0, .ref nb, .ref wi, .ref ga, .ref sg, .ref tc, .ref st, .ref hp, .ref ec, .ref row, .int 0, .int 0]))]) [0] rfl
  have hDc := hD.sub (ws' := [(h0, .inr (0, [.ref row, .int 0, .int 0, .ref nb, .ref wi, .ref ga, .ref sg, .ref tc, .ref st, .ref hp, .ref ec, .ref row, .int 0, .int 0]))]) [0] (by decide) rfl
  have hKc := hK.sub (tys' := []) [] rfl
  have hFc := va_free (wc := [(h0, .inr (0, [.ref row, .int 0, .int 0, .ref nb, .ref wi, .ref ga, .ref sg, .ref tc, .ref st, .ref hp, .ref ec, .ref row, .int 0, .int 0]))]) hD hS hA [0] rfl
  have hkc : 0 + 1 ≤ 1 := (Nat.le_of_ble_eq_true rfl)
  obtain ⟨more, htab⟩ := ux_tab B (atoms_spec (ws := [Cond.codeWith y_La_count b_La_count 4 (some .int) [(0, 9, 12, 19)]]) B.pre _ List.mem_cons_self)
  refine ux_run (own := "UnikernelHttpLaw") (E := "java/lang/IllegalArgumentException") (A0 := A) (H0 := s.heap) (As := [.int p0]) (rest := [.int 0, .ref out]) hfx (c_U_count_no l hfl dC dI h0 row nb wi ga sg tc st hp ec p0 hn s.heap.size) ⟨(ux_cb 1 hT tw_1454 tw_1451 tw_1 rfl rfl (by decide +kernel) ⟨(Nat.le_of_ble_eq_true rfl), (Nat.le_of_ble_eq_true rfl)⟩), (ux_T_at hT tw_1452 rfl), (ux_T_at hT tw_1453 rfl)⟩ (ux_preHV (r := (R_U, F_U, 14)) (ci := 0) (q0 := 0) [.int p0] hT hH (fun _ _ => rfl) hPc hKc hDc rfl rfl) htab (by decide) (by decide) (ux_T_at hT tw_566 rfl) rfl hl.1 rfl (Nat.le_of_ble_eq_true rfl) d_La_count_4 ⟨(Nat.le_of_ble_eq_true rfl), (Nat.le_of_ble_eq_true rfl)⟩ hS (fun q h => hFc q h) (ux_XQ hFc) (fun v st₀ t H1 locs1 _ _ _ hq _ => (ux_Xno hq).elim) (fun z1 st₀ t H1 locs h0_ ht hal hq hS => ?_)
  have hk1 : ∀ q : Nat, q < s.heap.size → ¬ va_A [(h0, .inr (0, [.ref row, .int 0, .int 0, .ref nb, .ref wi, .ref ga, .ref sg, .ref tc, .ref st, .ref hp, .ref ec, .ref row, .int 0, .int 0]))] s.heap.size q → H1[q]? = s.heap[q]? := fun q h1 h2 => by rw [← ht, ← h0_]; exact hq.2.2 q (by rw [h0_]; exact h1) h2
  obtain ⟨hP, hD⟩ := va_join (wr := [(out, .inl (cJ, 1, .inr (.inl (fun _ => 0))))]) (w1 := []) hP hD [0] [1] rfl rfl (by decide) (by decide) hk1 hFc ux_P0 ux_D0
  generalize H1 = H at hP hS ⊢
  have hP : va_P (dC, dI) cls [(out, .inl (cJ, 1, .inr (.inl (fun _ => 0))))] H := hP
  have hD : va_D A [(out, .inl (cJ, 1, .inr (.inl (fun _ => 0))))] := hD
  refine W.eq (g2 := F0 m 12 ls [.ref z1]) rfl ?_
  refine lv_astore_n hx hb d_La_count_12 rfl hl (by decide) rfl (fun ls hl => ?_)
  have hl : lv_has ls 4 [(3, .ref z1), (0, .ref h0), (1, .int p0), (2, .ref out)] := hl
  refine lv_iconst (v := 1) hx hb d_La_count_13 (by decide) ?_
  have hP9 := hP.sub (ws' := [(out, .inl (cJ, 1, .inr (.inl (fun _ => 0))))]) [0] rfl
  have hD9 := hD.sub (ws' := [(out, .inl (cJ, 1, .inr (.inl (fun _ => 0))))]) [0] (by decide) rfl
  have hK9 := hK.sub (tys' := [(cJ, .long)]) [0] rfl
  refine W.widen (k := 1) (n := 6) (Nat.le_of_ble_eq_true rfl) (Nat.le_of_ble_eq_true rfl) ?_
  exact W.iret (v := 1) hx hb hr (fun t ht hW => ⟨⟨_, (), rfl, rfl, by rw [ht]; exact hP9, va_K.moved hW.alike hK9, hD9⟩, hS.F ht⟩) hS.2.2 d_La_count_14
set_option maxHeartbeats 4000000 in
set_option maxRecDepth 100000 in
theorem c_La_connection (l : Launch) (hfl : l.flags = flags0) (dC : Nat → ClassId) (dI : Nat → Nat → Nat) (h0 : Nat) (out : Nat) (row : Nat) (nb : Nat) (wi : Nat) (ga : Nat) (sg : Nat) (tc : Nat) (st : Nat) (hp : Nat) (ec : Nat) (t1 : Nat) (t2 : Nat) (cJ : ClassId) (p0 : Int32) (p1 : Int32) (p2 : Int32) (sz : Nat) : Met l y_La_connection [Cond.codeWith y_La_connection b_La_connection 6 (some .int) [(0, 12, 15, 50), (0, 12, 19, 19)]] ({ frames := 120, cells := 1, slots := 6, locals := 1800 }) (ux_PcH [.ref h0, .int p0, .int p1, .int p2, .ref out] (dC, dI) cls [(h0, .inr (0, [.ref row, .int 0, .int 0, .ref nb, .ref wi, .ref ga, .ref sg, .ref tc, .ref st, .ref hp, .ref ec, .ref row, .int 0, .int 0])), (tc, .inr (6, [.ref t1, .ref t2, .ref wi, .int 0, .int 0])), (out, .inl (cJ, 1, .inr (.inl (fun _ => 0))))] [(cJ, .long)] sz) (va_Qi (fun (r : Int32) (_ : Unit) => r = 1) (fun (_ : Unit) (t : State) => ux_B (dC, dI) cls (va_A [(h0, .inr (0, [.ref row, .int 0, .int 0, .ref nb, .ref wi, .ref ga, .ref sg, .ref tc, .ref st, .ref hp, .ref ec, .ref row, .int 0, .int 0])), (tc, .inr (6, [.ref t1, .ref t2, .ref wi, .int 0, .int 0])), (out, .inl (cJ, 1, .inr (.inl (fun _ => 0))))] sz) [(out, .inl (cJ, 1, .inr (.inl (fun _ => 0))))] [(cJ, .long)] t) (va_A [(h0, .inr (0, [.ref row, .int 0, .int 0, .ref nb, .ref wi, .ref ga, .ref sg, .ref tc, .ref st, .ref hp, .ref ec, .ref row, .int 0, .int 0])), (tc, .inr (6, [.ref t1, .ref t2, .ref wi, .int 0, .int 0])), (out, .inl (cJ, 1, .inr (.inl (fun _ => 0))))] sz)) 1 6 (va_A [(h0, .inr (0, [.ref row, .int 0, .int 0, .ref nb, .ref wi, .ref ga, .ref sg, .ref tc, .ref st, .ref hp, .ref ec, .ref row, .int 0, .int 0])), (tc, .inr (6, [.ref t1, .ref t2, .ref wi, .int 0, .int 0])), (out, .inl (cJ, 1, .inr (.inl (fun _ => 0))))] sz) := by
  refine va_MetW (hh := [(0, 12, 15, 50), (0, 12, 19, 19)]) (cc := b_La_connection) (maxL := 6) (ret := some .int) (by decide) rfl ?_
  intro p e s m args below meth c s₁ B hml hv
  obtain ⟨⟨rfl, hsz, hP, hK, hD0, hT⟩, hH⟩ := hv
  have hx := B.exec
  have hb := B.bytes
  have hr := B.returns
  have hown : s.vm.findClass "UnikernelHttpLaw" = some m.cls := findClass_of_methodNamed B.named
  have hlocks := B.notSynchronized
  subst hsz
  have hD := hD0.self (sz := s.heap.size)
  have hns := ux_ns hP
  generalize hAe : va_A [(h0, .inr (0, [.ref row, .int 0, .int 0, .ref nb, .ref wi, .ref ga, .ref sg, .ref tc, .ref st, .ref hp, .ref ec, .ref row, .int 0, .int 0])), (tc, .inr (6, [.ref t1, .ref t2, .ref wi, .int 0, .int 0])), (out, .inl (cJ, 1, .inr (.inl (fun _ => 0))))] s.heap.size = A at hD hns ⊢
  have hA : ∀ q : Nat, s.heap.size ≤ q → A q := fun q h => by rw [← hAe]; exact Or.inr h
  have hS : va_S A s.heap s.heap [] := va_S.rf
  have hl := lv_entry ([.ref h0, .int p0, .int p1, .int p2, .ref out]) (n := 6) (Nat.le_of_ble_eq_true rfl)
  rw [lg_entry_eq]
  generalize (lg_sl ([.ref h0, .int p0, .int p1, .int p2, .ref out]) ++ List.replicate (6 - (lg_sl ([.ref h0, .int p0, .int p1, .int p2, .ref out])).length) Slot.unset).toArray = ls at hl ⊢
  have hl : lv_has ls 6 [(0, .ref h0), (1, .int p0), (2, .int p1), (3, .int p2), (4, .ref out)] := hl
  have hfx : CallFix p m c b_La_connection 6 s ([.ref h0, .int p0, .int p1, .int p2, .ref out] : List Value).toArray [] "UnikernelHttpLaw" := ⟨hx, hb, hml, hown, fun _ h => by cases h⟩
  refine lv_aload hx hb d_La_connection_0 (lv_at hl 4 rfl) ?_
  refine lv_iconst (v := 0) hx hb d_La_connection_2 (by decide) ?_
  refine lv_aload_n hx hb d_La_connection_3 rfl (lv_at hl 0 rfl) ?_
  refine lv_iload_n hx hb d_La_connection_4 rfl (lv_at hl 1 rfl) ?_
  refine lv_iload_n hx hb d_La_connection_5 rfl (lv_at hl 2 rfl) ?_
  refine lv_iload_n hx hb d_La_connection_6 rfl (lv_at hl 3 rfl) ?_
  have hPc := hP.sub (ws' := [(h0, .inr (0, [.ref row, .int 0, .int 0, .ref nb, .ref wi, .ref ga, .ref sg, .ref tc, .ref st, .ref hp, .ref ec, .ref row, .int 0, .int 0])), (tc, .inr (6, [.ref t1, .ref t2, .ref wi, .int 0, .int 0]))]) [0, 1] rfl
  have hDc := hD.sub (ws' := [(h0, .inr (0, [.ref row, .int 0, .int 0, .ref nb, .ref wi, .ref ga, .ref sg, .ref tc, .ref st, .ref hp, .ref ec, .ref row, .int 0, .int 0])), (tc, .inr (6, [.ref t1, .ref t2, .ref wi, .int 0, .int 0]))]) [0, 1] (by decide) rfl
  have hKc := hK.sub (tys' := []) [] rfl
  have hFc := va_free (wc := [(h0, .inr (0, [.ref row, .int 0, .int 0, .ref nb, .ref wi, .ref ga, .ref sg, .ref tc, .ref st, .ref hp, .ref ec, .ref row, .int 0, .int 0])), (tc, .inr (6, [.ref t1, .ref t2, .ref wi, .int 0, .int 0]))]) hD hS hA [0, 1] rfl
  have hkc : 0 + 1 ≤ 1 := (Nat.le_of_ble_eq_true rfl)
  obtain ⟨more, htab⟩ := ux_tab B (atoms_spec (ws := [Cond.codeWith y_La_connection b_La_connection 6 (some .int) [(0, 12, 15, 50), (0, 12, 19, 19)]]) B.pre _ List.mem_cons_self)
  refine ux_run (own := "UnikernelHttpLaw") (E := "java/util/NoSuchElementException") (A0 := A) (H0 := s.heap) (As := [.int p0, .int p1, .int p2]) (rest := [.int 0, .ref out]) hfx (c_U_connection l hfl dC dI h0 row nb wi ga sg tc st hp ec t1 t2 p0 p1 p2 s.heap.size) ⟨(ux_cb 3 hT tw_1462 tw_1459 tw_1 rfl rfl (by decide +kernel) ⟨(Nat.le_of_ble_eq_true rfl), (Nat.le_of_ble_eq_true rfl)⟩), (ux_T_at hT tw_1460 rfl), (ux_T_at hT tw_1461 rfl)⟩ (ux_preHV (r := (R_U, F_U, 14)) (ci := 0) (q0 := 0) [.int p0, .int p1, .int p2] hT hH (fun _ _ => rfl) hPc hKc hDc rfl rfl) htab (by decide) (by decide) (ux_T_at hT tw_1458 rfl) rfl hl.1 rfl (Nat.le_of_ble_eq_true rfl) d_La_connection_7 ⟨(Nat.le_of_ble_eq_true rfl), (Nat.le_of_ble_eq_true rfl)⟩ hS (fun q h => hFc q h) (ux_XQ hFc) (fun v st₀ t H1 locs1 _ _ _ hq _ => (ux_Xno hq).elim) (fun z1 st₀ t H1 locs h0_ ht hal hq hS => ?_)
  have hk1 : ∀ q : Nat, q < s.heap.size → ¬ va_A [(h0, .inr (0, [.ref row, .int 0, .int 0, .ref nb, .ref wi, .ref ga, .ref sg, .ref tc, .ref st, .ref hp, .ref ec, .ref row, .int 0, .int 0])), (tc, .inr (6, [.ref t1, .ref t2, .ref wi, .int 0, .int 0]))] s.heap.size q → H1[q]? = s.heap[q]? := fun q h1 h2 => by rw [← ht, ← h0_]; exact hq.2.2 q (by rw [h0_]; exact h1) h2
  obtain ⟨hP, hD⟩ := va_join (wr := [(out, .inl (cJ, 1, .inr (.inl (fun _ => 0))))]) (w1 := []) hP hD [0, 1] [2] rfl rfl (by decide) (by decide) hk1 hFc ux_P0 ux_D0
  generalize H1 = H at hP hS ⊢
  have hP : va_P (dC, dI) cls [(out, .inl (cJ, 1, .inr (.inl (fun _ => 0))))] H := hP
  have hD : va_D A [(out, .inl (cJ, 1, .inr (.inl (fun _ => 0))))] := hD
  refine W.eq (g2 := F0 m 15 ls [.ref z1]) rfl ?_
  refine lv_astore hx hb d_La_connection_15 hl (by decide) rfl (fun ls hl => ?_)
  have hl : lv_has ls 6 [(5, .ref z1), (0, .ref h0), (1, .int p0), (2, .int p1), (3, .int p2), (4, .ref out)] := hl
  refine lv_iconst (v := 1) hx hb d_La_connection_17 (by decide) ?_
  have hP9 := hP.sub (ws' := [(out, .inl (cJ, 1, .inr (.inl (fun _ => 0))))]) [0] rfl
  have hD9 := hD.sub (ws' := [(out, .inl (cJ, 1, .inr (.inl (fun _ => 0))))]) [0] (by decide) rfl
  have hK9 := hK.sub (tys' := [(cJ, .long)]) [0] rfl
  refine W.widen (k := 1) (n := 6) (Nat.le_of_ble_eq_true rfl) (Nat.le_of_ble_eq_true rfl) ?_
  exact W.iret (v := 1) hx hb hr (fun t ht hW => ⟨⟨_, (), rfl, rfl, by rw [ht]; exact hP9, va_K.moved hW.alike hK9, hD9⟩, hS.F ht⟩) hS.2.2 d_La_connection_18
