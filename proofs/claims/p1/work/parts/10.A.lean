/-! Which words the rows behind use, by their places. -/
theorem tw_5 : (Jvm.Cond.initialized "UnikernelHttp$Gathering") ∈ lw_tbl := ux_in 5 ux_t1 rfl
theorem tw_9 : (Jvm.Cond.initialized "UnikernelHttp$Inbox") ∈ lw_tbl := ux_in 9 ux_t1 rfl
theorem tw_10 : (Jvm.Cond.initialized "UnikernelHttp$Outbox") ∈ lw_tbl := ux_in 10 ux_t1 rfl
theorem tw_40 : (Jvm.Cond.instanceMethod ({ cls := "java/lang/Object", name := "<init>", desc := "()V" } : Jvm.MethodName)) ∈ lw_tbl := ux_in 40 ux_t1 rfl
theorem tw_41 : (Jvm.Cond.code ({ cls := "java/lang/Object", name := "<init>", desc := "()V" } : Jvm.MethodName) object_method_1_code (1 : Nat) (Option.none : Option Jvm.ClassFile.FieldType)) ∈ lw_tbl := ux_in 41 ux_t1 rfl
theorem tw_47 : (Jvm.Cond.methodLink "UnikernelHttp$Neighbours" (3 : Nat) ({ cls := "java/lang/Object", name := "<init>", desc := "()V" } : Jvm.MethodName)) ∈ lw_tbl := ux_in 47 ux_t1 rfl
theorem tw_48 : (Jvm.Cond.fieldLink "UnikernelHttp$Neighbours" (9 : Nat) "UnikernelHttp$Neighbours" "addresses" "[I") ∈ lw_tbl := ux_in 48 ux_t1 rfl
theorem tw_49 : (Jvm.Cond.fieldLink "UnikernelHttp$Neighbours" (15 : Nat) "UnikernelHttp$Neighbours" "hardware" "[J") ∈ lw_tbl := ux_in 49 ux_t1 rfl
theorem tw_51 : (Jvm.Cond.fieldLink "UnikernelHttp$Neighbours" (19 : Nat) "UnikernelHttp$Neighbours" "heard" "[I") ∈ lw_tbl := ux_in 51 ux_t1 rfl
theorem tw_66 : (Jvm.Cond.arrayClass Jvm.ClassFile.FieldType.byte) ∈ lw_tbl := ux_in 66 ux_t1 rfl
theorem tw_67 : (Jvm.Cond.arrayClass Jvm.ClassFile.FieldType.int) ∈ lw_tbl := ux_in 67 ux_t1 rfl
theorem tw_68 : (Jvm.Cond.arrayClass Jvm.ClassFile.FieldType.long) ∈ lw_tbl := ux_in 68 ux_t1 rfl
theorem tw_74 : (Jvm.Cond.methodLink "UnikernelHttp$Wire" (3 : Nat) ({ cls := "java/lang/Object", name := "<init>", desc := "()V" } : Jvm.MethodName)) ∈ lw_tbl := ux_in 74 ux_t1 rfl
theorem tw_75 : (Jvm.Cond.constant "UnikernelHttp$Wire" (9 : Nat) (97152 : Int32)) ∈ lw_tbl := ux_in 75 ux_t1 rfl
theorem tw_76 : (Jvm.Cond.fieldLink "UnikernelHttp$Wire" (20 : Nat) "UnikernelHttp$Wire" "neighbours" "LUnikernelHttp$Neighbours;") ∈ lw_tbl := ux_in 76 ux_t1 rfl
theorem tw_77 : (Jvm.Cond.fieldLink "UnikernelHttp$Wire" (10 : Nat) "UnikernelHttp$Wire" "frames" "[B") ∈ lw_tbl := ux_in 77 ux_t1 rfl
theorem tw_78 : (Jvm.Cond.fieldLink "UnikernelHttp$Wire" (16 : Nat) "UnikernelHttp$Wire" "sizes" "[I") ∈ lw_tbl := ux_in 78 ux_t1 rfl
theorem tw_100 : (Jvm.Cond.methodLink "UnikernelHttp$Gatherings" (3 : Nat) ({ cls := "java/lang/Object", name := "<init>", desc := "()V" } : Jvm.MethodName)) ∈ lw_tbl := ux_in 100 ux_t1 rfl
theorem tw_101 : (Jvm.Cond.classLink "UnikernelHttp$Gatherings" (9 : Nat) "UnikernelHttp$Gathering") ∈ lw_tbl := ux_in 101 ux_t1 rfl
theorem tw_102 : (Jvm.Cond.arrayOver (Jvm.ClassFile.FieldType.object "UnikernelHttp$Gathering")) ∈ lw_tbl := ux_in 102 ux_t1 rfl
theorem tw_103 : (Jvm.Cond.instantiable "UnikernelHttp$Gathering" (9 : Nat)) ∈ lw_tbl := ux_in 103 ux_t1 rfl
theorem tw_104 : (Jvm.Cond.methodLinkNest "UnikernelHttp$Gatherings" (17 : Nat) ({ cls := "UnikernelHttp$Gathering", name := "<init>", desc := "()V" } : Jvm.MethodName) "UnikernelHttp") ∈ lw_tbl := ux_in 104 ux_t1 rfl
theorem tw_105 : (Jvm.Cond.instanceMethod ({ cls := "UnikernelHttp$Gathering", name := "<init>", desc := "()V" } : Jvm.MethodName)) ∈ lw_tbl := ux_in 105 ux_t1 rfl
theorem tw_106 : (Jvm.Cond.code ({ cls := "UnikernelHttp$Gathering", name := "<init>", desc := "()V" } : Jvm.MethodName) prog_3_method_1_code (1 : Nat) (Option.none : Option Jvm.ClassFile.FieldType)) ∈ lw_tbl := ux_in 106 ux_t1 rfl
theorem tw_107 : (Jvm.Cond.methodLink "UnikernelHttp$Gathering" (3 : Nat) ({ cls := "java/lang/Object", name := "<init>", desc := "()V" } : Jvm.MethodName)) ∈ lw_tbl := ux_in 107 ux_t1 rfl
theorem tw_108 : (Jvm.Cond.fieldLink "UnikernelHttp$Gathering" (9 : Nat) "UnikernelHttp$Gathering" "content" "[B") ∈ lw_tbl := ux_in 108 ux_t1 rfl
theorem tw_110 : (Jvm.Cond.fieldLink "UnikernelHttp$Gathering" (15 : Nat) "UnikernelHttp$Gathering" "there" "[B") ∈ lw_tbl := ux_in 110 ux_t1 rfl
theorem tw_142 : (Jvm.Cond.fieldLink "UnikernelHttp$Gatherings" (11 : Nat) "UnikernelHttp$Gatherings" "list" "[LUnikernelHttp$Gathering;") ∈ lw_tbl := ux_in 142 ux_t1 rfl
theorem tw_155 : (Jvm.Cond.methodLink "UnikernelHttp$Segment" (3 : Nat) ({ cls := "java/lang/Object", name := "<init>", desc := "()V" } : Jvm.MethodName)) ∈ lw_tbl := ux_in 155 ux_t1 rfl
theorem tw_156 : (Jvm.Cond.fieldLink "UnikernelHttp$Segment" (9 : Nat) "UnikernelHttp$Segment" "from" "[B") ∈ lw_tbl := ux_in 156 ux_t1 rfl
theorem tw_226 : (Jvm.Cond.methodLink "UnikernelHttp$Connection" (3 : Nat) ({ cls := "java/lang/Object", name := "<init>", desc := "()V" } : Jvm.MethodName)) ∈ lw_tbl := ux_in 226 ux_t1 rfl
theorem tw_227 : (Jvm.Cond.classLink "UnikernelHttp$Connection" (9 : Nat) "UnikernelHttp$Inbox") ∈ lw_tbl := ux_in 227 ux_t1 rfl
theorem tw_228 : (Jvm.Cond.instantiable "UnikernelHttp$Inbox" (7 : Nat)) ∈ lw_tbl := ux_in 228 ux_t1 rfl
theorem tw_229 : (Jvm.Cond.methodLinkNest "UnikernelHttp$Connection" (11 : Nat) ({ cls := "UnikernelHttp$Inbox", name := "<init>", desc := "()V" } : Jvm.MethodName) "UnikernelHttp") ∈ lw_tbl := ux_in 229 ux_t1 rfl
theorem tw_230 : (Jvm.Cond.instanceMethod ({ cls := "UnikernelHttp$Inbox", name := "<init>", desc := "()V" } : Jvm.MethodName)) ∈ lw_tbl := ux_in 230 ux_t1 rfl
theorem tw_231 : (Jvm.Cond.code ({ cls := "UnikernelHttp$Inbox", name := "<init>", desc := "()V" } : Jvm.MethodName) prog_6_method_1_code (1 : Nat) (Option.none : Option Jvm.ClassFile.FieldType)) ∈ lw_tbl := ux_in 231 ux_t1 rfl
theorem tw_232 : (Jvm.Cond.methodLink "UnikernelHttp$Inbox" (3 : Nat) ({ cls := "java/lang/Object", name := "<init>", desc := "()V" } : Jvm.MethodName)) ∈ lw_tbl := ux_in 232 ux_t1 rfl
theorem tw_233 : (Jvm.Cond.fieldLink "UnikernelHttp$Inbox" (9 : Nat) "UnikernelHttp$Inbox" "content" "[B") ∈ lw_tbl := ux_in 233 ux_t1 rfl
theorem tw_235 : (Jvm.Cond.fieldLink "UnikernelHttp$Inbox" (15 : Nat) "UnikernelHttp$Inbox" "there" "[B") ∈ lw_tbl := ux_in 235 ux_t1 rfl
theorem tw_262 : (Jvm.Cond.classLink "UnikernelHttp$Connection" (18 : Nat) "UnikernelHttp$Outbox") ∈ lw_tbl := ux_in 22 ux_t2 rfl
theorem tw_263 : (Jvm.Cond.instantiable "UnikernelHttp$Outbox" (5 : Nat)) ∈ lw_tbl := ux_in 23 ux_t2 rfl
theorem tw_264 : (Jvm.Cond.methodLinkNest "UnikernelHttp$Connection" (20 : Nat) ({ cls := "UnikernelHttp$Outbox", name := "<init>", desc := "()V" } : Jvm.MethodName) "UnikernelHttp") ∈ lw_tbl := ux_in 24 ux_t2 rfl
theorem tw_265 : (Jvm.Cond.instanceMethod ({ cls := "UnikernelHttp$Outbox", name := "<init>", desc := "()V" } : Jvm.MethodName)) ∈ lw_tbl := ux_in 25 ux_t2 rfl
theorem tw_266 : (Jvm.Cond.code ({ cls := "UnikernelHttp$Outbox", name := "<init>", desc := "()V" } : Jvm.MethodName) prog_8_method_1_code (1 : Nat) (Option.none : Option Jvm.ClassFile.FieldType)) ∈ lw_tbl := ux_in 26 ux_t2 rfl
theorem tw_267 : (Jvm.Cond.methodLink "UnikernelHttp$Outbox" (3 : Nat) ({ cls := "java/lang/Object", name := "<init>", desc := "()V" } : Jvm.MethodName)) ∈ lw_tbl := ux_in 27 ux_t2 rfl
theorem tw_268 : (Jvm.Cond.fieldLink "UnikernelHttp$Outbox" (9 : Nat) "UnikernelHttp$Outbox" "content" "[B") ∈ lw_tbl := ux_in 28 ux_t2 rfl
theorem tw_294 : (Jvm.Cond.fieldLink "UnikernelHttp$Connection" (12 : Nat) "UnikernelHttp$Connection" "inbox" "LUnikernelHttp$Inbox;") ∈ lw_tbl := ux_in 54 ux_t2 rfl
theorem tw_298 : (Jvm.Cond.fieldLink "UnikernelHttp$Connection" (21 : Nat) "UnikernelHttp$Connection" "outbox" "LUnikernelHttp$Outbox;") ∈ lw_tbl := ux_in 58 ux_t2 rfl
abbrev b_N_init : ByteArray := prog_7_method_1_code
abbrev y_N_init : MethodName := ⟨"UnikernelHttp$Neighbours", "<init>", "()V"⟩
theorem d_N_init_0 : decode b_N_init 0 = .ok (.aload_n 0, 1) := by decide +kernel
theorem d_N_init_1 : decode b_N_init 1 = .ok (.invokespecial 3, 3) := by decide +kernel
theorem d_N_init_4 : decode b_N_init 4 = .ok (.aload_n 0, 1) := by decide +kernel
theorem d_N_init_5 : decode b_N_init 5 = .ok (.bipush 16, 2) := by decide +kernel
theorem d_N_init_7 : decode b_N_init 7 = .ok (.newarray .int, 2) := by decide +kernel
theorem d_N_init_9 : decode b_N_init 9 = .ok (.putfield 9, 3) := by decide +kernel
theorem d_N_init_12 : decode b_N_init 12 = .ok (.aload_n 0, 1) := by decide +kernel
theorem d_N_init_13 : decode b_N_init 13 = .ok (.bipush 16, 2) := by decide +kernel
theorem d_N_init_15 : decode b_N_init 15 = .ok (.newarray .long, 2) := by decide +kernel
theorem d_N_init_17 : decode b_N_init 17 = .ok (.putfield 15, 3) := by decide +kernel
theorem d_N_init_20 : decode b_N_init 20 = .ok (.aload_n 0, 1) := by decide +kernel
theorem d_N_init_21 : decode b_N_init 21 = .ok (.bipush 16, 2) := by decide +kernel
theorem d_N_init_23 : decode b_N_init 23 = .ok (.newarray .int, 2) := by decide +kernel
theorem d_N_init_25 : decode b_N_init 25 = .ok (.putfield 19, 3) := by decide +kernel
theorem d_N_init_28 : decode b_N_init 28 = .ok (.return_, 1) := by decide +kernel
abbrev b_Wi_init : ByteArray := prog_12_method_1_code
abbrev y_Wi_init : MethodName := ⟨"UnikernelHttp$Wire", "<init>", "(LUnikernelHttp$Neighbours;)V"⟩
theorem d_Wi_init_0 : decode b_Wi_init 0 = .ok (.aload_n 0, 1) := by decide +kernel
theorem d_Wi_init_1 : decode b_Wi_init 1 = .ok (.invokespecial 3, 3) := by decide +kernel
theorem d_Wi_init_4 : decode b_Wi_init 4 = .ok (.aload_n 0, 1) := by decide +kernel
theorem d_Wi_init_5 : decode b_Wi_init 5 = .ok (.ldc 9, 2) := by decide +kernel
theorem d_Wi_init_7 : decode b_Wi_init 7 = .ok (.newarray .byte, 2) := by decide +kernel
theorem d_Wi_init_9 : decode b_Wi_init 9 = .ok (.putfield 10, 3) := by decide +kernel
theorem d_Wi_init_12 : decode b_Wi_init 12 = .ok (.aload_n 0, 1) := by decide +kernel
theorem d_Wi_init_13 : decode b_Wi_init 13 = .ok (.bipush 64, 2) := by decide +kernel
theorem d_Wi_init_15 : decode b_Wi_init 15 = .ok (.newarray .int, 2) := by decide +kernel
theorem d_Wi_init_17 : decode b_Wi_init 17 = .ok (.putfield 16, 3) := by decide +kernel
theorem d_Wi_init_20 : decode b_Wi_init 20 = .ok (.aload_n 0, 1) := by decide +kernel
theorem d_Wi_init_21 : decode b_Wi_init 21 = .ok (.aload_n 1, 1) := by decide +kernel
theorem d_Wi_init_22 : decode b_Wi_init 22 = .ok (.putfield 20, 3) := by decide +kernel
theorem d_Wi_init_25 : decode b_Wi_init 25 = .ok (.return_, 1) := by decide +kernel
abbrev b_G_init : ByteArray := prog_3_method_1_code
abbrev y_G_init : MethodName := ⟨"UnikernelHttp$Gathering", "<init>", "()V"⟩
theorem d_G_init_0 : decode b_G_init 0 = .ok (.aload_n 0, 1) := by decide +kernel
theorem d_G_init_1 : decode b_G_init 1 = .ok (.invokespecial 3, 3) := by decide +kernel
theorem d_G_init_4 : decode b_G_init 4 = .ok (.aload_n 0, 1) := by decide +kernel
theorem d_G_init_5 : decode b_G_init 5 = .ok (.sipush 4096, 3) := by decide +kernel
theorem d_G_init_8 : decode b_G_init 8 = .ok (.newarray .byte, 2) := by decide +kernel
theorem d_G_init_10 : decode b_G_init 10 = .ok (.putfield 9, 3) := by decide +kernel
theorem d_G_init_13 : decode b_G_init 13 = .ok (.aload_n 0, 1) := by decide +kernel
theorem d_G_init_14 : decode b_G_init 14 = .ok (.sipush 4096, 3) := by decide +kernel
theorem d_G_init_17 : decode b_G_init 17 = .ok (.newarray .byte, 2) := by decide +kernel
theorem d_G_init_19 : decode b_G_init 19 = .ok (.putfield 15, 3) := by decide +kernel
theorem d_G_init_22 : decode b_G_init 22 = .ok (.return_, 1) := by decide +kernel
abbrev b_Gs_init : ByteArray := prog_4_method_1_code
abbrev y_Gs_init : MethodName := ⟨"UnikernelHttp$Gatherings", "<init>", "()V"⟩
theorem d_Gs_init_0 : decode b_Gs_init 0 = .ok (.aload_n 0, 1) := by decide +kernel
theorem d_Gs_init_1 : decode b_Gs_init 1 = .ok (.invokespecial 3, 3) := by decide +kernel
theorem d_Gs_init_4 : decode b_Gs_init 4 = .ok (.aload_n 0, 1) := by decide +kernel
theorem d_Gs_init_5 : decode b_Gs_init 5 = .ok (.iconst 4, 1) := by decide +kernel
theorem d_Gs_init_6 : decode b_Gs_init 6 = .ok (.anewarray 9, 3) := by decide +kernel
theorem d_Gs_init_9 : decode b_Gs_init 9 = .ok (.putfield 11, 3) := by decide +kernel
theorem d_Gs_init_12 : decode b_Gs_init 12 = .ok (.iconst 0, 1) := by decide +kernel
theorem d_Gs_init_13 : decode b_Gs_init 13 = .ok (.istore_n 1, 1) := by decide +kernel
theorem d_Gs_init_14 : decode b_Gs_init 14 = .ok (.iload_n 1, 1) := by decide +kernel
theorem d_Gs_init_15 : decode b_Gs_init 15 = .ok (.iconst 4, 1) := by decide +kernel
theorem d_Gs_init_16 : decode b_Gs_init 16 = .ok (.if_icmp .ge 22, 3) := by decide +kernel
theorem d_Gs_init_19 : decode b_Gs_init 19 = .ok (.aload_n 0, 1) := by decide +kernel
theorem d_Gs_init_20 : decode b_Gs_init 20 = .ok (.getfield 11, 3) := by decide +kernel
theorem d_Gs_init_23 : decode b_Gs_init 23 = .ok (.iload_n 1, 1) := by decide +kernel
theorem d_Gs_init_24 : decode b_Gs_init 24 = .ok (.new 9, 3) := by decide +kernel
theorem d_Gs_init_27 : decode b_Gs_init 27 = .ok (.dup, 1) := by decide +kernel
theorem d_Gs_init_28 : decode b_Gs_init 28 = .ok (.invokespecial 17, 3) := by decide +kernel
theorem d_Gs_init_31 : decode b_Gs_init 31 = .ok (.aastore, 1) := by decide +kernel
theorem d_Gs_init_32 : decode b_Gs_init 32 = .ok (.iinc 1 1, 3) := by decide +kernel
theorem d_Gs_init_35 : decode b_Gs_init 35 = .ok (.goto (-21), 3) := by decide +kernel
theorem d_Gs_init_38 : decode b_Gs_init 38 = .ok (.return_, 1) := by decide +kernel
abbrev b_Sg_init : ByteArray := prog_9_method_1_code
abbrev y_Sg_init : MethodName := ⟨"UnikernelHttp$Segment", "<init>", "()V"⟩
theorem d_Sg_init_0 : decode b_Sg_init 0 = .ok (.aload_n 0, 1) := by decide +kernel
theorem d_Sg_init_1 : decode b_Sg_init 1 = .ok (.invokespecial 3, 3) := by decide +kernel
theorem d_Sg_init_4 : decode b_Sg_init 4 = .ok (.aload_n 0, 1) := by decide +kernel
theorem d_Sg_init_5 : decode b_Sg_init 5 = .ok (.iconst 0, 1) := by decide +kernel
theorem d_Sg_init_6 : decode b_Sg_init 6 = .ok (.newarray .byte, 2) := by decide +kernel
theorem d_Sg_init_8 : decode b_Sg_init 8 = .ok (.putfield 9, 3) := by decide +kernel
theorem d_Sg_init_11 : decode b_Sg_init 11 = .ok (.return_, 1) := by decide +kernel
abbrev b_In_init : ByteArray := prog_6_method_1_code
abbrev y_In_init : MethodName := ⟨"UnikernelHttp$Inbox", "<init>", "()V"⟩
theorem d_In_init_0 : decode b_In_init 0 = .ok (.aload_n 0, 1) := by decide +kernel
theorem d_In_init_1 : decode b_In_init 1 = .ok (.invokespecial 3, 3) := by decide +kernel
theorem d_In_init_4 : decode b_In_init 4 = .ok (.aload_n 0, 1) := by decide +kernel
theorem d_In_init_5 : decode b_In_init 5 = .ok (.sipush 2048, 3) := by decide +kernel
theorem d_In_init_8 : decode b_In_init 8 = .ok (.newarray .byte, 2) := by decide +kernel
theorem d_In_init_10 : decode b_In_init 10 = .ok (.putfield 9, 3) := by decide +kernel
theorem d_In_init_13 : decode b_In_init 13 = .ok (.aload_n 0, 1) := by decide +kernel
theorem d_In_init_14 : decode b_In_init 14 = .ok (.sipush 2048, 3) := by decide +kernel
theorem d_In_init_17 : decode b_In_init 17 = .ok (.newarray .byte, 2) := by decide +kernel
theorem d_In_init_19 : decode b_In_init 19 = .ok (.putfield 15, 3) := by decide +kernel
theorem d_In_init_22 : decode b_In_init 22 = .ok (.return_, 1) := by decide +kernel
abbrev b_Ou_init : ByteArray := prog_8_method_1_code
abbrev y_Ou_init : MethodName := ⟨"UnikernelHttp$Outbox", "<init>", "()V"⟩
theorem d_Ou_init_0 : decode b_Ou_init 0 = .ok (.aload_n 0, 1) := by decide +kernel
theorem d_Ou_init_1 : decode b_Ou_init 1 = .ok (.invokespecial 3, 3) := by decide +kernel
theorem d_Ou_init_4 : decode b_Ou_init 4 = .ok (.aload_n 0, 1) := by decide +kernel
theorem d_Ou_init_5 : decode b_Ou_init 5 = .ok (.sipush 4096, 3) := by decide +kernel
theorem d_Ou_init_8 : decode b_Ou_init 8 = .ok (.newarray .byte, 2) := by decide +kernel
theorem d_Ou_init_10 : decode b_Ou_init 10 = .ok (.putfield 9, 3) := by decide +kernel
theorem d_Ou_init_13 : decode b_Ou_init 13 = .ok (.return_, 1) := by decide +kernel
abbrev b_Co_init : ByteArray := prog_2_method_1_code
abbrev y_Co_init : MethodName := ⟨"UnikernelHttp$Connection", "<init>", "()V"⟩
theorem d_Co_init_0 : decode b_Co_init 0 = .ok (.aload_n 0, 1) := by decide +kernel
theorem d_Co_init_1 : decode b_Co_init 1 = .ok (.invokespecial 3, 3) := by decide +kernel
theorem d_Co_init_4 : decode b_Co_init 4 = .ok (.aload_n 0, 1) := by decide +kernel
theorem d_Co_init_5 : decode b_Co_init 5 = .ok (.new 9, 3) := by decide +kernel
theorem d_Co_init_8 : decode b_Co_init 8 = .ok (.dup, 1) := by decide +kernel
theorem d_Co_init_9 : decode b_Co_init 9 = .ok (.invokespecial 11, 3) := by decide +kernel
theorem d_Co_init_12 : decode b_Co_init 12 = .ok (.putfield 12, 3) := by decide +kernel
theorem d_Co_init_15 : decode b_Co_init 15 = .ok (.aload_n 0, 1) := by decide +kernel
theorem d_Co_init_16 : decode b_Co_init 16 = .ok (.new 18, 3) := by decide +kernel
theorem d_Co_init_19 : decode b_Co_init 19 = .ok (.dup, 1) := by decide +kernel
theorem d_Co_init_20 : decode b_Co_init 20 = .ok (.invokespecial 20, 3) := by decide +kernel
theorem d_Co_init_23 : decode b_Co_init 23 = .ok (.putfield 21, 3) := by decide +kernel
theorem d_Co_init_26 : decode b_Co_init 26 = .ok (.return_, 1) := by decide +kernel
set_option maxHeartbeats 4000000 in
set_option maxRecDepth 100000 in
theorem c_N_init (l : Launch) (dC : Nat → ClassId) (dI : Nat → Nat → Nat) (h0 : Nat) (sz : Nat) : Met l y_N_init [Cond.code y_N_init b_N_init 1 (none)] ({ frames := 20, cells := 3, slots := 48, locals := 300 }) (ux_Pc [.ref h0] (dC, dI) cls [(h0, .inr (1, [.null, .null, .null, .int 0, .int 0]))] [] sz) (va_Qv (fun _ : Unit => True) (fun (_ : Unit) (t : State) => ∃ (q1 : Nat), ∃ (q2 : Nat), ∃ (q3 : Nat), ux_B (dC, dI) cls (va_A [(h0, .inr (1, [.null, .null, .null, .int 0, .int 0]))] sz) [(h0, .inr (1, [.ref q1, .ref q2, .ref q3, .int 0, .int 0]))] [] t) (va_A [(h0, .inr (1, [.null, .null, .null, .int 0, .int 0]))] sz)) 3 48 (va_A [(h0, .inr (1, [.null, .null, .null, .int 0, .int 0]))] sz) := by
  refine Met.ofW (cc := b_N_init) (maxL := 1) (ret := none) (by decide) rfl ?_
  intro p e s m args below meth c s₁ B hml hv
  obtain ⟨rfl, hsz, hP, hK, hD0, hT⟩ := hv
  have hx := B.exec
  have hb := B.bytes
  have hr := B.returns
  have hown : s.vm.findClass "UnikernelHttp$Neighbours" = some m.cls := findClass_of_methodNamed B.named
  have hlocks := B.notSynchronized
  have hin : meth.name = "<init>" := (name_of_methodNamed B.named B.method).1
  subst hsz
  have hD := hD0.self (sz := s.heap.size)
  have hns := ux_ns hP
  generalize hAe : va_A [(h0, .inr (1, [.null, .null, .null, .int 0, .int 0]))] s.heap.size = A at hD hns ⊢
  have hA : ∀ q : Nat, s.heap.size ≤ q → A q := fun q h => by rw [← hAe]; exact Or.inr h
  have hS : va_S A s.heap s.heap [] := va_S.rf
  have hl := lv_entry ([.ref h0]) (n := 1) (Nat.le_of_ble_eq_true rfl)
  rw [lg_entry_eq]
  generalize (lg_sl ([.ref h0]) ++ List.replicate (1 - (lg_sl ([.ref h0])).length) Slot.unset).toArray = ls at hl ⊢
  have hl : lv_has ls 1 [(0, .ref h0)] := hl
  have hfx : CallFix p m c b_N_init 1 s ([.ref h0] : List Value).toArray [] "UnikernelHttp$Neighbours" := ⟨hx, hb, hml, hown, fun _ h => by cases h⟩
  refine lv_aload_n hx hb d_N_init_0 rfl (lv_at hl 0 rfl) ?_
  refine W.objInit hx hb hown (ux_T_at hT tw_47 rfl) (ux_T_at hT tw_40 rfl) (ux_T_at hT tw_41 rfl) rfl (by rw [hml]; exact hl.1) rfl d_N_init_1 (Nat.le_of_ble_eq_true rfl) (Nat.le_of_ble_eq_true rfl) ?_
  refine W.eq (g2 := F0 m 4 ls []) rfl ?_
  refine lv_aload_n hx hb d_N_init_4 rfl (lv_at hl 0 rfl) ?_
  refine lv_bipush (v := 16) hx hb d_N_init_5 (by decide) ?_
  refine va_newa (atype := .int) (ty := .int) (N' := 16) (a0 := (16, .inl (fun _ => 0))) hx hb (ux_T_at hT tw_67 rfl) rfl hK hP hD hS hA (fun _ => rfl) (by decide) (by decide +kernel) (by decide +kernel) (Nat.le_of_ble_eq_true rfl) (Nat.le_of_ble_eq_true rfl) d_N_init_7 (fun q1 cA2 H hK hP hD hS => ?_)
  have hP : va_P (dC, dI) cls [(h0, .inr (1, [.null, .null, .null, .int 0, .int 0])), (q1, .inl (cA2, 16, .inl (fun _ => 0)))] H := hP
  have hD : va_D A [(h0, .inr (1, [.null, .null, .null, .int 0, .int 0])), (q1, .inl (cA2, 16, .inl (fun _ => 0)))] := hD
  have hK : va_K (dC, dI) cls [(cA2, .int)] s := hK
  refine va_putF (D := (dC, dI)) (ci := 1) (v := .ref q1) (ty := .array .int) (C := R_N) (T := F_N) (N := 5) hx hb (u_N hT) (fun _ h => h) t_N k_N n_N hown hK hP hD hS 0 rfl rfl 0 (by decide) (ux_T_at hT tw_48 rfl) (fun _ h9 => h9) rfl hin rfl (by decide +kernel) rfl rfl (Nat.le_of_ble_eq_true rfl) d_N_init_9 (fun H locs hP hD hS => ?_)
  have hP : va_P (dC, dI) cls [(h0, .inr (1, [.ref q1, .null, .null, .int 0, .int 0])), (q1, .inl (cA2, 16, .inl (fun _ => 0)))] H := hP
  have hD : va_D A [(h0, .inr (1, [.ref q1, .null, .null, .int 0, .int 0])), (q1, .inl (cA2, 16, .inl (fun _ => 0)))] := hD
  have hP := hP.sub (ws' := [(h0, .inr (1, [.ref q1, .null, .null, .int 0, .int 0]))]) [0] rfl
  have hD := hD.sub (ws' := [(h0, .inr (1, [.ref q1, .null, .null, .int 0, .int 0]))]) [0] (by decide) rfl
  refine lv_aload_n hx hb d_N_init_12 rfl (lv_at hl 0 rfl) ?_
  refine lv_bipush (v := 16) hx hb d_N_init_13 (by decide) ?_
  refine va_newa (atype := .long) (ty := .long) (N' := 16) (a0 := (16, .inr (.inl (fun _ => 0)))) hx hb (ux_T_at hT tw_68 rfl) rfl hK hP hD hS hA (fun _ => rfl) (by decide) (by decide +kernel) (by decide +kernel) (Nat.le_of_ble_eq_true rfl) (Nat.le_of_ble_eq_true rfl) d_N_init_15 (fun q3 cA4 H hK hP hD hS => ?_)
  have hP : va_P (dC, dI) cls [(h0, .inr (1, [.ref q1, .null, .null, .int 0, .int 0])), (q3, .inl (cA4, 16, .inr (.inl (fun _ => 0))))] H := hP
  have hD : va_D A [(h0, .inr (1, [.ref q1, .null, .null, .int 0, .int 0])), (q3, .inl (cA4, 16, .inr (.inl (fun _ => 0))))] := hD
  have hK : va_K (dC, dI) cls [(cA2, .int), (cA4, .long)] s := hK
  refine va_putF (D := (dC, dI)) (ci := 1) (v := .ref q3) (ty := .array .long) (C := R_N) (T := F_N) (N := 5) hx hb (u_N hT) (fun _ h => h) t_N k_N n_N hown hK hP hD hS 0 rfl rfl 1 (by decide) (ux_T_at hT tw_49 rfl) (fun _ h9 => h9) rfl hin rfl (by decide +kernel) rfl rfl (Nat.le_of_ble_eq_true rfl) d_N_init_17 (fun H locs hP hD hS => ?_)
  have hP : va_P (dC, dI) cls [(h0, .inr (1, [.ref q1, .ref q3, .null, .int 0, .int 0])), (q3, .inl (cA4, 16, .inr (.inl (fun _ => 0))))] H := hP
  have hD : va_D A [(h0, .inr (1, [.ref q1, .ref q3, .null, .int 0, .int 0])), (q3, .inl (cA4, 16, .inr (.inl (fun _ => 0))))] := hD
  have hP := hP.sub (ws' := [(h0, .inr (1, [.ref q1, .ref q3, .null, .int 0, .int 0]))]) [0] rfl
  have hD := hD.sub (ws' := [(h0, .inr (1, [.ref q1, .ref q3, .null, .int 0, .int 0]))]) [0] (by decide) rfl
  refine lv_aload_n hx hb d_N_init_20 rfl (lv_at hl 0 rfl) ?_
  refine lv_bipush (v := 16) hx hb d_N_init_21 (by decide) ?_
  refine va_newa (atype := .int) (ty := .int) (N' := 16) (a0 := (16, .inl (fun _ => 0))) hx hb (ux_T_at hT tw_67 rfl) rfl hK hP hD hS hA (fun _ => rfl) (by decide) (by decide +kernel) (by decide +kernel) (Nat.le_of_ble_eq_true rfl) (Nat.le_of_ble_eq_true rfl) d_N_init_23 (fun q5 cA6 H hK hP hD hS => ?_)
  have hP : va_P (dC, dI) cls [(h0, .inr (1, [.ref q1, .ref q3, .null, .int 0, .int 0])), (q5, .inl (cA6, 16, .inl (fun _ => 0)))] H := hP
  have hD : va_D A [(h0, .inr (1, [.ref q1, .ref q3, .null, .int 0, .int 0])), (q5, .inl (cA6, 16, .inl (fun _ => 0)))] := hD
  have hK : va_K (dC, dI) cls [(cA2, .int), (cA4, .long), (cA6, .int)] s := hK
  refine va_putF (D := (dC, dI)) (ci := 1) (v := .ref q5) (ty := .array .int) (C := R_N) (T := F_N) (N := 5) hx hb (u_N hT) (fun _ h => h) t_N k_N n_N hown hK hP hD hS 0 rfl rfl 2 (by decide) (ux_T_at hT tw_51 rfl) (fun _ h9 => h9) rfl hin rfl (by decide +kernel) rfl rfl (Nat.le_of_ble_eq_true rfl) d_N_init_25 (fun H locs hP hD hS => ?_)
  have hP : va_P (dC, dI) cls [(h0, .inr (1, [.ref q1, .ref q3, .ref q5, .int 0, .int 0])), (q5, .inl (cA6, 16, .inl (fun _ => 0)))] H := hP
  have hD : va_D A [(h0, .inr (1, [.ref q1, .ref q3, .ref q5, .int 0, .int 0])), (q5, .inl (cA6, 16, .inl (fun _ => 0)))] := hD
  have hP := hP.sub (ws' := [(h0, .inr (1, [.ref q1, .ref q3, .ref q5, .int 0, .int 0]))]) [0] rfl
  have hD := hD.sub (ws' := [(h0, .inr (1, [.ref q1, .ref q3, .ref q5, .int 0, .int 0]))]) [0] (by decide) rfl
  have hP9 := hP.sub (ws' := [(h0, .inr (1, [.ref q1, .ref q3, .ref q5, .int 0, .int 0]))]) [0] rfl
  have hD9 := hD.sub (ws' := [(h0, .inr (1, [.ref q1, .ref q3, .ref q5, .int 0, .int 0]))]) [0] (by decide) rfl
  have hK9 := hK.sub (tys' := []) [] rfl
  refine W.widen (k := 3) (n := 48) (Nat.le_of_ble_eq_true rfl) (Nat.le_of_ble_eq_true rfl) ?_
  exact W.vret hx hb hr (fun t ht hW => ⟨⟨(), rfl, trivial, q1, q3, q5, by rw [ht]; exact hP9, va_K.moved hW.alike hK9, hD9⟩, hS.F ht⟩) hS.2.2 d_N_init_28
set_option maxHeartbeats 4000000 in
set_option maxRecDepth 100000 in
theorem c_Wi_init (l : Launch) (dC : Nat → ClassId) (dI : Nat → Nat → Nat) (h0 : Nat) (nb : Nat) (sz : Nat) : Met l y_Wi_init [Cond.code y_Wi_init b_Wi_init 2 (none)] ({ frames := 20, cells := 2, slots := 97216, locals := 300 }) (ux_Pc [.ref h0, .ref nb] (dC, dI) cls [(h0, .inr (2, [.null, .null, .null, .int 0, .int 0]))] [] sz) (va_Qv (fun _ : Unit => True) (fun (_ : Unit) (t : State) => ∃ (q1 : Nat), ∃ (q2 : Nat), ux_B (dC, dI) cls (va_A [(h0, .inr (2, [.null, .null, .null, .int 0, .int 0]))] sz) [(h0, .inr (2, [.ref nb, .ref q1, .ref q2, .int 0, .int 0]))] [] t) (va_A [(h0, .inr (2, [.null, .null, .null, .int 0, .int 0]))] sz)) 2 97216 (va_A [(h0, .inr (2, [.null, .null, .null, .int 0, .int 0]))] sz) := by
  refine Met.ofW (cc := b_Wi_init) (maxL := 2) (ret := none) (by decide) rfl ?_
  intro p e s m args below meth c s₁ B hml hv
  obtain ⟨rfl, hsz, hP, hK, hD0, hT⟩ := hv
  have hx := B.exec
  have hb := B.bytes
  have hr := B.returns
  have hown : s.vm.findClass "UnikernelHttp$Wire" = some m.cls := findClass_of_methodNamed B.named
  have hlocks := B.notSynchronized
  have hin : meth.name = "<init>" := (name_of_methodNamed B.named B.method).1
  subst hsz
  have hD := hD0.self (sz := s.heap.size)
  have hns := ux_ns hP
  generalize hAe : va_A [(h0, .inr (2, [.null, .null, .null, .int 0, .int 0]))] s.heap.size = A at hD hns ⊢
  have hA : ∀ q : Nat, s.heap.size ≤ q → A q := fun q h => by rw [← hAe]; exact Or.inr h
  have hS : va_S A s.heap s.heap [] := va_S.rf
  have hl := lv_entry ([.ref h0, .ref nb]) (n := 2) (Nat.le_of_ble_eq_true rfl)
  rw [lg_entry_eq]
  generalize (lg_sl ([.ref h0, .ref nb]) ++ List.replicate (2 - (lg_sl ([.ref h0, .ref nb])).length) Slot.unset).toArray = ls at hl ⊢
  have hl : lv_has ls 2 [(0, .ref h0), (1, .ref nb)] := hl
  have hfx : CallFix p m c b_Wi_init 2 s ([.ref h0, .ref nb] : List Value).toArray [] "UnikernelHttp$Wire" := ⟨hx, hb, hml, hown, fun _ h => by cases h⟩
  refine lv_aload_n hx hb d_Wi_init_0 rfl (lv_at hl 0 rfl) ?_
  refine W.objInit hx hb hown (ux_T_at hT tw_74 rfl) (ux_T_at hT tw_40 rfl) (ux_T_at hT tw_41 rfl) rfl (by rw [hml]; exact hl.1) rfl d_Wi_init_1 (Nat.le_of_ble_eq_true rfl) (Nat.le_of_ble_eq_true rfl) ?_
  refine W.eq (g2 := F0 m 4 ls []) rfl ?_
  refine lv_aload_n hx hb d_Wi_init_4 rfl (lv_at hl 0 rfl) ?_
  refine lv_ldc (own := "UnikernelHttp$Wire") (v := 97152) hx hb hown (ux_T_at hT tw_75 rfl) d_Wi_init_5 ?_
  refine va_newa (atype := .byte) (ty := .byte) (N' := 97152) (a0 := (97152, .inl (fun _ => 0))) hx hb (ux_T_at hT tw_66 rfl) rfl hK hP hD hS hA (fun _ => rfl) (by decide) (by decide +kernel) (by decide +kernel) (Nat.le_of_ble_eq_true rfl) (Nat.le_of_ble_eq_true rfl) d_Wi_init_7 (fun q1 cA2 H hK hP hD hS => ?_)
  have hP : va_P (dC, dI) cls [(h0, .inr (2, [.null, .null, .null, .int 0, .int 0])), (q1, .inl (cA2, 97152, .inl (fun _ => 0)))] H := hP
  have hD : va_D A [(h0, .inr (2, [.null, .null, .null, .int 0, .int 0])), (q1, .inl (cA2, 97152, .inl (fun _ => 0)))] := hD
  have hK : va_K (dC, dI) cls [(cA2, .byte)] s := hK
  refine va_putF (D := (dC, dI)) (ci := 2) (v := .ref q1) (ty := .array .byte) (C := R_Wi) (T := F_Wi) (N := 5) hx hb (u_Wi hT) (fun _ h => h) t_Wi k_Wi n_Wi hown hK hP hD hS 0 rfl rfl 1 (by decide) (ux_T_at hT tw_77 rfl) (fun _ h9 => h9) rfl hin rfl (by decide +kernel) rfl rfl (Nat.le_of_ble_eq_true rfl) d_Wi_init_9 (fun H locs hP hD hS => ?_)
  have hP : va_P (dC, dI) cls [(h0, .inr (2, [.null, .ref q1, .null, .int 0, .int 0])), (q1, .inl (cA2, 97152, .inl (fun _ => 0)))] H := hP
  have hD : va_D A [(h0, .inr (2, [.null, .ref q1, .null, .int 0, .int 0])), (q1, .inl (cA2, 97152, .inl (fun _ => 0)))] := hD
  have hP := hP.sub (ws' := [(h0, .inr (2, [.null, .ref q1, .null, .int 0, .int 0]))]) [0] rfl
  have hD := hD.sub (ws' := [(h0, .inr (2, [.null, .ref q1, .null, .int 0, .int 0]))]) [0] (by decide) rfl
  refine lv_aload_n hx hb d_Wi_init_12 rfl (lv_at hl 0 rfl) ?_
  refine lv_bipush (v := 64) hx hb d_Wi_init_13 (by decide) ?_
  refine va_newa (atype := .int) (ty := .int) (N' := 64) (a0 := (64, .inl (fun _ => 0))) hx hb (ux_T_at hT tw_67 rfl) rfl hK hP hD hS hA (fun _ => rfl) (by decide) (by decide +kernel) (by decide +kernel) (Nat.le_of_ble_eq_true rfl) (Nat.le_of_ble_eq_true rfl) d_Wi_init_15 (fun q3 cA4 H hK hP hD hS => ?_)
  have hP : va_P (dC, dI) cls [(h0, .inr (2, [.null, .ref q1, .null, .int 0, .int 0])), (q3, .inl (cA4, 64, .inl (fun _ => 0)))] H := hP
  have hD : va_D A [(h0, .inr (2, [.null, .ref q1, .null, .int 0, .int 0])), (q3, .inl (cA4, 64, .inl (fun _ => 0)))] := hD
  have hK : va_K (dC, dI) cls [(cA2, .byte), (cA4, .int)] s := hK
  refine va_putF (D := (dC, dI)) (ci := 2) (v := .ref q3) (ty := .array .int) (C := R_Wi) (T := F_Wi) (N := 5) hx hb (u_Wi hT) (fun _ h => h) t_Wi k_Wi n_Wi hown hK hP hD hS 0 rfl rfl 2 (by decide) (ux_T_at hT tw_78 rfl) (fun _ h9 => h9) rfl hin rfl (by decide +kernel) rfl rfl (Nat.le_of_ble_eq_true rfl) d_Wi_init_17 (fun H locs hP hD hS => ?_)
  have hP : va_P (dC, dI) cls [(h0, .inr (2, [.null, .ref q1, .ref q3, .int 0, .int 0])), (q3, .inl (cA4, 64, .inl (fun _ => 0)))] H := hP
  have hD : va_D A [(h0, .inr (2, [.null, .ref q1, .ref q3, .int 0, .int 0])), (q3, .inl (cA4, 64, .inl (fun _ => 0)))] := hD
  have hP := hP.sub (ws' := [(h0, .inr (2, [.null, .ref q1, .ref q3, .int 0, .int 0]))]) [0] rfl
  have hD := hD.sub (ws' := [(h0, .inr (2, [.null, .ref q1, .ref q3, .int 0, .int 0]))]) [0] (by decide) rfl
  refine lv_aload_n hx hb d_Wi_init_20 rfl (lv_at hl 0 rfl) ?_
  refine lv_aload_n hx hb d_Wi_init_21 rfl (lv_at hl 1 rfl) ?_
  refine va_putF (D := (dC, dI)) (ci := 2) (v := .ref nb) (ty := .object "UnikernelHttp$Neighbours") (C := R_Wi) (T := F_Wi) (N := 5) hx hb (u_Wi hT) (fun _ h => h) t_Wi k_Wi n_Wi hown hK hP hD hS 0 rfl rfl 0 (by decide) (ux_T_at hT tw_76 rfl) (fun _ h9 => h9) rfl hin rfl (by decide +kernel) rfl rfl (Nat.le_of_ble_eq_true rfl) d_Wi_init_22 (fun H locs hP hD hS => ?_)
  have hP : va_P (dC, dI) cls [(h0, .inr (2, [.ref nb, .ref q1, .ref q3, .int 0, .int 0]))] H := hP
  have hD : va_D A [(h0, .inr (2, [.ref nb, .ref q1, .ref q3, .int 0, .int 0]))] := hD
  have hP9 := hP.sub (ws' := [(h0, .inr (2, [.ref nb, .ref q1, .ref q3, .int 0, .int 0]))]) [0] rfl
  have hD9 := hD.sub (ws' := [(h0, .inr (2, [.ref nb, .ref q1, .ref q3, .int 0, .int 0]))]) [0] (by decide) rfl
  have hK9 := hK.sub (tys' := []) [] rfl
  refine W.widen (k := 2) (n := 97216) (Nat.le_of_ble_eq_true rfl) (Nat.le_of_ble_eq_true rfl) ?_
  exact W.vret hx hb hr (fun t ht hW => ⟨⟨(), rfl, trivial, q1, q3, by rw [ht]; exact hP9, va_K.moved hW.alike hK9, hD9⟩, hS.F ht⟩) hS.2.2 d_Wi_init_25
set_option maxHeartbeats 4000000 in
set_option maxRecDepth 100000 in
theorem c_G_init (l : Launch) (dC : Nat → ClassId) (dI : Nat → Nat → Nat) (h0 : Nat) (sz : Nat) : Met l y_G_init [Cond.code y_G_init b_G_init 1 (none)] ({ frames := 20, cells := 2, slots := 8192, locals := 300 }) (ux_Pc [.ref h0] (dC, dI) cls [(h0, .inr (4, [.null, .null, .int 0, .int 0, .int 0, .int 0, .int 0, .int 0, .int 0]))] [] sz) (va_Qv (fun _ : Unit => True) (fun (_ : Unit) (t : State) => ∃ (q1 : Nat), ∃ (q2 : Nat), ux_B (dC, dI) cls (va_A [(h0, .inr (4, [.null, .null, .int 0, .int 0, .int 0, .int 0, .int 0, .int 0, .int 0]))] sz) [(h0, .inr (4, [.ref q1, .ref q2, .int 0, .int 0, .int 0, .int 0, .int 0, .int 0, .int 0]))] [] t) (va_A [(h0, .inr (4, [.null, .null, .int 0, .int 0, .int 0, .int 0, .int 0, .int 0, .int 0]))] sz)) 2 8192 (va_A [(h0, .inr (4, [.null, .null, .int 0, .int 0, .int 0, .int 0, .int 0, .int 0, .int 0]))] sz) := by
  refine Met.ofW (cc := b_G_init) (maxL := 1) (ret := none) (by decide) rfl ?_
  intro p e s m args below meth c s₁ B hml hv
  obtain ⟨rfl, hsz, hP, hK, hD0, hT⟩ := hv
  have hx := B.exec
  have hb := B.bytes
  have hr := B.returns
  have hown : s.vm.findClass "UnikernelHttp$Gathering" = some m.cls := findClass_of_methodNamed B.named
  have hlocks := B.notSynchronized
  have hin : meth.name = "<init>" := (name_of_methodNamed B.named B.method).1
  subst hsz
  have hD := hD0.self (sz := s.heap.size)
  have hns := ux_ns hP
  generalize hAe : va_A [(h0, .inr (4, [.null, .null, .int 0, .int 0, .int 0, .int 0, .int 0, .int 0, .int 0]))] s.heap.size = A at hD hns ⊢
  have hA : ∀ q : Nat, s.heap.size ≤ q → A q := fun q h => by rw [← hAe]; exact Or.inr h
  have hS : va_S A s.heap s.heap [] := va_S.rf
  have hl := lv_entry ([.ref h0]) (n := 1) (Nat.le_of_ble_eq_true rfl)
  rw [lg_entry_eq]
  generalize (lg_sl ([.ref h0]) ++ List.replicate (1 - (lg_sl ([.ref h0])).length) Slot.unset).toArray = ls at hl ⊢
  have hl : lv_has ls 1 [(0, .ref h0)] := hl
  have hfx : CallFix p m c b_G_init 1 s ([.ref h0] : List Value).toArray [] "UnikernelHttp$Gathering" := ⟨hx, hb, hml, hown, fun _ h => by cases h⟩
  refine lv_aload_n hx hb d_G_init_0 rfl (lv_at hl 0 rfl) ?_
  refine W.objInit hx hb hown (ux_T_at hT tw_107 rfl) (ux_T_at hT tw_40 rfl) (ux_T_at hT tw_41 rfl) rfl (by rw [hml]; exact hl.1) rfl d_G_init_1 (Nat.le_of_ble_eq_true rfl) (Nat.le_of_ble_eq_true rfl) ?_
  refine W.eq (g2 := F0 m 4 ls []) rfl ?_
  refine lv_aload_n hx hb d_G_init_4 rfl (lv_at hl 0 rfl) ?_
  refine lv_sipush (v := 4096) hx hb d_G_init_5 (by decide) ?_
  refine va_newa (atype := .byte) (ty := .byte) (N' := 4096) (a0 := (4096, .inl (fun _ => 0))) hx hb (ux_T_at hT tw_66 rfl) rfl hK hP hD hS hA (fun _ => rfl) (by decide) (by decide +kernel) (by decide +kernel) (Nat.le_of_ble_eq_true rfl) (Nat.le_of_ble_eq_true rfl) d_G_init_8 (fun q1 cA2 H hK hP hD hS => ?_)
  have hP : va_P (dC, dI) cls [(h0, .inr (4, [.null, .null, .int 0, .int 0, .int 0, .int 0, .int 0, .int 0, .int 0])), (q1, .inl (cA2, 4096, .inl (fun _ => 0)))] H := hP
  have hD : va_D A [(h0, .inr (4, [.null, .null, .int 0, .int 0, .int 0, .int 0, .int 0, .int 0, .int 0])), (q1, .inl (cA2, 4096, .inl (fun _ => 0)))] := hD
  have hK : va_K (dC, dI) cls [(cA2, .byte)] s := hK
  refine va_putF (D := (dC, dI)) (ci := 4) (v := .ref q1) (ty := .array .byte) (C := R_G) (T := F_G) (N := 9) hx hb (u_G hT) (fun _ h => h) t_G k_G n_G hown hK hP hD hS 0 rfl rfl 0 (by decide) (ux_T_at hT tw_108 rfl) (fun _ h9 => h9) rfl hin rfl (by decide +kernel) rfl rfl (Nat.le_of_ble_eq_true rfl) d_G_init_10 (fun H locs hP hD hS => ?_)
  have hP : va_P (dC, dI) cls [(h0, .inr (4, [.ref q1, .null, .int 0, .int 0, .int 0, .int 0, .int 0, .int 0, .int 0])), (q1, .inl (cA2, 4096, .inl (fun _ => 0)))] H := hP
  have hD : va_D A [(h0, .inr (4, [.ref q1, .null, .int 0, .int 0, .int 0, .int 0, .int 0, .int 0, .int 0])), (q1, .inl (cA2, 4096, .inl (fun _ => 0)))] := hD
  have hP := hP.sub (ws' := [(h0, .inr (4, [.ref q1, .null, .int 0, .int 0, .int 0, .int 0, .int 0, .int 0, .int 0]))]) [0] rfl
  have hD := hD.sub (ws' := [(h0, .inr (4, [.ref q1, .null, .int 0, .int 0, .int 0, .int 0, .int 0, .int 0, .int 0]))]) [0] (by decide) rfl
  refine lv_aload_n hx hb d_G_init_13 rfl (lv_at hl 0 rfl) ?_
  refine lv_sipush (v := 4096) hx hb d_G_init_14 (by decide) ?_
  refine va_newa (atype := .byte) (ty := .byte) (N' := 4096) (a0 := (4096, .inl (fun _ => 0))) hx hb (ux_T_at hT tw_66 rfl) rfl hK hP hD hS hA (fun _ => rfl) (by decide) (by decide +kernel) (by decide +kernel) (Nat.le_of_ble_eq_true rfl) (Nat.le_of_ble_eq_true rfl) d_G_init_17 (fun q3 cA4 H hK hP hD hS => ?_)
  have hP : va_P (dC, dI) cls [(h0, .inr (4, [.ref q1, .null, .int 0, .int 0, .int 0, .int 0, .int 0, .int 0, .int 0])), (q3, .inl (cA4, 4096, .inl (fun _ => 0)))] H := hP
  have hD : va_D A [(h0, .inr (4, [.ref q1, .null, .int 0, .int 0, .int 0, .int 0, .int 0, .int 0, .int 0])), (q3, .inl (cA4, 4096, .inl (fun _ => 0)))] := hD
  have hK : va_K (dC, dI) cls [(cA2, .byte), (cA4, .byte)] s := hK
  refine va_putF (D := (dC, dI)) (ci := 4) (v := .ref q3) (ty := .array .byte) (C := R_G) (T := F_G) (N := 9) hx hb (u_G hT) (fun _ h => h) t_G k_G n_G hown hK hP hD hS 0 rfl rfl 1 (by decide) (ux_T_at hT tw_110 rfl) (fun _ h9 => h9) rfl hin rfl (by decide +kernel) rfl rfl (Nat.le_of_ble_eq_true rfl) d_G_init_19 (fun H locs hP hD hS => ?_)
  have hP : va_P (dC, dI) cls [(h0, .inr (4, [.ref q1, .ref q3, .int 0, .int 0, .int 0, .int 0, .int 0, .int 0, .int 0])), (q3, .inl (cA4, 4096, .inl (fun _ => 0)))] H := hP
  have hD : va_D A [(h0, .inr (4, [.ref q1, .ref q3, .int 0, .int 0, .int 0, .int 0, .int 0, .int 0, .int 0])), (q3, .inl (cA4, 4096, .inl (fun _ => 0)))] := hD
  have hP := hP.sub (ws' := [(h0, .inr (4, [.ref q1, .ref q3, .int 0, .int 0, .int 0, .int 0, .int 0, .int 0, .int 0]))]) [0] rfl
  have hD := hD.sub (ws' := [(h0, .inr (4, [.ref q1, .ref q3, .int 0, .int 0, .int 0, .int 0, .int 0, .int 0, .int 0]))]) [0] (by decide) rfl
  have hP9 := hP.sub (ws' := [(h0, .inr (4, [.ref q1, .ref q3, .int 0, .int 0, .int 0, .int 0, .int 0, .int 0, .int 0]))]) [0] rfl
  have hD9 := hD.sub (ws' := [(h0, .inr (4, [.ref q1, .ref q3, .int 0, .int 0, .int 0, .int 0, .int 0, .int 0, .int 0]))]) [0] (by decide) rfl
  have hK9 := hK.sub (tys' := []) [] rfl
  refine W.widen (k := 2) (n := 8192) (Nat.le_of_ble_eq_true rfl) (Nat.le_of_ble_eq_true rfl) ?_
  exact W.vret hx hb hr (fun t ht hW => ⟨⟨(), rfl, trivial, q1, q3, by rw [ht]; exact hP9, va_K.moved hW.alike hK9, hD9⟩, hS.F ht⟩) hS.2.2 d_G_init_22
set_option maxHeartbeats 4000000 in
set_option maxRecDepth 100000 in
theorem c_Gs_init (l : Launch) (dC : Nat → ClassId) (dI : Nat → Nat → Nat) (h0 : Nat) (sz : Nat) : Met l y_Gs_init [Cond.code y_Gs_init b_Gs_init 2 (none)] ({ frames := 40, cells := 13, slots := 32808, locals := 600 }) (ux_Pc [.ref h0] (dC, dI) cls [(h0, .inr (3, [.null, .int 0]))] [] sz) (va_Qv (fun _ : Unit => True) (fun (_ : Unit) (t : State) => ∃ (q1 : Nat), ux_B (dC, dI) cls (va_A [(h0, .inr (3, [.null, .int 0]))] sz) [(h0, .inr (3, [.ref q1, .int 0]))] [] t) (va_A [(h0, .inr (3, [.null, .int 0]))] sz)) 13 32808 (va_A [(h0, .inr (3, [.null, .int 0]))] sz) := by
  refine Met.ofW (cc := b_Gs_init) (maxL := 2) (ret := none) (by decide) rfl ?_
  intro p e s m args below meth c s₁ B hml hv
  obtain ⟨rfl, hsz, hP, hK, hD0, hT⟩ := hv
  have hx := B.exec
  have hb := B.bytes
  have hr := B.returns
  have hown : s.vm.findClass "UnikernelHttp$Gatherings" = some m.cls := findClass_of_methodNamed B.named
  have hlocks := B.notSynchronized
  have hin : meth.name = "<init>" := (name_of_methodNamed B.named B.method).1
  subst hsz
  have hD := hD0.self (sz := s.heap.size)
  have hns := ux_ns hP
  generalize hAe : va_A [(h0, .inr (3, [.null, .int 0]))] s.heap.size = A at hD hns ⊢
  have hA : ∀ q : Nat, s.heap.size ≤ q → A q := fun q h => by rw [← hAe]; exact Or.inr h
  have hS : va_S A s.heap s.heap [] := va_S.rf
  have hl := lv_entry ([.ref h0]) (n := 2) (Nat.le_of_ble_eq_true rfl)
  rw [lg_entry_eq]
  generalize (lg_sl ([.ref h0]) ++ List.replicate (2 - (lg_sl ([.ref h0])).length) Slot.unset).toArray = ls at hl ⊢
  have hl : lv_has ls 2 [(0, .ref h0)] := hl
  have hfx : CallFix p m c b_Gs_init 2 s ([.ref h0] : List Value).toArray [] "UnikernelHttp$Gatherings" := ⟨hx, hb, hml, hown, fun _ h => by cases h⟩
  refine lv_aload_n hx hb d_Gs_init_0 rfl (lv_at hl 0 rfl) ?_
  refine W.objInit hx hb hown (ux_T_at hT tw_100 rfl) (ux_T_at hT tw_40 rfl) (ux_T_at hT tw_41 rfl) rfl (by rw [hml]; exact hl.1) rfl d_Gs_init_1 (Nat.le_of_ble_eq_true rfl) (Nat.le_of_ble_eq_true rfl) ?_
  refine W.eq (g2 := F0 m 4 ls []) rfl ?_
  refine lv_aload_n hx hb d_Gs_init_4 rfl (lv_at hl 0 rfl) ?_
  refine lv_iconst (v := 4) hx hb d_Gs_init_5 (by decide) ?_
  refine va_newq (own := "UnikernelHttp$Gatherings") (C := "UnikernelHttp$Gathering") (N' := 4) hx hb hown (ux_T_at hT tw_101 rfl) (va_AO.of (ux_T_at hT tw_102 rfl (A := #[]))) hK hP hD hS hA (by decide) (by decide) (by decide) (Nat.le_of_ble_eq_true rfl) (Nat.le_of_ble_eq_true rfl) d_Gs_init_6 (fun q1 cA2 H hK hP hD hS => ?_)
  have hP : va_P (dC, dI) cls [(h0, .inr (3, [.null, .int 0])), (q1, .inl (cA2, 4, .inr (.inr (.inr (.inr (fun _ => none))))))] H := hP
  have hD : va_D A [(h0, .inr (3, [.null, .int 0])), (q1, .inl (cA2, 4, .inr (.inr (.inr (.inr (fun _ => none))))))] := hD
  have hK : va_K (dC, dI) cls [(cA2, .object "UnikernelHttp$Gathering")] s := hK
  refine va_putF (D := (dC, dI)) (ci := 3) (v := .ref q1) (ty := .array (.object "UnikernelHttp$Gathering")) (C := R_Gs) (T := F_Gs) (N := 2) hx hb (u_Gs hT) (fun _ h => h) t_Gs k_Gs n_Gs hown hK hP hD hS 0 rfl rfl 0 (by decide) (ux_T_at hT tw_142 rfl) (fun _ h9 => h9) rfl hin rfl (by decide +kernel) rfl rfl (Nat.le_of_ble_eq_true rfl) d_Gs_init_9 (fun H locs hP hD hS => ?_)
  have hP : va_P (dC, dI) cls [(h0, .inr (3, [.ref q1, .int 0])), (q1, .inl (cA2, 4, .inr (.inr (.inr (.inr (fun _ => none))))))] H := hP
  have hD : va_D A [(h0, .inr (3, [.ref q1, .int 0])), (q1, .inl (cA2, 4, .inr (.inr (.inr (.inr (fun _ => none))))))] := hD
  refine lv_iconst (v := 0) hx hb d_Gs_init_12 (by decide) ?_
  refine lv_istore_n hx hb d_Gs_init_13 rfl hl (by decide) rfl (fun ls hl => ?_)
  have hl : lv_has ls 2 [(1, .int 0), (0, .ref h0)] := hl
  refine lv_iload_n hx hb d_Gs_init_14 rfl (lv_at hl 0 rfl) ?_
  refine lv_iconst (v := 4) hx hb d_Gs_init_15 (by decide) ?_
  refine lv_icmp_ge (tgt := 38) hx hb d_Gs_init_16 (by decide) (fun hc => absurd hc (by decide)) (fun _ => ?_)
  refine lv_aload_n hx hb d_Gs_init_19 rfl (lv_at hl 1 rfl) ?_
  refine va_get (D := (dC, dI)) (ci := 3) (v := .ref q1) (C := R_Gs) (T := F_Gs) (N := 2) hx hb (u_Gs hT) (fun _ h => h) hown hK hP 0 rfl rfl 0 (by decide) (ux_T_at hT tw_142 rfl) (fun _ h9 => h9) rfl d_Gs_init_20 ?_
  refine lv_iload_n hx hb d_Gs_init_23 rfl (lv_at hl 0 rfl) ?_
  refine va_new (ci := 4) (fs := [.null, .null, .int 0, .int 0, .int 0, .int 0, .int 0, .int 0, .int 0]) (C := R_G) (T := F_G) (N := 9) hx hb (u_G hT) (fun _ h => h) t_G k_G hown (ux_T_at hT tw_101 rfl) (ux_T_at hT tw_103 rfl) (ux_T_at hT tw_5 rfl) hK hP hD hS hA rfl z_G (Nat.le_of_ble_eq_true rfl) (Nat.le_of_ble_eq_true rfl) d_Gs_init_24 (fun q3 H hP hD hS => ?_)
  have hP : va_P (dC, dI) cls [(h0, .inr (3, [.ref q1, .int 0])), (q1, .inl (cA2, 4, .inr (.inr (.inr (.inr (fun _ => none)))))), (q3, .inr (4, [.null, .null, .int 0, .int 0, .int 0, .int 0, .int 0, .int 0, .int 0]))] H := hP
  have hD : va_D A [(h0, .inr (3, [.ref q1, .int 0])), (q1, .inl (cA2, 4, .inr (.inr (.inr (.inr (fun _ => none)))))), (q3, .inr (4, [.null, .null, .int 0, .int 0, .int 0, .int 0, .int 0, .int 0, .int 0]))] := hD
  refine lv_dup hx hb d_Gs_init_27 rfl ?_
  have hPc := hP.sub (ws' := [(q3, .inr (4, [.null, .null, .int 0, .int 0, .int 0, .int 0, .int 0, .int 0, .int 0]))]) [2] rfl
  have hDc := hD.sub (ws' := [(q3, .inr (4, [.null, .null, .int 0, .int 0, .int 0, .int 0, .int 0, .int 0, .int 0]))]) [2] (by decide) rfl
  have hKc := hK.sub (tys' := []) [] rfl
  have hFc := va_free (wc := [(q3, .inr (4, [.null, .null, .int 0, .int 0, .int 0, .int 0, .int 0, .int 0, .int 0]))]) hD hS hA [2] rfl
  have hkc : 2 + 2 ≤ 13 := (Nat.le_of_ble_eq_true rfl)
  refine va_callv (va_runIN (As := []) (rest := [.ref q3, .int 0, .ref q1]) hfx (c_G_init l dC dI q3 H.size) ⟨(ux_cn 0 hT tw_106 tw_104 tw_5 rfl rfl (by decide +kernel) ⟨(Nat.le_of_ble_eq_true rfl), (Nat.le_of_ble_eq_true rfl)⟩), rfl, (ux_T_at hT tw_105 rfl)⟩ (ux_pre [.ref q3] hT hPc hKc hDc) rfl rfl hl.1 rfl (lv_room (Nat.le_of_ble_eq_true rfl)) d_Gs_init_28 ⟨(Nat.le_of_ble_eq_true rfl), (Nat.le_of_ble_eq_true rfl)⟩) hS (fun q _ h => hFc q h) hFc (fun u t H1 locs ht hvm hw hB hz1 hk1 hS => ?_)
  obtain ⟨q5, q6, hP1, hK1, hD1⟩ := hB
  rw [ht] at hP1
  have hK1 := va_K.moved hvm.symm hK1
  obtain ⟨hP, hD⟩ := va_join (wr := [(h0, .inr (3, [.ref q1, .int 0])), (q1, .inl (cA2, 4, .inr (.inr (.inr (.inr (fun _ => none))))))]) (w1 := [(q3, .inr (4, [.ref q5, .ref q6, .int 0, .int 0, .int 0, .int 0, .int 0, .int 0, .int 0]))]) hP hD [2] [0, 1] rfl rfl (by decide) (by decide) hk1 hFc hP1 hD1
  have hK := (hK.sub (tys' := [(cA2, .object "UnikernelHttp$Gathering")]) [0] rfl).app hK1
  generalize H1 = H at hP hS ⊢
  have hP : va_P (dC, dI) cls [(h0, .inr (3, [.ref q1, .int 0])), (q1, .inl (cA2, 4, .inr (.inr (.inr (.inr (fun _ => none)))))), (q3, .inr (4, [.ref q5, .ref q6, .int 0, .int 0, .int 0, .int 0, .int 0, .int 0, .int 0]))] H := hP
  have hD : va_D A [(h0, .inr (3, [.ref q1, .int 0])), (q1, .inl (cA2, 4, .inr (.inr (.inr (.inr (fun _ => none)))))), (q3, .inr (4, [.ref q5, .ref q6, .int 0, .int 0, .int 0, .int 0, .int 0, .int 0, .int 0]))] := hD
  have hK : va_K (dC, dI) cls [(cA2, .object "UnikernelHttp$Gathering")] s := hK
  refine va_astq hx hb hK hP hD hS 1 0 2 4 rfl rfl rfl rfl (show ¬ ((0 : Int32) < 0 ∨ 4 ≤ (0 : Int32).toNatClampNeg) by decide) d_Gs_init_31 (fun H locs hP hD hS => ?_)
  have hP : va_P (dC, dI) cls [(h0, .inr (3, [.ref q1, .int 0])), (q1, .inl (cA2, 4, .inr (.inr (.inr (.inr (va_up (fun _ => none) (0 : Int32).toNatClampNeg (some q3))))))), (q3, .inr (4, [.ref q5, .ref q6, .int 0, .int 0, .int 0, .int 0, .int 0, .int 0, .int 0]))] H := hP
  have hD : va_D A [(h0, .inr (3, [.ref q1, .int 0])), (q1, .inl (cA2, 4, .inr (.inr (.inr (.inr (va_up (fun _ => none) (0 : Int32).toNatClampNeg (some q3))))))), (q3, .inr (4, [.ref q5, .ref q6, .int 0, .int 0, .int 0, .int 0, .int 0, .int 0, .int 0]))] := hD
  generalize va_up (fun _ => none) (0 : Int32).toNatClampNeg (some q3) = f7 at hP hD
  have hP := hP.sub (ws' := [(h0, .inr (3, [.ref q1, .int 0])), (q1, .inl (cA2, 4, .inr (.inr (.inr (.inr f7)))))]) [0, 1] rfl
  have hD := hD.sub (ws' := [(h0, .inr (3, [.ref q1, .int 0])), (q1, .inl (cA2, 4, .inr (.inr (.inr (.inr f7)))))]) [0, 1] (by decide) rfl
  refine lv_iinc (v := 1) hx hb d_Gs_init_32 hl (k := 0) rfl (by decide) (by decide) rfl (fun ls hl => ?_)
  have hl : lv_has ls 2 [(1, .int 1), (0, .ref h0)] := hl
  refine lv_goto hx hb d_Gs_init_35 (tgt := 14) (by decide) ?_
  refine lv_iload_n hx hb d_Gs_init_14 rfl (lv_at hl 0 rfl) ?_
  refine lv_iconst (v := 4) hx hb d_Gs_init_15 (by decide) ?_
  refine lv_icmp_ge (tgt := 38) hx hb d_Gs_init_16 (by decide) (fun hc => absurd hc (by decide)) (fun _ => ?_)
  refine lv_aload_n hx hb d_Gs_init_19 rfl (lv_at hl 1 rfl) ?_
  refine va_get (D := (dC, dI)) (ci := 3) (v := .ref q1) (C := R_Gs) (T := F_Gs) (N := 2) hx hb (u_Gs hT) (fun _ h => h) hown hK hP 0 rfl rfl 0 (by decide) (ux_T_at hT tw_142 rfl) (fun _ h9 => h9) rfl d_Gs_init_20 ?_
  refine lv_iload_n hx hb d_Gs_init_23 rfl (lv_at hl 0 rfl) ?_
  refine va_new (ci := 4) (fs := [.null, .null, .int 0, .int 0, .int 0, .int 0, .int 0, .int 0, .int 0]) (C := R_G) (T := F_G) (N := 9) hx hb (u_G hT) (fun _ h => h) t_G k_G hown (ux_T_at hT tw_101 rfl) (ux_T_at hT tw_103 rfl) (ux_T_at hT tw_5 rfl) hK hP hD hS hA rfl z_G (Nat.le_of_ble_eq_true rfl) (Nat.le_of_ble_eq_true rfl) d_Gs_init_24 (fun q8 H hP hD hS => ?_)
  have hP : va_P (dC, dI) cls [(h0, .inr (3, [.ref q1, .int 0])), (q1, .inl (cA2, 4, .inr (.inr (.inr (.inr f7))))), (q8, .inr (4, [.null, .null, .int 0, .int 0, .int 0, .int 0, .int 0, .int 0, .int 0]))] H := hP
  have hD : va_D A [(h0, .inr (3, [.ref q1, .int 0])), (q1, .inl (cA2, 4, .inr (.inr (.inr (.inr f7))))), (q8, .inr (4, [.null, .null, .int 0, .int 0, .int 0, .int 0, .int 0, .int 0, .int 0]))] := hD
  refine lv_dup hx hb d_Gs_init_27 rfl ?_
  have hPc := hP.sub (ws' := [(q8, .inr (4, [.null, .null, .int 0, .int 0, .int 0, .int 0, .int 0, .int 0, .int 0]))]) [2] rfl
  have hDc := hD.sub (ws' := [(q8, .inr (4, [.null, .null, .int 0, .int 0, .int 0, .int 0, .int 0, .int 0, .int 0]))]) [2] (by decide) rfl
  have hKc := hK.sub (tys' := []) [] rfl
  have hFc := va_free (wc := [(q8, .inr (4, [.null, .null, .int 0, .int 0, .int 0, .int 0, .int 0, .int 0, .int 0]))]) hD hS hA [2] rfl
  have hkc : 5 + 2 ≤ 13 := (Nat.le_of_ble_eq_true rfl)
  refine va_callv (va_runIN (As := []) (rest := [.ref q8, .int 1, .ref q1]) hfx (c_G_init l dC dI q8 H.size) ⟨(ux_cn 0 hT tw_106 tw_104 tw_5 rfl rfl (by decide +kernel) ⟨(Nat.le_of_ble_eq_true rfl), (Nat.le_of_ble_eq_true rfl)⟩), rfl, (ux_T_at hT tw_105 rfl)⟩ (ux_pre [.ref q8] hT hPc hKc hDc) rfl rfl hl.1 rfl (lv_room (Nat.le_of_ble_eq_true rfl)) d_Gs_init_28 ⟨(Nat.le_of_ble_eq_true rfl), (Nat.le_of_ble_eq_true rfl)⟩) hS (fun q _ h => hFc q h) hFc (fun u t H1 locs ht hvm hw hB hz1 hk1 hS => ?_)
  obtain ⟨q10, q11, hP1, hK1, hD1⟩ := hB
  rw [ht] at hP1
  have hK1 := va_K.moved hvm.symm hK1
  obtain ⟨hP, hD⟩ := va_join (wr := [(h0, .inr (3, [.ref q1, .int 0])), (q1, .inl (cA2, 4, .inr (.inr (.inr (.inr f7)))))]) (w1 := [(q8, .inr (4, [.ref q10, .ref q11, .int 0, .int 0, .int 0, .int 0, .int 0, .int 0, .int 0]))]) hP hD [2] [0, 1] rfl rfl (by decide) (by decide) hk1 hFc hP1 hD1
  have hK := (hK.sub (tys' := [(cA2, .object "UnikernelHttp$Gathering")]) [0] rfl).app hK1
  generalize H1 = H at hP hS ⊢
  have hP : va_P (dC, dI) cls [(h0, .inr (3, [.ref q1, .int 0])), (q1, .inl (cA2, 4, .inr (.inr (.inr (.inr f7))))), (q8, .inr (4, [.ref q10, .ref q11, .int 0, .int 0, .int 0, .int 0, .int 0, .int 0, .int 0]))] H := hP
  have hD : va_D A [(h0, .inr (3, [.ref q1, .int 0])), (q1, .inl (cA2, 4, .inr (.inr (.inr (.inr f7))))), (q8, .inr (4, [.ref q10, .ref q11, .int 0, .int 0, .int 0, .int 0, .int 0, .int 0, .int 0]))] := hD
  have hK : va_K (dC, dI) cls [(cA2, .object "UnikernelHttp$Gathering")] s := hK
  refine va_astq hx hb hK hP hD hS 1 0 2 4 rfl rfl rfl rfl (show ¬ ((1 : Int32) < 0 ∨ 4 ≤ (1 : Int32).toNatClampNeg) by decide) d_Gs_init_31 (fun H locs hP hD hS => ?_)
  have hP : va_P (dC, dI) cls [(h0, .inr (3, [.ref q1, .int 0])), (q1, .inl (cA2, 4, .inr (.inr (.inr (.inr (va_up f7 (1 : Int32).toNatClampNeg (some q8))))))), (q8, .inr (4, [.ref q10, .ref q11, .int 0, .int 0, .int 0, .int 0, .int 0, .int 0, .int 0]))] H := hP
  have hD : va_D A [(h0, .inr (3, [.ref q1, .int 0])), (q1, .inl (cA2, 4, .inr (.inr (.inr (.inr (va_up f7 (1 : Int32).toNatClampNeg (some q8))))))), (q8, .inr (4, [.ref q10, .ref q11, .int 0, .int 0, .int 0, .int 0, .int 0, .int 0, .int 0]))] := hD
  generalize va_up f7 (1 : Int32).toNatClampNeg (some q8) = f12 at hP hD
  have hP := hP.sub (ws' := [(h0, .inr (3, [.ref q1, .int 0])), (q1, .inl (cA2, 4, .inr (.inr (.inr (.inr f12)))))]) [0, 1] rfl
  have hD := hD.sub (ws' := [(h0, .inr (3, [.ref q1, .int 0])), (q1, .inl (cA2, 4, .inr (.inr (.inr (.inr f12)))))]) [0, 1] (by decide) rfl
  refine lv_iinc (v := 2) hx hb d_Gs_init_32 hl (k := 0) rfl (by decide) (by decide) rfl (fun ls hl => ?_)
  have hl : lv_has ls 2 [(1, .int 2), (0, .ref h0)] := hl
  refine lv_goto hx hb d_Gs_init_35 (tgt := 14) (by decide) ?_
  refine lv_iload_n hx hb d_Gs_init_14 rfl (lv_at hl 0 rfl) ?_
  refine lv_iconst (v := 4) hx hb d_Gs_init_15 (by decide) ?_
  refine lv_icmp_ge (tgt := 38) hx hb d_Gs_init_16 (by decide) (fun hc => absurd hc (by decide)) (fun _ => ?_)
  refine lv_aload_n hx hb d_Gs_init_19 rfl (lv_at hl 1 rfl) ?_
  refine va_get (D := (dC, dI)) (ci := 3) (v := .ref q1) (C := R_Gs) (T := F_Gs) (N := 2) hx hb (u_Gs hT) (fun _ h => h) hown hK hP 0 rfl rfl 0 (by decide) (ux_T_at hT tw_142 rfl) (fun _ h9 => h9) rfl d_Gs_init_20 ?_
  refine lv_iload_n hx hb d_Gs_init_23 rfl (lv_at hl 0 rfl) ?_
  refine va_new (ci := 4) (fs := [.null, .null, .int 0, .int 0, .int 0, .int 0, .int 0, .int 0, .int 0]) (C := R_G) (T := F_G) (N := 9) hx hb (u_G hT) (fun _ h => h) t_G k_G hown (ux_T_at hT tw_101 rfl) (ux_T_at hT tw_103 rfl) (ux_T_at hT tw_5 rfl) hK hP hD hS hA rfl z_G (Nat.le_of_ble_eq_true rfl) (Nat.le_of_ble_eq_true rfl) d_Gs_init_24 (fun q13 H hP hD hS => ?_)
  have hP : va_P (dC, dI) cls [(h0, .inr (3, [.ref q1, .int 0])), (q1, .inl (cA2, 4, .inr (.inr (.inr (.inr f12))))), (q13, .inr (4, [.null, .null, .int 0, .int 0, .int 0, .int 0, .int 0, .int 0, .int 0]))] H := hP
  have hD : va_D A [(h0, .inr (3, [.ref q1, .int 0])), (q1, .inl (cA2, 4, .inr (.inr (.inr (.inr f12))))), (q13, .inr (4, [.null, .null, .int 0, .int 0, .int 0, .int 0, .int 0, .int 0, .int 0]))] := hD
  refine lv_dup hx hb d_Gs_init_27 rfl ?_
  have hPc := hP.sub (ws' := [(q13, .inr (4, [.null, .null, .int 0, .int 0, .int 0, .int 0, .int 0, .int 0, .int 0]))]) [2] rfl
  have hDc := hD.sub (ws' := [(q13, .inr (4, [.null, .null, .int 0, .int 0, .int 0, .int 0, .int 0, .int 0, .int 0]))]) [2] (by decide) rfl
  have hKc := hK.sub (tys' := []) [] rfl
  have hFc := va_free (wc := [(q13, .inr (4, [.null, .null, .int 0, .int 0, .int 0, .int 0, .int 0, .int 0, .int 0]))]) hD hS hA [2] rfl
  have hkc : 8 + 2 ≤ 13 := (Nat.le_of_ble_eq_true rfl)
  refine va_callv (va_runIN (As := []) (rest := [.ref q13, .int 2, .ref q1]) hfx (c_G_init l dC dI q13 H.size) ⟨(ux_cn 0 hT tw_106 tw_104 tw_5 rfl rfl (by decide +kernel) ⟨(Nat.le_of_ble_eq_true rfl), (Nat.le_of_ble_eq_true rfl)⟩), rfl, (ux_T_at hT tw_105 rfl)⟩ (ux_pre [.ref q13] hT hPc hKc hDc) rfl rfl hl.1 rfl (lv_room (Nat.le_of_ble_eq_true rfl)) d_Gs_init_28 ⟨(Nat.le_of_ble_eq_true rfl), (Nat.le_of_ble_eq_true rfl)⟩) hS (fun q _ h => hFc q h) hFc (fun u t H1 locs ht hvm hw hB hz1 hk1 hS => ?_)
  obtain ⟨q15, q16, hP1, hK1, hD1⟩ := hB
  rw [ht] at hP1
  have hK1 := va_K.moved hvm.symm hK1
  obtain ⟨hP, hD⟩ := va_join (wr := [(h0, .inr (3, [.ref q1, .int 0])), (q1, .inl (cA2, 4, .inr (.inr (.inr (.inr f12)))))]) (w1 := [(q13, .inr (4, [.ref q15, .ref q16, .int 0, .int 0, .int 0, .int 0, .int 0, .int 0, .int 0]))]) hP hD [2] [0, 1] rfl rfl (by decide) (by decide) hk1 hFc hP1 hD1
  have hK := (hK.sub (tys' := [(cA2, .object "UnikernelHttp$Gathering")]) [0] rfl).app hK1
  generalize H1 = H at hP hS ⊢
  have hP : va_P (dC, dI) cls [(h0, .inr (3, [.ref q1, .int 0])), (q1, .inl (cA2, 4, .inr (.inr (.inr (.inr f12))))), (q13, .inr (4, [.ref q15, .ref q16, .int 0, .int 0, .int 0, .int 0, .int 0, .int 0, .int 0]))] H := hP
  have hD : va_D A [(h0, .inr (3, [.ref q1, .int 0])), (q1, .inl (cA2, 4, .inr (.inr (.inr (.inr f12))))), (q13, .inr (4, [.ref q15, .ref q16, .int 0, .int 0, .int 0, .int 0, .int 0, .int 0, .int 0]))] := hD
  have hK : va_K (dC, dI) cls [(cA2, .object "UnikernelHttp$Gathering")] s := hK
  refine va_astq hx hb hK hP hD hS 1 0 2 4 rfl rfl rfl rfl (show ¬ ((2 : Int32) < 0 ∨ 4 ≤ (2 : Int32).toNatClampNeg) by decide) d_Gs_init_31 (fun H locs hP hD hS => ?_)
  have hP : va_P (dC, dI) cls [(h0, .inr (3, [.ref q1, .int 0])), (q1, .inl (cA2, 4, .inr (.inr (.inr (.inr (va_up f12 (2 : Int32).toNatClampNeg (some q13))))))), (q13, .inr (4, [.ref q15, .ref q16, .int 0, .int 0, .int 0, .int 0, .int 0, .int 0, .int 0]))] H := hP
  have hD : va_D A [(h0, .inr (3, [.ref q1, .int 0])), (q1, .inl (cA2, 4, .inr (.inr (.inr (.inr (va_up f12 (2 : Int32).toNatClampNeg (some q13))))))), (q13, .inr (4, [.ref q15, .ref q16, .int 0, .int 0, .int 0, .int 0, .int 0, .int 0, .int 0]))] := hD
  generalize va_up f12 (2 : Int32).toNatClampNeg (some q13) = f17 at hP hD
  have hP := hP.sub (ws' := [(h0, .inr (3, [.ref q1, .int 0])), (q1, .inl (cA2, 4, .inr (.inr (.inr (.inr f17)))))]) [0, 1] rfl
  have hD := hD.sub (ws' := [(h0, .inr (3, [.ref q1, .int 0])), (q1, .inl (cA2, 4, .inr (.inr (.inr (.inr f17)))))]) [0, 1] (by decide) rfl
  refine lv_iinc (v := 3) hx hb d_Gs_init_32 hl (k := 0) rfl (by decide) (by decide) rfl (fun ls hl => ?_)
  have hl : lv_has ls 2 [(1, .int 3), (0, .ref h0)] := hl
  refine lv_goto hx hb d_Gs_init_35 (tgt := 14) (by decide) ?_
  refine lv_iload_n hx hb d_Gs_init_14 rfl (lv_at hl 0 rfl) ?_
  refine lv_iconst (v := 4) hx hb d_Gs_init_15 (by decide) ?_
  refine lv_icmp_ge (tgt := 38) hx hb d_Gs_init_16 (by decide) (fun hc => absurd hc (by decide)) (fun _ => ?_)
  refine lv_aload_n hx hb d_Gs_init_19 rfl (lv_at hl 1 rfl) ?_
  refine va_get (D := (dC, dI)) (ci := 3) (v := .ref q1) (C := R_Gs) (T := F_Gs) (N := 2) hx hb (u_Gs hT) (fun _ h => h) hown hK hP 0 rfl rfl 0 (by decide) (ux_T_at hT tw_142 rfl) (fun _ h9 => h9) rfl d_Gs_init_20 ?_
  refine lv_iload_n hx hb d_Gs_init_23 rfl (lv_at hl 0 rfl) ?_
  refine va_new (ci := 4) (fs := [.null, .null, .int 0, .int 0, .int 0, .int 0, .int 0, .int 0, .int 0]) (C := R_G) (T := F_G) (N := 9) hx hb (u_G hT) (fun _ h => h) t_G k_G hown (ux_T_at hT tw_101 rfl) (ux_T_at hT tw_103 rfl) (ux_T_at hT tw_5 rfl) hK hP hD hS hA rfl z_G (Nat.le_of_ble_eq_true rfl) (Nat.le_of_ble_eq_true rfl) d_Gs_init_24 (fun q18 H hP hD hS => ?_)
  have hP : va_P (dC, dI) cls [(h0, .inr (3, [.ref q1, .int 0])), (q1, .inl (cA2, 4, .inr (.inr (.inr (.inr f17))))), (q18, .inr (4, [.null, .null, .int 0, .int 0, .int 0, .int 0, .int 0, .int 0, .int 0]))] H := hP
  have hD : va_D A [(h0, .inr (3, [.ref q1, .int 0])), (q1, .inl (cA2, 4, .inr (.inr (.inr (.inr f17))))), (q18, .inr (4, [.null, .null, .int 0, .int 0, .int 0, .int 0, .int 0, .int 0, .int 0]))] := hD
  refine lv_dup hx hb d_Gs_init_27 rfl ?_
  have hPc := hP.sub (ws' := [(q18, .inr (4, [.null, .null, .int 0, .int 0, .int 0, .int 0, .int 0, .int 0, .int 0]))]) [2] rfl
  have hDc := hD.sub (ws' := [(q18, .inr (4, [.null, .null, .int 0, .int 0, .int 0, .int 0, .int 0, .int 0, .int 0]))]) [2] (by decide) rfl
  have hKc := hK.sub (tys' := []) [] rfl
  have hFc := va_free (wc := [(q18, .inr (4, [.null, .null, .int 0, .int 0, .int 0, .int 0, .int 0, .int 0, .int 0]))]) hD hS hA [2] rfl
  have hkc : 11 + 2 ≤ 13 := (Nat.le_of_ble_eq_true rfl)
  refine va_callv (va_runIN (As := []) (rest := [.ref q18, .int 3, .ref q1]) hfx (c_G_init l dC dI q18 H.size) ⟨(ux_cn 0 hT tw_106 tw_104 tw_5 rfl rfl (by decide +kernel) ⟨(Nat.le_of_ble_eq_true rfl), (Nat.le_of_ble_eq_true rfl)⟩), rfl, (ux_T_at hT tw_105 rfl)⟩ (ux_pre [.ref q18] hT hPc hKc hDc) rfl rfl hl.1 rfl (lv_room (Nat.le_of_ble_eq_true rfl)) d_Gs_init_28 ⟨(Nat.le_of_ble_eq_true rfl), (Nat.le_of_ble_eq_true rfl)⟩) hS (fun q _ h => hFc q h) hFc (fun u t H1 locs ht hvm hw hB hz1 hk1 hS => ?_)
  obtain ⟨q20, q21, hP1, hK1, hD1⟩ := hB
  rw [ht] at hP1
  have hK1 := va_K.moved hvm.symm hK1
  obtain ⟨hP, hD⟩ := va_join (wr := [(h0, .inr (3, [.ref q1, .int 0])), (q1, .inl (cA2, 4, .inr (.inr (.inr (.inr f17)))))]) (w1 := [(q18, .inr (4, [.ref q20, .ref q21, .int 0, .int 0, .int 0, .int 0, .int 0, .int 0, .int 0]))]) hP hD [2] [0, 1] rfl rfl (by decide) (by decide) hk1 hFc hP1 hD1
  have hK := (hK.sub (tys' := [(cA2, .object "UnikernelHttp$Gathering")]) [0] rfl).app hK1
  generalize H1 = H at hP hS ⊢
  have hP : va_P (dC, dI) cls [(h0, .inr (3, [.ref q1, .int 0])), (q1, .inl (cA2, 4, .inr (.inr (.inr (.inr f17))))), (q18, .inr (4, [.ref q20, .ref q21, .int 0, .int 0, .int 0, .int 0, .int 0, .int 0, .int 0]))] H := hP
  have hD : va_D A [(h0, .inr (3, [.ref q1, .int 0])), (q1, .inl (cA2, 4, .inr (.inr (.inr (.inr f17))))), (q18, .inr (4, [.ref q20, .ref q21, .int 0, .int 0, .int 0, .int 0, .int 0, .int 0, .int 0]))] := hD
  have hK : va_K (dC, dI) cls [(cA2, .object "UnikernelHttp$Gathering")] s := hK
  refine va_astq hx hb hK hP hD hS 1 0 2 4 rfl rfl rfl rfl (show ¬ ((3 : Int32) < 0 ∨ 4 ≤ (3 : Int32).toNatClampNeg) by decide) d_Gs_init_31 (fun H locs hP hD hS => ?_)
  have hP : va_P (dC, dI) cls [(h0, .inr (3, [.ref q1, .int 0])), (q1, .inl (cA2, 4, .inr (.inr (.inr (.inr (va_up f17 (3 : Int32).toNatClampNeg (some q18))))))), (q18, .inr (4, [.ref q20, .ref q21, .int 0, .int 0, .int 0, .int 0, .int 0, .int 0, .int 0]))] H := hP
  have hD : va_D A [(h0, .inr (3, [.ref q1, .int 0])), (q1, .inl (cA2, 4, .inr (.inr (.inr (.inr (va_up f17 (3 : Int32).toNatClampNeg (some q18))))))), (q18, .inr (4, [.ref q20, .ref q21, .int 0, .int 0, .int 0, .int 0, .int 0, .int 0, .int 0]))] := hD
  generalize va_up f17 (3 : Int32).toNatClampNeg (some q18) = f22 at hP hD
  have hP := hP.sub (ws' := [(h0, .inr (3, [.ref q1, .int 0])), (q1, .inl (cA2, 4, .inr (.inr (.inr (.inr f22)))))]) [0, 1] rfl
  have hD := hD.sub (ws' := [(h0, .inr (3, [.ref q1, .int 0])), (q1, .inl (cA2, 4, .inr (.inr (.inr (.inr f22)))))]) [0, 1] (by decide) rfl
  refine lv_iinc (v := 4) hx hb d_Gs_init_32 hl (k := 0) rfl (by decide) (by decide) rfl (fun ls hl => ?_)
  have hl : lv_has ls 2 [(1, .int 4), (0, .ref h0)] := hl
  refine lv_goto hx hb d_Gs_init_35 (tgt := 14) (by decide) ?_
  refine lv_iload_n hx hb d_Gs_init_14 rfl (lv_at hl 0 rfl) ?_
  refine lv_iconst (v := 4) hx hb d_Gs_init_15 (by decide) ?_
  refine lv_icmp_ge (tgt := 38) hx hb d_Gs_init_16 (by decide) (fun _ => ?_) (fun hc => absurd (by decide) hc)
  have hP9 := hP.sub (ws' := [(h0, .inr (3, [.ref q1, .int 0]))]) [0] rfl
  have hD9 := hD.sub (ws' := [(h0, .inr (3, [.ref q1, .int 0]))]) [0] (by decide) rfl
  have hK9 := hK.sub (tys' := []) [] rfl
  refine W.widen (k := 13) (n := 32808) (Nat.le_of_ble_eq_true rfl) (Nat.le_of_ble_eq_true rfl) ?_
  exact W.vret hx hb hr (fun t ht hW => ⟨⟨(), rfl, trivial, q1, by rw [ht]; exact hP9, va_K.moved hW.alike hK9, hD9⟩, hS.F ht⟩) hS.2.2 d_Gs_init_38
set_option maxHeartbeats 4000000 in
set_option maxRecDepth 100000 in
theorem c_Sg_init (l : Launch) (dC : Nat → ClassId) (dI : Nat → Nat → Nat) (h0 : Nat) (sz : Nat) : Met l y_Sg_init [Cond.code y_Sg_init b_Sg_init 1 (none)] ({ frames := 20, cells := 1, slots := 0, locals := 300 }) (ux_Pc [.ref h0] (dC, dI) cls [(h0, .inr (5, [.null, .int 0, .int 0, .int 0, .int 0, .int 0, .int 0, .int 0, .int 0, .int 0, .int 0, .int 0]))] [] sz) (va_Qv (fun _ : Unit => True) (fun (_ : Unit) (t : State) => ∃ (q1 : Nat), ux_B (dC, dI) cls (va_A [(h0, .inr (5, [.null, .int 0, .int 0, .int 0, .int 0, .int 0, .int 0, .int 0, .int 0, .int 0, .int 0, .int 0]))] sz) [(h0, .inr (5, [.ref q1, .int 0, .int 0, .int 0, .int 0, .int 0, .int 0, .int 0, .int 0, .int 0, .int 0, .int 0]))] [] t) (va_A [(h0, .inr (5, [.null, .int 0, .int 0, .int 0, .int 0, .int 0, .int 0, .int 0, .int 0, .int 0, .int 0, .int 0]))] sz)) 1 0 (va_A [(h0, .inr (5, [.null, .int 0, .int 0, .int 0, .int 0, .int 0, .int 0, .int 0, .int 0, .int 0, .int 0, .int 0]))] sz) := by
  refine Met.ofW (cc := b_Sg_init) (maxL := 1) (ret := none) (by decide) rfl ?_
  intro p e s m args below meth c s₁ B hml hv
  obtain ⟨rfl, hsz, hP, hK, hD0, hT⟩ := hv
  have hx := B.exec
  have hb := B.bytes
  have hr := B.returns
  have hown : s.vm.findClass "UnikernelHttp$Segment" = some m.cls := findClass_of_methodNamed B.named
  have hlocks := B.notSynchronized
  have hin : meth.name = "<init>" := (name_of_methodNamed B.named B.method).1
  subst hsz
  have hD := hD0.self (sz := s.heap.size)
  have hns := ux_ns hP
  generalize hAe : va_A [(h0, .inr (5, [.null, .int 0, .int 0, .int 0, .int 0, .int 0, .int 0, .int 0, .int 0, .int 0, .int 0, .int 0]))] s.heap.size = A at hD hns ⊢
  have hA : ∀ q : Nat, s.heap.size ≤ q → A q := fun q h => by rw [← hAe]; exact Or.inr h
  have hS : va_S A s.heap s.heap [] := va_S.rf
  have hl := lv_entry ([.ref h0]) (n := 1) (Nat.le_of_ble_eq_true rfl)
  rw [lg_entry_eq]
  generalize (lg_sl ([.ref h0]) ++ List.replicate (1 - (lg_sl ([.ref h0])).length) Slot.unset).toArray = ls at hl ⊢
  have hl : lv_has ls 1 [(0, .ref h0)] := hl
  have hfx : CallFix p m c b_Sg_init 1 s ([.ref h0] : List Value).toArray [] "UnikernelHttp$Segment" := ⟨hx, hb, hml, hown, fun _ h => by cases h⟩
  refine lv_aload_n hx hb d_Sg_init_0 rfl (lv_at hl 0 rfl) ?_
  refine W.objInit hx hb hown (ux_T_at hT tw_155 rfl) (ux_T_at hT tw_40 rfl) (ux_T_at hT tw_41 rfl) rfl (by rw [hml]; exact hl.1) rfl d_Sg_init_1 (Nat.le_of_ble_eq_true rfl) (Nat.le_of_ble_eq_true rfl) ?_
  refine W.eq (g2 := F0 m 4 ls []) rfl ?_
  refine lv_aload_n hx hb d_Sg_init_4 rfl (lv_at hl 0 rfl) ?_
  refine lv_iconst (v := 0) hx hb d_Sg_init_5 (by decide) ?_
  refine va_newa (atype := .byte) (ty := .byte) (N' := 0) (a0 := (0, .inl (fun _ => 0))) hx hb (ux_T_at hT tw_66 rfl) rfl hK hP hD hS hA (fun _ => rfl) (by decide) (by decide +kernel) (by decide +kernel) (Nat.le_of_ble_eq_true rfl) (Nat.le_of_ble_eq_true rfl) d_Sg_init_6 (fun q1 cA2 H hK hP hD hS => ?_)
  have hP : va_P (dC, dI) cls [(h0, .inr (5, [.null, .int 0, .int 0, .int 0, .int 0, .int 0, .int 0, .int 0, .int 0, .int 0, .int 0, .int 0])), (q1, .inl (cA2, 0, .inl (fun _ => 0)))] H := hP
  have hD : va_D A [(h0, .inr (5, [.null, .int 0, .int 0, .int 0, .int 0, .int 0, .int 0, .int 0, .int 0, .int 0, .int 0, .int 0])), (q1, .inl (cA2, 0, .inl (fun _ => 0)))] := hD
  have hK : va_K (dC, dI) cls [(cA2, .byte)] s := hK
  refine va_put (D := (dC, dI)) (ci := 5) (v := .ref q1) (ty := .array .byte) (C := R_Sg) (T := F_Sg) (N := 12) hx hb (u_Sg hT) (fun _ h => h) t_Sg k_Sg n_Sg hown hK hP hD hS 0 rfl rfl 0 (by decide) (ux_T_at hT tw_156 rfl) (fun _ h9 => h9) rfl (by decide +kernel) rfl rfl (Nat.le_of_ble_eq_true rfl) d_Sg_init_8 (fun H locs hP hD hS => ?_)
  have hP : va_P (dC, dI) cls [(h0, .inr (5, [.ref q1, .int 0, .int 0, .int 0, .int 0, .int 0, .int 0, .int 0, .int 0, .int 0, .int 0, .int 0])), (q1, .inl (cA2, 0, .inl (fun _ => 0)))] H := hP
  have hD : va_D A [(h0, .inr (5, [.ref q1, .int 0, .int 0, .int 0, .int 0, .int 0, .int 0, .int 0, .int 0, .int 0, .int 0, .int 0])), (q1, .inl (cA2, 0, .inl (fun _ => 0)))] := hD
  have hP := hP.sub (ws' := [(h0, .inr (5, [.ref q1, .int 0, .int 0, .int 0, .int 0, .int 0, .int 0, .int 0, .int 0, .int 0, .int 0, .int 0]))]) [0] rfl
  have hD := hD.sub (ws' := [(h0, .inr (5, [.ref q1, .int 0, .int 0, .int 0, .int 0, .int 0, .int 0, .int 0, .int 0, .int 0, .int 0, .int 0]))]) [0] (by decide) rfl
  have hP9 := hP.sub (ws' := [(h0, .inr (5, [.ref q1, .int 0, .int 0, .int 0, .int 0, .int 0, .int 0, .int 0, .int 0, .int 0, .int 0, .int 0]))]) [0] rfl
  have hD9 := hD.sub (ws' := [(h0, .inr (5, [.ref q1, .int 0, .int 0, .int 0, .int 0, .int 0, .int 0, .int 0, .int 0, .int 0, .int 0, .int 0]))]) [0] (by decide) rfl
  have hK9 := hK.sub (tys' := []) [] rfl
  refine W.widen (k := 1) (n := 0) (Nat.le_of_ble_eq_true rfl) (Nat.le_of_ble_eq_true rfl) ?_
  exact W.vret hx hb hr (fun t ht hW => ⟨⟨(), rfl, trivial, q1, by rw [ht]; exact hP9, va_K.moved hW.alike hK9, hD9⟩, hS.F ht⟩) hS.2.2 d_Sg_init_11
set_option maxHeartbeats 4000000 in
set_option maxRecDepth 100000 in
theorem c_In_init (l : Launch) (dC : Nat → ClassId) (dI : Nat → Nat → Nat) (h0 : Nat) (sz : Nat) : Met l y_In_init [Cond.code y_In_init b_In_init 1 (none)] ({ frames := 20, cells := 2, slots := 4096, locals := 300 }) (ux_Pc [.ref h0] (dC, dI) cls [(h0, .inr (8, [.null, .null, .int 0, .int 0, .int 0, .int 0, .int 0]))] [] sz) (va_Qv (fun _ : Unit => True) (fun (_ : Unit) (t : State) => ∃ (q1 : Nat), ∃ (q2 : Nat), ux_B (dC, dI) cls (va_A [(h0, .inr (8, [.null, .null, .int 0, .int 0, .int 0, .int 0, .int 0]))] sz) [(h0, .inr (8, [.ref q1, .ref q2, .int 0, .int 0, .int 0, .int 0, .int 0]))] [] t) (va_A [(h0, .inr (8, [.null, .null, .int 0, .int 0, .int 0, .int 0, .int 0]))] sz)) 2 4096 (va_A [(h0, .inr (8, [.null, .null, .int 0, .int 0, .int 0, .int 0, .int 0]))] sz) := by
  refine Met.ofW (cc := b_In_init) (maxL := 1) (ret := none) (by decide) rfl ?_
  intro p e s m args below meth c s₁ B hml hv
  obtain ⟨rfl, hsz, hP, hK, hD0, hT⟩ := hv
  have hx := B.exec
  have hb := B.bytes
  have hr := B.returns
  have hown : s.vm.findClass "UnikernelHttp$Inbox" = some m.cls := findClass_of_methodNamed B.named
  have hlocks := B.notSynchronized
  have hin : meth.name = "<init>" := (name_of_methodNamed B.named B.method).1
  subst hsz
  have hD := hD0.self (sz := s.heap.size)
  have hns := ux_ns hP
  generalize hAe : va_A [(h0, .inr (8, [.null, .null, .int 0, .int 0, .int 0, .int 0, .int 0]))] s.heap.size = A at hD hns ⊢
  have hA : ∀ q : Nat, s.heap.size ≤ q → A q := fun q h => by rw [← hAe]; exact Or.inr h
  have hS : va_S A s.heap s.heap [] := va_S.rf
  have hl := lv_entry ([.ref h0]) (n := 1) (Nat.le_of_ble_eq_true rfl)
  rw [lg_entry_eq]
  generalize (lg_sl ([.ref h0]) ++ List.replicate (1 - (lg_sl ([.ref h0])).length) Slot.unset).toArray = ls at hl ⊢
  have hl : lv_has ls 1 [(0, .ref h0)] := hl
  have hfx : CallFix p m c b_In_init 1 s ([.ref h0] : List Value).toArray [] "UnikernelHttp$Inbox" := ⟨hx, hb, hml, hown, fun _ h => by cases h⟩
  refine lv_aload_n hx hb d_In_init_0 rfl (lv_at hl 0 rfl) ?_
  refine W.objInit hx hb hown (ux_T_at hT tw_232 rfl) (ux_T_at hT tw_40 rfl) (ux_T_at hT tw_41 rfl) rfl (by rw [hml]; exact hl.1) rfl d_In_init_1 (Nat.le_of_ble_eq_true rfl) (Nat.le_of_ble_eq_true rfl) ?_
  refine W.eq (g2 := F0 m 4 ls []) rfl ?_
  refine lv_aload_n hx hb d_In_init_4 rfl (lv_at hl 0 rfl) ?_
  refine lv_sipush (v := 2048) hx hb d_In_init_5 (by decide) ?_
  refine va_newa (atype := .byte) (ty := .byte) (N' := 2048) (a0 := (2048, .inl (fun _ => 0))) hx hb (ux_T_at hT tw_66 rfl) rfl hK hP hD hS hA (fun _ => rfl) (by decide) (by decide +kernel) (by decide +kernel) (Nat.le_of_ble_eq_true rfl) (Nat.le_of_ble_eq_true rfl) d_In_init_8 (fun q1 cA2 H hK hP hD hS => ?_)
  have hP : va_P (dC, dI) cls [(h0, .inr (8, [.null, .null, .int 0, .int 0, .int 0, .int 0, .int 0])), (q1, .inl (cA2, 2048, .inl (fun _ => 0)))] H := hP
  have hD : va_D A [(h0, .inr (8, [.null, .null, .int 0, .int 0, .int 0, .int 0, .int 0])), (q1, .inl (cA2, 2048, .inl (fun _ => 0)))] := hD
  have hK : va_K (dC, dI) cls [(cA2, .byte)] s := hK
  refine va_putF (D := (dC, dI)) (ci := 8) (v := .ref q1) (ty := .array .byte) (C := R_In) (T := F_In) (N := 7) hx hb (u_In hT) (fun _ h => h) t_In k_In n_In hown hK hP hD hS 0 rfl rfl 0 (by decide) (ux_T_at hT tw_233 rfl) (fun _ h9 => h9) rfl hin rfl (by decide +kernel) rfl rfl (Nat.le_of_ble_eq_true rfl) d_In_init_10 (fun H locs hP hD hS => ?_)
  have hP : va_P (dC, dI) cls [(h0, .inr (8, [.ref q1, .null, .int 0, .int 0, .int 0, .int 0, .int 0])), (q1, .inl (cA2, 2048, .inl (fun _ => 0)))] H := hP
  have hD : va_D A [(h0, .inr (8, [.ref q1, .null, .int 0, .int 0, .int 0, .int 0, .int 0])), (q1, .inl (cA2, 2048, .inl (fun _ => 0)))] := hD
  have hP := hP.sub (ws' := [(h0, .inr (8, [.ref q1, .null, .int 0, .int 0, .int 0, .int 0, .int 0]))]) [0] rfl
  have hD := hD.sub (ws' := [(h0, .inr (8, [.ref q1, .null, .int 0, .int 0, .int 0, .int 0, .int 0]))]) [0] (by decide) rfl
  refine lv_aload_n hx hb d_In_init_13 rfl (lv_at hl 0 rfl) ?_
  refine lv_sipush (v := 2048) hx hb d_In_init_14 (by decide) ?_
  refine va_newa (atype := .byte) (ty := .byte) (N' := 2048) (a0 := (2048, .inl (fun _ => 0))) hx hb (ux_T_at hT tw_66 rfl) rfl hK hP hD hS hA (fun _ => rfl) (by decide) (by decide +kernel) (by decide +kernel) (Nat.le_of_ble_eq_true rfl) (Nat.le_of_ble_eq_true rfl) d_In_init_17 (fun q3 cA4 H hK hP hD hS => ?_)
  have hP : va_P (dC, dI) cls [(h0, .inr (8, [.ref q1, .null, .int 0, .int 0, .int 0, .int 0, .int 0])), (q3, .inl (cA4, 2048, .inl (fun _ => 0)))] H := hP
  have hD : va_D A [(h0, .inr (8, [.ref q1, .null, .int 0, .int 0, .int 0, .int 0, .int 0])), (q3, .inl (cA4, 2048, .inl (fun _ => 0)))] := hD
  have hK : va_K (dC, dI) cls [(cA2, .byte), (cA4, .byte)] s := hK
  refine va_putF (D := (dC, dI)) (ci := 8) (v := .ref q3) (ty := .array .byte) (C := R_In) (T := F_In) (N := 7) hx hb (u_In hT) (fun _ h => h) t_In k_In n_In hown hK hP hD hS 0 rfl rfl 1 (by decide) (ux_T_at hT tw_235 rfl) (fun _ h9 => h9) rfl hin rfl (by decide +kernel) rfl rfl (Nat.le_of_ble_eq_true rfl) d_In_init_19 (fun H locs hP hD hS => ?_)
  have hP : va_P (dC, dI) cls [(h0, .inr (8, [.ref q1, .ref q3, .int 0, .int 0, .int 0, .int 0, .int 0])), (q3, .inl (cA4, 2048, .inl (fun _ => 0)))] H := hP
  have hD : va_D A [(h0, .inr (8, [.ref q1, .ref q3, .int 0, .int 0, .int 0, .int 0, .int 0])), (q3, .inl (cA4, 2048, .inl (fun _ => 0)))] := hD
  have hP := hP.sub (ws' := [(h0, .inr (8, [.ref q1, .ref q3, .int 0, .int 0, .int 0, .int 0, .int 0]))]) [0] rfl
  have hD := hD.sub (ws' := [(h0, .inr (8, [.ref q1, .ref q3, .int 0, .int 0, .int 0, .int 0, .int 0]))]) [0] (by decide) rfl
  have hP9 := hP.sub (ws' := [(h0, .inr (8, [.ref q1, .ref q3, .int 0, .int 0, .int 0, .int 0, .int 0]))]) [0] rfl
  have hD9 := hD.sub (ws' := [(h0, .inr (8, [.ref q1, .ref q3, .int 0, .int 0, .int 0, .int 0, .int 0]))]) [0] (by decide) rfl
  have hK9 := hK.sub (tys' := []) [] rfl
  refine W.widen (k := 2) (n := 4096) (Nat.le_of_ble_eq_true rfl) (Nat.le_of_ble_eq_true rfl) ?_
  exact W.vret hx hb hr (fun t ht hW => ⟨⟨(), rfl, trivial, q1, q3, by rw [ht]; exact hP9, va_K.moved hW.alike hK9, hD9⟩, hS.F ht⟩) hS.2.2 d_In_init_22
set_option maxHeartbeats 4000000 in
set_option maxRecDepth 100000 in
theorem c_Ou_init (l : Launch) (dC : Nat → ClassId) (dI : Nat → Nat → Nat) (h0 : Nat) (sz : Nat) : Met l y_Ou_init [Cond.code y_Ou_init b_Ou_init 1 (none)] ({ frames := 20, cells := 1, slots := 4096, locals := 300 }) (ux_Pc [.ref h0] (dC, dI) cls [(h0, .inr (9, [.null, .int 0, .int 0, .int 0, .int 0]))] [] sz) (va_Qv (fun _ : Unit => True) (fun (_ : Unit) (t : State) => ∃ (q1 : Nat), ux_B (dC, dI) cls (va_A [(h0, .inr (9, [.null, .int 0, .int 0, .int 0, .int 0]))] sz) [(h0, .inr (9, [.ref q1, .int 0, .int 0, .int 0, .int 0]))] [] t) (va_A [(h0, .inr (9, [.null, .int 0, .int 0, .int 0, .int 0]))] sz)) 1 4096 (va_A [(h0, .inr (9, [.null, .int 0, .int 0, .int 0, .int 0]))] sz) := by
  refine Met.ofW (cc := b_Ou_init) (maxL := 1) (ret := none) (by decide) rfl ?_
  intro p e s m args below meth c s₁ B hml hv
  obtain ⟨rfl, hsz, hP, hK, hD0, hT⟩ := hv
  have hx := B.exec
  have hb := B.bytes
  have hr := B.returns
  have hown : s.vm.findClass "UnikernelHttp$Outbox" = some m.cls := findClass_of_methodNamed B.named
  have hlocks := B.notSynchronized
  have hin : meth.name = "<init>" := (name_of_methodNamed B.named B.method).1
  subst hsz
  have hD := hD0.self (sz := s.heap.size)
  have hns := ux_ns hP
  generalize hAe : va_A [(h0, .inr (9, [.null, .int 0, .int 0, .int 0, .int 0]))] s.heap.size = A at hD hns ⊢
  have hA : ∀ q : Nat, s.heap.size ≤ q → A q := fun q h => by rw [← hAe]; exact Or.inr h
  have hS : va_S A s.heap s.heap [] := va_S.rf
  have hl := lv_entry ([.ref h0]) (n := 1) (Nat.le_of_ble_eq_true rfl)
  rw [lg_entry_eq]
  generalize (lg_sl ([.ref h0]) ++ List.replicate (1 - (lg_sl ([.ref h0])).length) Slot.unset).toArray = ls at hl ⊢
  have hl : lv_has ls 1 [(0, .ref h0)] := hl
  have hfx : CallFix p m c b_Ou_init 1 s ([.ref h0] : List Value).toArray [] "UnikernelHttp$Outbox" := ⟨hx, hb, hml, hown, fun _ h => by cases h⟩
  refine lv_aload_n hx hb d_Ou_init_0 rfl (lv_at hl 0 rfl) ?_
  refine W.objInit hx hb hown (ux_T_at hT tw_267 rfl) (ux_T_at hT tw_40 rfl) (ux_T_at hT tw_41 rfl) rfl (by rw [hml]; exact hl.1) rfl d_Ou_init_1 (Nat.le_of_ble_eq_true rfl) (Nat.le_of_ble_eq_true rfl) ?_
  refine W.eq (g2 := F0 m 4 ls []) rfl ?_
  refine lv_aload_n hx hb d_Ou_init_4 rfl (lv_at hl 0 rfl) ?_
  refine lv_sipush (v := 4096) hx hb d_Ou_init_5 (by decide) ?_
  refine va_newa (atype := .byte) (ty := .byte) (N' := 4096) (a0 := (4096, .inl (fun _ => 0))) hx hb (ux_T_at hT tw_66 rfl) rfl hK hP hD hS hA (fun _ => rfl) (by decide) (by decide +kernel) (by decide +kernel) (Nat.le_of_ble_eq_true rfl) (Nat.le_of_ble_eq_true rfl) d_Ou_init_8 (fun q1 cA2 H hK hP hD hS => ?_)
  have hP : va_P (dC, dI) cls [(h0, .inr (9, [.null, .int 0, .int 0, .int 0, .int 0])), (q1, .inl (cA2, 4096, .inl (fun _ => 0)))] H := hP
  have hD : va_D A [(h0, .inr (9, [.null, .int 0, .int 0, .int 0, .int 0])), (q1, .inl (cA2, 4096, .inl (fun _ => 0)))] := hD
  have hK : va_K (dC, dI) cls [(cA2, .byte)] s := hK
  refine va_putF (D := (dC, dI)) (ci := 9) (v := .ref q1) (ty := .array .byte) (C := R_Ou) (T := F_Ou) (N := 5) hx hb (u_Ou hT) (fun _ h => h) t_Ou k_Ou n_Ou hown hK hP hD hS 0 rfl rfl 0 (by decide) (ux_T_at hT tw_268 rfl) (fun _ h9 => h9) rfl hin rfl (by decide +kernel) rfl rfl (Nat.le_of_ble_eq_true rfl) d_Ou_init_10 (fun H locs hP hD hS => ?_)
  have hP : va_P (dC, dI) cls [(h0, .inr (9, [.ref q1, .int 0, .int 0, .int 0, .int 0])), (q1, .inl (cA2, 4096, .inl (fun _ => 0)))] H := hP
  have hD : va_D A [(h0, .inr (9, [.ref q1, .int 0, .int 0, .int 0, .int 0])), (q1, .inl (cA2, 4096, .inl (fun _ => 0)))] := hD
  have hP := hP.sub (ws' := [(h0, .inr (9, [.ref q1, .int 0, .int 0, .int 0, .int 0]))]) [0] rfl
  have hD := hD.sub (ws' := [(h0, .inr (9, [.ref q1, .int 0, .int 0, .int 0, .int 0]))]) [0] (by decide) rfl
  have hP9 := hP.sub (ws' := [(h0, .inr (9, [.ref q1, .int 0, .int 0, .int 0, .int 0]))]) [0] rfl
  have hD9 := hD.sub (ws' := [(h0, .inr (9, [.ref q1, .int 0, .int 0, .int 0, .int 0]))]) [0] (by decide) rfl
  have hK9 := hK.sub (tys' := []) [] rfl
  refine W.widen (k := 1) (n := 4096) (Nat.le_of_ble_eq_true rfl) (Nat.le_of_ble_eq_true rfl) ?_
  exact W.vret hx hb hr (fun t ht hW => ⟨⟨(), rfl, trivial, q1, by rw [ht]; exact hP9, va_K.moved hW.alike hK9, hD9⟩, hS.F ht⟩) hS.2.2 d_Ou_init_13
set_option maxHeartbeats 4000000 in
set_option maxRecDepth 100000 in
theorem c_Co_init (l : Launch) (dC : Nat → ClassId) (dI : Nat → Nat → Nat) (h0 : Nat) (sz : Nat) : Met l y_Co_init [Cond.code y_Co_init b_Co_init 1 (none)] ({ frames := 40, cells := 5, slots := 8204, locals := 600 }) (ux_Pc [.ref h0] (dC, dI) cls [(h0, .inr (7, [.null, .null, .int 0, .int 0, .int 0, .int 0, .int 0, .int 0, .int 0, .int 0, .int 0, .int 0, .int 0, .int 0, .int 0, .int 0, .int 0]))] [] sz) (va_Qv (fun _ : Unit => True) (fun (_ : Unit) (t : State) => ∃ (q1 : Nat), ∃ (q2 : Nat), ux_B (dC, dI) cls (va_A [(h0, .inr (7, [.null, .null, .int 0, .int 0, .int 0, .int 0, .int 0, .int 0, .int 0, .int 0, .int 0, .int 0, .int 0, .int 0, .int 0, .int 0, .int 0]))] sz) [(h0, .inr (7, [.ref q1, .ref q2, .int 0, .int 0, .int 0, .int 0, .int 0, .int 0, .int 0, .int 0, .int 0, .int 0, .int 0, .int 0, .int 0, .int 0, .int 0]))] [] t) (va_A [(h0, .inr (7, [.null, .null, .int 0, .int 0, .int 0, .int 0, .int 0, .int 0, .int 0, .int 0, .int 0, .int 0, .int 0, .int 0, .int 0, .int 0, .int 0]))] sz)) 5 8204 (va_A [(h0, .inr (7, [.null, .null, .int 0, .int 0, .int 0, .int 0, .int 0, .int 0, .int 0, .int 0, .int 0, .int 0, .int 0, .int 0, .int 0, .int 0, .int 0]))] sz) := by
  refine Met.ofW (cc := b_Co_init) (maxL := 1) (ret := none) (by decide) rfl ?_
  intro p e s m args below meth c s₁ B hml hv
  obtain ⟨rfl, hsz, hP, hK, hD0, hT⟩ := hv
  have hx := B.exec
  have hb := B.bytes
  have hr := B.returns
  have hown : s.vm.findClass "UnikernelHttp$Connection" = some m.cls := findClass_of_methodNamed B.named
  have hlocks := B.notSynchronized
  have hin : meth.name = "<init>" := (name_of_methodNamed B.named B.method).1
  subst hsz
  have hD := hD0.self (sz := s.heap.size)
  have hns := ux_ns hP
  generalize hAe : va_A [(h0, .inr (7, [.null, .null, .int 0, .int 0, .int 0, .int 0, .int 0, .int 0, .int 0, .int 0, .int 0, .int 0, .int 0, .int 0, .int 0, .int 0, .int 0]))] s.heap.size = A at hD hns ⊢
  have hA : ∀ q : Nat, s.heap.size ≤ q → A q := fun q h => by rw [← hAe]; exact Or.inr h
  have hS : va_S A s.heap s.heap [] := va_S.rf
  have hl := lv_entry ([.ref h0]) (n := 1) (Nat.le_of_ble_eq_true rfl)
  rw [lg_entry_eq]
  generalize (lg_sl ([.ref h0]) ++ List.replicate (1 - (lg_sl ([.ref h0])).length) Slot.unset).toArray = ls at hl ⊢
  have hl : lv_has ls 1 [(0, .ref h0)] := hl
  have hfx : CallFix p m c b_Co_init 1 s ([.ref h0] : List Value).toArray [] "UnikernelHttp$Connection" := ⟨hx, hb, hml, hown, fun _ h => by cases h⟩
  refine lv_aload_n hx hb d_Co_init_0 rfl (lv_at hl 0 rfl) ?_
  refine W.objInit hx hb hown (ux_T_at hT tw_226 rfl) (ux_T_at hT tw_40 rfl) (ux_T_at hT tw_41 rfl) rfl (by rw [hml]; exact hl.1) rfl d_Co_init_1 (Nat.le_of_ble_eq_true rfl) (Nat.le_of_ble_eq_true rfl) ?_
  refine W.eq (g2 := F0 m 4 ls []) rfl ?_
  refine lv_aload_n hx hb d_Co_init_4 rfl (lv_at hl 0 rfl) ?_
  refine va_new (ci := 8) (fs := [.null, .null, .int 0, .int 0, .int 0, .int 0, .int 0]) (C := R_In) (T := F_In) (N := 7) hx hb (u_In hT) (fun _ h => h) t_In k_In hown (ux_T_at hT tw_227 rfl) (ux_T_at hT tw_228 rfl) (ux_T_at hT tw_9 rfl) hK hP hD hS hA rfl z_In (Nat.le_of_ble_eq_true rfl) (Nat.le_of_ble_eq_true rfl) d_Co_init_5 (fun q1 H hP hD hS => ?_)
  have hP : va_P (dC, dI) cls [(h0, .inr (7, [.null, .null, .int 0, .int 0, .int 0, .int 0, .int 0, .int 0, .int 0, .int 0, .int 0, .int 0, .int 0, .int 0, .int 0, .int 0, .int 0])), (q1, .inr (8, [.null, .null, .int 0, .int 0, .int 0, .int 0, .int 0]))] H := hP
  have hD : va_D A [(h0, .inr (7, [.null, .null, .int 0, .int 0, .int 0, .int 0, .int 0, .int 0, .int 0, .int 0, .int 0, .int 0, .int 0, .int 0, .int 0, .int 0, .int 0])), (q1, .inr (8, [.null, .null, .int 0, .int 0, .int 0, .int 0, .int 0]))] := hD
  refine lv_dup hx hb d_Co_init_8 rfl ?_
  have hPc := hP.sub (ws' := [(q1, .inr (8, [.null, .null, .int 0, .int 0, .int 0, .int 0, .int 0]))]) [1] rfl
  have hDc := hD.sub (ws' := [(q1, .inr (8, [.null, .null, .int 0, .int 0, .int 0, .int 0, .int 0]))]) [1] (by decide) rfl
  have hKc := hK.sub (tys' := []) [] rfl
  have hFc := va_free (wc := [(q1, .inr (8, [.null, .null, .int 0, .int 0, .int 0, .int 0, .int 0]))]) hD hS hA [1] rfl
  have hkc : 1 + 2 ≤ 5 := (Nat.le_of_ble_eq_true rfl)
  refine va_callv (va_runIN (As := []) (rest := [.ref q1, .ref h0]) hfx (c_In_init l dC dI q1 H.size) ⟨(ux_cn 0 hT tw_231 tw_229 tw_9 rfl rfl (by decide +kernel) ⟨(Nat.le_of_ble_eq_true rfl), (Nat.le_of_ble_eq_true rfl)⟩), rfl, (ux_T_at hT tw_230 rfl)⟩ (ux_pre [.ref q1] hT hPc hKc hDc) rfl rfl hl.1 rfl (lv_room (Nat.le_of_ble_eq_true rfl)) d_Co_init_9 ⟨(Nat.le_of_ble_eq_true rfl), (Nat.le_of_ble_eq_true rfl)⟩) hS (fun q _ h => hFc q h) hFc (fun u t H1 locs ht hvm hw hB hz1 hk1 hS => ?_)
  obtain ⟨q3, q4, hP1, hK1, hD1⟩ := hB
  rw [ht] at hP1
  have hK1 := va_K.moved hvm.symm hK1
  obtain ⟨hP, hD⟩ := va_join (wr := [(h0, .inr (7, [.null, .null, .int 0, .int 0, .int 0, .int 0, .int 0, .int 0, .int 0, .int 0, .int 0, .int 0, .int 0, .int 0, .int 0, .int 0, .int 0]))]) (w1 := [(q1, .inr (8, [.ref q3, .ref q4, .int 0, .int 0, .int 0, .int 0, .int 0]))]) hP hD [1] [0] rfl rfl (by decide) (by decide) hk1 hFc hP1 hD1
  have hK := (hK.sub (tys' := []) [] rfl).app hK1
  generalize H1 = H at hP hS ⊢
  have hP : va_P (dC, dI) cls [(h0, .inr (7, [.null, .null, .int 0, .int 0, .int 0, .int 0, .int 0, .int 0, .int 0, .int 0, .int 0, .int 0, .int 0, .int 0, .int 0, .int 0, .int 0])), (q1, .inr (8, [.ref q3, .ref q4, .int 0, .int 0, .int 0, .int 0, .int 0]))] H := hP
  have hD : va_D A [(h0, .inr (7, [.null, .null, .int 0, .int 0, .int 0, .int 0, .int 0, .int 0, .int 0, .int 0, .int 0, .int 0, .int 0, .int 0, .int 0, .int 0, .int 0])), (q1, .inr (8, [.ref q3, .ref q4, .int 0, .int 0, .int 0, .int 0, .int 0]))] := hD
  have hK : va_K (dC, dI) cls [] s := hK
  refine va_putF (D := (dC, dI)) (ci := 7) (v := .ref q1) (ty := .object "UnikernelHttp$Inbox") (C := R_Co) (T := F_Co) (N := 17) hx hb (u_Co hT) (fun _ h => h) t_Co k_Co n_Co hown hK hP hD hS 0 rfl rfl 0 (by decide) (ux_T_at hT tw_294 rfl) (fun _ h9 => h9) rfl hin rfl (by decide +kernel) rfl rfl (Nat.le_of_ble_eq_true rfl) d_Co_init_12 (fun H locs hP hD hS => ?_)
  have hP : va_P (dC, dI) cls [(h0, .inr (7, [.ref q1, .null, .int 0, .int 0, .int 0, .int 0, .int 0, .int 0, .int 0, .int 0, .int 0, .int 0, .int 0, .int 0, .int 0, .int 0, .int 0])), (q1, .inr (8, [.ref q3, .ref q4, .int 0, .int 0, .int 0, .int 0, .int 0]))] H := hP
  have hD : va_D A [(h0, .inr (7, [.ref q1, .null, .int 0, .int 0, .int 0, .int 0, .int 0, .int 0, .int 0, .int 0, .int 0, .int 0, .int 0, .int 0, .int 0, .int 0, .int 0])), (q1, .inr (8, [.ref q3, .ref q4, .int 0, .int 0, .int 0, .int 0, .int 0]))] := hD
  have hP := hP.sub (ws' := [(h0, .inr (7, [.ref q1, .null, .int 0, .int 0, .int 0, .int 0, .int 0, .int 0, .int 0, .int 0, .int 0, .int 0, .int 0, .int 0, .int 0, .int 0, .int 0]))]) [0] rfl
  have hD := hD.sub (ws' := [(h0, .inr (7, [.ref q1, .null, .int 0, .int 0, .int 0, .int 0, .int 0, .int 0, .int 0, .int 0, .int 0, .int 0, .int 0, .int 0, .int 0, .int 0, .int 0]))]) [0] (by decide) rfl
  refine lv_aload_n hx hb d_Co_init_15 rfl (lv_at hl 0 rfl) ?_
  refine va_new (ci := 9) (fs := [.null, .int 0, .int 0, .int 0, .int 0]) (C := R_Ou) (T := F_Ou) (N := 5) hx hb (u_Ou hT) (fun _ h => h) t_Ou k_Ou hown (ux_T_at hT tw_262 rfl) (ux_T_at hT tw_263 rfl) (ux_T_at hT tw_10 rfl) hK hP hD hS hA rfl z_Ou (Nat.le_of_ble_eq_true rfl) (Nat.le_of_ble_eq_true rfl) d_Co_init_16 (fun q5 H hP hD hS => ?_)
  have hP : va_P (dC, dI) cls [(h0, .inr (7, [.ref q1, .null, .int 0, .int 0, .int 0, .int 0, .int 0, .int 0, .int 0, .int 0, .int 0, .int 0, .int 0, .int 0, .int 0, .int 0, .int 0])), (q5, .inr (9, [.null, .int 0, .int 0, .int 0, .int 0]))] H := hP
  have hD : va_D A [(h0, .inr (7, [.ref q1, .null, .int 0, .int 0, .int 0, .int 0, .int 0, .int 0, .int 0, .int 0, .int 0, .int 0, .int 0, .int 0, .int 0, .int 0, .int 0])), (q5, .inr (9, [.null, .int 0, .int 0, .int 0, .int 0]))] := hD
  refine lv_dup hx hb d_Co_init_19 rfl ?_
  have hPc := hP.sub (ws' := [(q5, .inr (9, [.null, .int 0, .int 0, .int 0, .int 0]))]) [1] rfl
  have hDc := hD.sub (ws' := [(q5, .inr (9, [.null, .int 0, .int 0, .int 0, .int 0]))]) [1] (by decide) rfl
  have hKc := hK.sub (tys' := []) [] rfl
  have hFc := va_free (wc := [(q5, .inr (9, [.null, .int 0, .int 0, .int 0, .int 0]))]) hD hS hA [1] rfl
  have hkc : 4 + 1 ≤ 5 := (Nat.le_of_ble_eq_true rfl)
  refine va_callv (va_runIN (As := []) (rest := [.ref q5, .ref h0]) hfx (c_Ou_init l dC dI q5 H.size) ⟨(ux_cn 0 hT tw_266 tw_264 tw_10 rfl rfl (by decide +kernel) ⟨(Nat.le_of_ble_eq_true rfl), (Nat.le_of_ble_eq_true rfl)⟩), rfl, (ux_T_at hT tw_265 rfl)⟩ (ux_pre [.ref q5] hT hPc hKc hDc) rfl rfl hl.1 rfl (lv_room (Nat.le_of_ble_eq_true rfl)) d_Co_init_20 ⟨(Nat.le_of_ble_eq_true rfl), (Nat.le_of_ble_eq_true rfl)⟩) hS (fun q _ h => hFc q h) hFc (fun u t H1 locs ht hvm hw hB hz1 hk1 hS => ?_)
  obtain ⟨q7, hP1, hK1, hD1⟩ := hB
  rw [ht] at hP1
  have hK1 := va_K.moved hvm.symm hK1
  obtain ⟨hP, hD⟩ := va_join (wr := [(h0, .inr (7, [.ref q1, .null, .int 0, .int 0, .int 0, .int 0, .int 0, .int 0, .int 0, .int 0, .int 0, .int 0, .int 0, .int 0, .int 0, .int 0, .int 0]))]) (w1 := [(q5, .inr (9, [.ref q7, .int 0, .int 0, .int 0, .int 0]))]) hP hD [1] [0] rfl rfl (by decide) (by decide) hk1 hFc hP1 hD1
  have hK := (hK.sub (tys' := []) [] rfl).app hK1
  generalize H1 = H at hP hS ⊢
  have hP : va_P (dC, dI) cls [(h0, .inr (7, [.ref q1, .null, .int 0, .int 0, .int 0, .int 0, .int 0, .int 0, .int 0, .int 0, .int 0, .int 0, .int 0, .int 0, .int 0, .int 0, .int 0])), (q5, .inr (9, [.ref q7, .int 0, .int 0, .int 0, .int 0]))] H := hP
  have hD : va_D A [(h0, .inr (7, [.ref q1, .null, .int 0, .int 0, .int 0, .int 0, .int 0, .int 0, .int 0, .int 0, .int 0, .int 0, .int 0, .int 0, .int 0, .int 0, .int 0])), (q5, .inr (9, [.ref q7, .int 0, .int 0, .int 0, .int 0]))] := hD
  have hK : va_K (dC, dI) cls [] s := hK
  refine va_putF (D := (dC, dI)) (ci := 7) (v := .ref q5) (ty := .object "UnikernelHttp$Outbox") (C := R_Co) (T := F_Co) (N := 17) hx hb (u_Co hT) (fun _ h => h) t_Co k_Co n_Co hown hK hP hD hS 0 rfl rfl 1 (by decide) (ux_T_at hT tw_298 rfl) (fun _ h9 => h9) rfl hin rfl (by decide +kernel) rfl rfl (Nat.le_of_ble_eq_true rfl) d_Co_init_23 (fun H locs hP hD hS => ?_)
  have hP : va_P (dC, dI) cls [(h0, .inr (7, [.ref q1, .ref q5, .int 0, .int 0, .int 0, .int 0, .int 0, .int 0, .int 0, .int 0, .int 0, .int 0, .int 0, .int 0, .int 0, .int 0, .int 0])), (q5, .inr (9, [.ref q7, .int 0, .int 0, .int 0, .int 0]))] H := hP
  have hD : va_D A [(h0, .inr (7, [.ref q1, .ref q5, .int 0, .int 0, .int 0, .int 0, .int 0, .int 0, .int 0, .int 0, .int 0, .int 0, .int 0, .int 0, .int 0, .int 0, .int 0])), (q5, .inr (9, [.ref q7, .int 0, .int 0, .int 0, .int 0]))] := hD
  have hP := hP.sub (ws' := [(h0, .inr (7, [.ref q1, .ref q5, .int 0, .int 0, .int 0, .int 0, .int 0, .int 0, .int 0, .int 0, .int 0, .int 0, .int 0, .int 0, .int 0, .int 0, .int 0]))]) [0] rfl
  have hD := hD.sub (ws' := [(h0, .inr (7, [.ref q1, .ref q5, .int 0, .int 0, .int 0, .int 0, .int 0, .int 0, .int 0, .int 0, .int 0, .int 0, .int 0, .int 0, .int 0, .int 0, .int 0]))]) [0] (by decide) rfl
  have hP9 := hP.sub (ws' := [(h0, .inr (7, [.ref q1, .ref q5, .int 0, .int 0, .int 0, .int 0, .int 0, .int 0, .int 0, .int 0, .int 0, .int 0, .int 0, .int 0, .int 0, .int 0, .int 0]))]) [0] rfl
  have hD9 := hD.sub (ws' := [(h0, .inr (7, [.ref q1, .ref q5, .int 0, .int 0, .int 0, .int 0, .int 0, .int 0, .int 0, .int 0, .int 0, .int 0, .int 0, .int 0, .int 0, .int 0, .int 0]))]) [0] (by decide) rfl
  have hK9 := hK.sub (tys' := []) [] rfl
  refine W.widen (k := 5) (n := 8204) (Nat.le_of_ble_eq_true rfl) (Nat.le_of_ble_eq_true rfl) ?_
  exact W.vret hx hb hr (fun t ht hW => ⟨⟨(), rfl, trivial, q1, q5, by rw [ht]; exact hP9, va_K.moved hW.alike hK9, hD9⟩, hS.F ht⟩) hS.2.2 d_Co_init_26
