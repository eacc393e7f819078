/-! Which words the rows behind use, by their places. -/
theorem tw_2 : (Jvm.Cond.initialized "UnikernelHttp$Neighbours") ∈ lw_tbl := ux_in 2 ux_t1 rfl
theorem tw_3 : (Jvm.Cond.initialized "UnikernelHttp$Wire") ∈ lw_tbl := ux_in 3 ux_t1 rfl
theorem tw_4 : (Jvm.Cond.initialized "UnikernelHttp$Gatherings") ∈ lw_tbl := ux_in 4 ux_t1 rfl
theorem tw_6 : (Jvm.Cond.initialized "UnikernelHttp$Segment") ∈ lw_tbl := ux_in 6 ux_t1 rfl
theorem tw_7 : (Jvm.Cond.initialized "UnikernelHttp$Tcp") ∈ lw_tbl := ux_in 7 ux_t1 rfl
theorem tw_11 : (Jvm.Cond.initialized "UnikernelHttp$Store") ∈ lw_tbl := ux_in 11 ux_t1 rfl
theorem tw_12 : (Jvm.Cond.initialized "UnikernelHttp$Http") ∈ lw_tbl := ux_in 12 ux_t1 rfl
theorem tw_39 : (Jvm.Cond.methodLink "UnikernelHttp" (5 : Nat) ({ cls := "java/lang/Object", name := "<init>", desc := "()V" } : Jvm.MethodName)) ∈ lw_tbl := ux_in 39 ux_t1 rfl
theorem tw_42 : (Jvm.Cond.classLink "UnikernelHttp" (15 : Nat) "UnikernelHttp$Neighbours") ∈ lw_tbl := ux_in 42 ux_t1 rfl
theorem tw_43 : (Jvm.Cond.instantiable "UnikernelHttp$Neighbours" (5 : Nat)) ∈ lw_tbl := ux_in 43 ux_t1 rfl
theorem tw_44 : (Jvm.Cond.methodLinkNest "UnikernelHttp" (17 : Nat) ({ cls := "UnikernelHttp$Neighbours", name := "<init>", desc := "()V" } : Jvm.MethodName) "UnikernelHttp") ∈ lw_tbl := ux_in 44 ux_t1 rfl
theorem tw_45 : (Jvm.Cond.instanceMethod ({ cls := "UnikernelHttp$Neighbours", name := "<init>", desc := "()V" } : Jvm.MethodName)) ∈ lw_tbl := ux_in 45 ux_t1 rfl
theorem tw_46 : (Jvm.Cond.code ({ cls := "UnikernelHttp$Neighbours", name := "<init>", desc := "()V" } : Jvm.MethodName) prog_7_method_1_code (1 : Nat) (Option.none : Option Jvm.ClassFile.FieldType)) ∈ lw_tbl := ux_in 46 ux_t1 rfl
theorem tw_69 : (Jvm.Cond.classLink "UnikernelHttp" (22 : Nat) "UnikernelHttp$Wire") ∈ lw_tbl := ux_in 69 ux_t1 rfl
theorem tw_70 : (Jvm.Cond.instantiable "UnikernelHttp$Wire" (5 : Nat)) ∈ lw_tbl := ux_in 70 ux_t1 rfl
theorem tw_71 : (Jvm.Cond.methodLinkNest "UnikernelHttp" (24 : Nat) ({ cls := "UnikernelHttp$Wire", name := "<init>", desc := "(LUnikernelHttp$Neighbours;)V" } : Jvm.MethodName) "UnikernelHttp") ∈ lw_tbl := ux_in 71 ux_t1 rfl
theorem tw_72 : (Jvm.Cond.instanceMethod ({ cls := "UnikernelHttp$Wire", name := "<init>", desc := "(LUnikernelHttp$Neighbours;)V" } : Jvm.MethodName)) ∈ lw_tbl := ux_in 72 ux_t1 rfl
theorem tw_73 : (Jvm.Cond.code ({ cls := "UnikernelHttp$Wire", name := "<init>", desc := "(LUnikernelHttp$Neighbours;)V" } : Jvm.MethodName) prog_12_method_1_code (2 : Nat) (Option.none : Option Jvm.ClassFile.FieldType)) ∈ lw_tbl := ux_in 73 ux_t1 rfl
theorem tw_95 : (Jvm.Cond.classLink "UnikernelHttp" (31 : Nat) "UnikernelHttp$Gatherings") ∈ lw_tbl := ux_in 95 ux_t1 rfl
theorem tw_96 : (Jvm.Cond.instantiable "UnikernelHttp$Gatherings" (2 : Nat)) ∈ lw_tbl := ux_in 96 ux_t1 rfl
theorem tw_97 : (Jvm.Cond.methodLinkNest "UnikernelHttp" (33 : Nat) ({ cls := "UnikernelHttp$Gatherings", name := "<init>", desc := "()V" } : Jvm.MethodName) "UnikernelHttp") ∈ lw_tbl := ux_in 97 ux_t1 rfl
theorem tw_98 : (Jvm.Cond.instanceMethod ({ cls := "UnikernelHttp$Gatherings", name := "<init>", desc := "()V" } : Jvm.MethodName)) ∈ lw_tbl := ux_in 98 ux_t1 rfl
theorem tw_99 : (Jvm.Cond.code ({ cls := "UnikernelHttp$Gatherings", name := "<init>", desc := "()V" } : Jvm.MethodName) prog_4_method_1_code (2 : Nat) (Option.none : Option Jvm.ClassFile.FieldType)) ∈ lw_tbl := ux_in 99 ux_t1 rfl
theorem tw_150 : (Jvm.Cond.classLink "UnikernelHttp" (38 : Nat) "UnikernelHttp$Segment") ∈ lw_tbl := ux_in 150 ux_t1 rfl
theorem tw_151 : (Jvm.Cond.instantiable "UnikernelHttp$Segment" (12 : Nat)) ∈ lw_tbl := ux_in 151 ux_t1 rfl
theorem tw_152 : (Jvm.Cond.methodLinkNest "UnikernelHttp" (40 : Nat) ({ cls := "UnikernelHttp$Segment", name := "<init>", desc := "()V" } : Jvm.MethodName) "UnikernelHttp") ∈ lw_tbl := ux_in 152 ux_t1 rfl
theorem tw_153 : (Jvm.Cond.instanceMethod ({ cls := "UnikernelHttp$Segment", name := "<init>", desc := "()V" } : Jvm.MethodName)) ∈ lw_tbl := ux_in 153 ux_t1 rfl
theorem tw_154 : (Jvm.Cond.code ({ cls := "UnikernelHttp$Segment", name := "<init>", desc := "()V" } : Jvm.MethodName) prog_9_method_1_code (1 : Nat) (Option.none : Option Jvm.ClassFile.FieldType)) ∈ lw_tbl := ux_in 154 ux_t1 rfl
theorem tw_214 : (Jvm.Cond.classLink "UnikernelHttp" (45 : Nat) "UnikernelHttp$Tcp") ∈ lw_tbl := ux_in 214 ux_t1 rfl
theorem tw_215 : (Jvm.Cond.instantiable "UnikernelHttp$Tcp" (5 : Nat)) ∈ lw_tbl := ux_in 215 ux_t1 rfl
theorem tw_216 : (Jvm.Cond.methodLinkNest "UnikernelHttp" (47 : Nat) ({ cls := "UnikernelHttp$Tcp", name := "<init>", desc := "(LUnikernelHttp$Wire;)V" } : Jvm.MethodName) "UnikernelHttp") ∈ lw_tbl := ux_in 216 ux_t1 rfl
theorem tw_217 : (Jvm.Cond.instanceMethod ({ cls := "UnikernelHttp$Tcp", name := "<init>", desc := "(LUnikernelHttp$Wire;)V" } : Jvm.MethodName)) ∈ lw_tbl := ux_in 217 ux_t1 rfl
theorem tw_218 : (Jvm.Cond.code ({ cls := "UnikernelHttp$Tcp", name := "<init>", desc := "(LUnikernelHttp$Wire;)V" } : Jvm.MethodName) prog_11_method_1_code (3 : Nat) (Option.none : Option Jvm.ClassFile.FieldType)) ∈ lw_tbl := ux_in 218 ux_t1 rfl
theorem tw_388 : (Jvm.Cond.classLink "UnikernelHttp" (54 : Nat) "UnikernelHttp$Store") ∈ lw_tbl := ux_in 148 ux_t2 rfl
theorem tw_389 : (Jvm.Cond.instantiable "UnikernelHttp$Store" (6 : Nat)) ∈ lw_tbl := ux_in 149 ux_t2 rfl
theorem tw_390 : (Jvm.Cond.methodLinkNest "UnikernelHttp" (56 : Nat) ({ cls := "UnikernelHttp$Store", name := "<init>", desc := "()V" } : Jvm.MethodName) "UnikernelHttp") ∈ lw_tbl := ux_in 150 ux_t2 rfl
theorem tw_391 : (Jvm.Cond.instanceMethod ({ cls := "UnikernelHttp$Store", name := "<init>", desc := "()V" } : Jvm.MethodName)) ∈ lw_tbl := ux_in 151 ux_t2 rfl
theorem tw_392 : (Jvm.Cond.code ({ cls := "UnikernelHttp$Store", name := "<init>", desc := "()V" } : Jvm.MethodName) prog_10_method_1_code (1 : Nat) (Option.none : Option Jvm.ClassFile.FieldType)) ∈ lw_tbl := ux_in 152 ux_t2 rfl
theorem tw_421 : (Jvm.Cond.classLink "UnikernelHttp" (61 : Nat) "UnikernelHttp$Http") ∈ lw_tbl := ux_in 181 ux_t2 rfl
theorem tw_422 : (Jvm.Cond.instantiable "UnikernelHttp$Http" (5 : Nat)) ∈ lw_tbl := ux_in 182 ux_t2 rfl
theorem tw_423 : (Jvm.Cond.methodLinkNest "UnikernelHttp" (63 : Nat) ({ cls := "UnikernelHttp$Http", name := "<init>", desc := "(LUnikernelHttp$Store;)V" } : Jvm.MethodName) "UnikernelHttp") ∈ lw_tbl := ux_in 183 ux_t2 rfl
theorem tw_424 : (Jvm.Cond.instanceMethod ({ cls := "UnikernelHttp$Http", name := "<init>", desc := "(LUnikernelHttp$Store;)V" } : Jvm.MethodName)) ∈ lw_tbl := ux_in 184 ux_t2 rfl
theorem tw_425 : (Jvm.Cond.code ({ cls := "UnikernelHttp$Http", name := "<init>", desc := "(LUnikernelHttp$Store;)V" } : Jvm.MethodName) prog_5_method_1_code (2 : Nat) (Option.none : Option Jvm.ClassFile.FieldType)) ∈ lw_tbl := ux_in 185 ux_t2 rfl
theorem tw_443 : (Jvm.Cond.fieldLink "UnikernelHttp" (11 : Nat) "UnikernelHttp" "row" "[B") ∈ lw_tbl := ux_in 203 ux_t2 rfl
theorem tw_446 : (Jvm.Cond.fieldLink "UnikernelHttp" (18 : Nat) "UnikernelHttp" "neighbours" "LUnikernelHttp$Neighbours;") ∈ lw_tbl := ux_in 206 ux_t2 rfl
theorem tw_447 : (Jvm.Cond.fieldLink "UnikernelHttp" (27 : Nat) "UnikernelHttp" "wire" "LUnikernelHttp$Wire;") ∈ lw_tbl := ux_in 207 ux_t2 rfl
theorem tw_448 : (Jvm.Cond.fieldLink "UnikernelHttp" (34 : Nat) "UnikernelHttp" "gatherings" "LUnikernelHttp$Gatherings;") ∈ lw_tbl := ux_in 208 ux_t2 rfl
theorem tw_449 : (Jvm.Cond.fieldLink "UnikernelHttp" (41 : Nat) "UnikernelHttp" "segment" "LUnikernelHttp$Segment;") ∈ lw_tbl := ux_in 209 ux_t2 rfl
theorem tw_450 : (Jvm.Cond.fieldLink "UnikernelHttp" (50 : Nat) "UnikernelHttp" "tcp" "LUnikernelHttp$Tcp;") ∈ lw_tbl := ux_in 210 ux_t2 rfl
theorem tw_451 : (Jvm.Cond.fieldLink "UnikernelHttp" (57 : Nat) "UnikernelHttp" "store" "LUnikernelHttp$Store;") ∈ lw_tbl := ux_in 211 ux_t2 rfl
theorem tw_452 : (Jvm.Cond.fieldLink "UnikernelHttp" (66 : Nat) "UnikernelHttp" "http" "LUnikernelHttp$Http;") ∈ lw_tbl := ux_in 212 ux_t2 rfl
theorem tw_453 : (Jvm.Cond.fieldLink "UnikernelHttp" (70 : Nat) "UnikernelHttp" "echo" "[B") ∈ lw_tbl := ux_in 213 ux_t2 rfl
theorem tw_454 : (Jvm.Cond.fieldLink "UnikernelHttp" (73 : Nat) "UnikernelHttp" "datagram" "[B") ∈ lw_tbl := ux_in 214 ux_t2 rfl
theorem tw_1492 : (Jvm.Cond.methodLink "UnikernelHttpModel$Peer" (3 : Nat) ({ cls := "java/lang/Object", name := "<init>", desc := "()V" } : Jvm.MethodName)) ∈ lw_tbl := ux_in 52 ux_t7 rfl
theorem tw_1511 : (Jvm.Cond.fieldLink "UnikernelHttpModel$Peer" (9 : Nat) "UnikernelHttpModel$Peer" "inbox" "[B") ∈ lw_tbl := ux_in 71 ux_t7 rfl
theorem tw_1513 : (Jvm.Cond.fieldLink "UnikernelHttpModel$Peer" (15 : Nat) "UnikernelHttpModel$Peer" "early" "[B") ∈ lw_tbl := ux_in 73 ux_t7 rfl
theorem tw_1515 : (Jvm.Cond.fieldLink "UnikernelHttpModel$Peer" (18 : Nat) "UnikernelHttpModel$Peer" "there" "[Z") ∈ lw_tbl := ux_in 75 ux_t7 rfl
theorem tw_1524 : (Jvm.Cond.fieldLink "UnikernelHttpModel$Peer" (22 : Nat) "UnikernelHttpModel$Peer" "outbox" "[B") ∈ lw_tbl := ux_in 84 ux_t7 rfl
theorem tw_1593 : (Jvm.Cond.arrayClass Jvm.ClassFile.FieldType.boolean) ∈ lw_tbl := ux_in 153 ux_t7 rfl
abbrev b_U_init : ByteArray := prog_1_method_1_code
abbrev y_U_init : MethodName := ⟨"UnikernelHttp", "<init>", "()V"⟩
theorem d_U_init_0 : decode b_U_init 0 = .ok (.aload_n 0, 1) := by decide +kernel
theorem d_U_init_1 : decode b_U_init 1 = .ok (.invokespecial 5, 3) := by decide +kernel
theorem d_U_init_4 : decode b_U_init 4 = .ok (.aload_n 0, 1) := by decide +kernel
theorem d_U_init_5 : decode b_U_init 5 = .ok (.sipush 2000, 3) := by decide +kernel
theorem d_U_init_8 : decode b_U_init 8 = .ok (.newarray .byte, 2) := by decide +kernel
theorem d_U_init_10 : decode b_U_init 10 = .ok (.putfield 11, 3) := by decide +kernel
theorem d_U_init_13 : decode b_U_init 13 = .ok (.aload_n 0, 1) := by decide +kernel
theorem d_U_init_14 : decode b_U_init 14 = .ok (.new 15, 3) := by decide +kernel
theorem d_U_init_17 : decode b_U_init 17 = .ok (.dup, 1) := by decide +kernel
theorem d_U_init_18 : decode b_U_init 18 = .ok (.invokespecial 17, 3) := by decide +kernel
theorem d_U_init_21 : decode b_U_init 21 = .ok (.putfield 18, 3) := by decide +kernel
theorem d_U_init_24 : decode b_U_init 24 = .ok (.aload_n 0, 1) := by decide +kernel
theorem d_U_init_25 : decode b_U_init 25 = .ok (.new 22, 3) := by decide +kernel
theorem d_U_init_28 : decode b_U_init 28 = .ok (.dup, 1) := by decide +kernel
theorem d_U_init_29 : decode b_U_init 29 = .ok (.aload_n 0, 1) := by decide +kernel
theorem d_U_init_30 : decode b_U_init 30 = .ok (.getfield 18, 3) := by decide +kernel
theorem d_U_init_33 : decode b_U_init 33 = .ok (.invokespecial 24, 3) := by decide +kernel
theorem d_U_init_36 : decode b_U_init 36 = .ok (.putfield 27, 3) := by decide +kernel
theorem d_U_init_39 : decode b_U_init 39 = .ok (.aload_n 0, 1) := by decide +kernel
theorem d_U_init_40 : decode b_U_init 40 = .ok (.new 31, 3) := by decide +kernel
theorem d_U_init_43 : decode b_U_init 43 = .ok (.dup, 1) := by decide +kernel
theorem d_U_init_44 : decode b_U_init 44 = .ok (.invokespecial 33, 3) := by decide +kernel
theorem d_U_init_47 : decode b_U_init 47 = .ok (.putfield 34, 3) := by decide +kernel
theorem d_U_init_50 : decode b_U_init 50 = .ok (.aload_n 0, 1) := by decide +kernel
theorem d_U_init_51 : decode b_U_init 51 = .ok (.new 38, 3) := by decide +kernel
theorem d_U_init_54 : decode b_U_init 54 = .ok (.dup, 1) := by decide +kernel
theorem d_U_init_55 : decode b_U_init 55 = .ok (.invokespecial 40, 3) := by decide +kernel
theorem d_U_init_58 : decode b_U_init 58 = .ok (.putfield 41, 3) := by decide +kernel
theorem d_U_init_61 : decode b_U_init 61 = .ok (.aload_n 0, 1) := by decide +kernel
theorem d_U_init_62 : decode b_U_init 62 = .ok (.new 45, 3) := by decide +kernel
theorem d_U_init_65 : decode b_U_init 65 = .ok (.dup, 1) := by decide +kernel
theorem d_U_init_66 : decode b_U_init 66 = .ok (.aload_n 0, 1) := by decide +kernel
theorem d_U_init_67 : decode b_U_init 67 = .ok (.getfield 27, 3) := by decide +kernel
theorem d_U_init_70 : decode b_U_init 70 = .ok (.invokespecial 47, 3) := by decide +kernel
theorem d_U_init_73 : decode b_U_init 73 = .ok (.putfield 50, 3) := by decide +kernel
theorem d_U_init_76 : decode b_U_init 76 = .ok (.aload_n 0, 1) := by decide +kernel
theorem d_U_init_77 : decode b_U_init 77 = .ok (.new 54, 3) := by decide +kernel
theorem d_U_init_80 : decode b_U_init 80 = .ok (.dup, 1) := by decide +kernel
theorem d_U_init_81 : decode b_U_init 81 = .ok (.invokespecial 56, 3) := by decide +kernel
theorem d_U_init_84 : decode b_U_init 84 = .ok (.putfield 57, 3) := by decide +kernel
theorem d_U_init_87 : decode b_U_init 87 = .ok (.aload_n 0, 1) := by decide +kernel
theorem d_U_init_88 : decode b_U_init 88 = .ok (.new 61, 3) := by decide +kernel
theorem d_U_init_91 : decode b_U_init 91 = .ok (.dup, 1) := by decide +kernel
theorem d_U_init_92 : decode b_U_init 92 = .ok (.aload_n 0, 1) := by decide +kernel
theorem d_U_init_93 : decode b_U_init 93 = .ok (.getfield 57, 3) := by decide +kernel
theorem d_U_init_96 : decode b_U_init 96 = .ok (.invokespecial 63, 3) := by decide +kernel
theorem d_U_init_99 : decode b_U_init 99 = .ok (.putfield 66, 3) := by decide +kernel
theorem d_U_init_102 : decode b_U_init 102 = .ok (.aload_n 0, 1) := by decide +kernel
theorem d_U_init_103 : decode b_U_init 103 = .ok (.sipush 1484, 3) := by decide +kernel
theorem d_U_init_106 : decode b_U_init 106 = .ok (.newarray .byte, 2) := by decide +kernel
theorem d_U_init_108 : decode b_U_init 108 = .ok (.putfield 70, 3) := by decide +kernel
theorem d_U_init_111 : decode b_U_init 111 = .ok (.aload_n 0, 1) := by decide +kernel
theorem d_U_init_112 : decode b_U_init 112 = .ok (.aload_n 0, 1) := by decide +kernel
theorem d_U_init_113 : decode b_U_init 113 = .ok (.getfield 11, 3) := by decide +kernel
theorem d_U_init_116 : decode b_U_init 116 = .ok (.putfield 73, 3) := by decide +kernel
theorem d_U_init_119 : decode b_U_init 119 = .ok (.return_, 1) := by decide +kernel
abbrev b_Pe_init : ByteArray := prog_15_method_1_code
abbrev y_Pe_init : MethodName := ⟨"UnikernelHttpModel$Peer", "<init>", "()V"⟩
theorem d_Pe_init_0 : decode b_Pe_init 0 = .ok (.aload_n 0, 1) := by decide +kernel
theorem d_Pe_init_1 : decode b_Pe_init 1 = .ok (.invokespecial 3, 3) := by decide +kernel
theorem d_Pe_init_4 : decode b_Pe_init 4 = .ok (.aload_n 0, 1) := by decide +kernel
theorem d_Pe_init_5 : decode b_Pe_init 5 = .ok (.sipush 2048, 3) := by decide +kernel
theorem d_Pe_init_8 : decode b_Pe_init 8 = .ok (.newarray .byte, 2) := by decide +kernel
theorem d_Pe_init_10 : decode b_Pe_init 10 = .ok (.putfield 9, 3) := by decide +kernel
theorem d_Pe_init_13 : decode b_Pe_init 13 = .ok (.aload_n 0, 1) := by decide +kernel
theorem d_Pe_init_14 : decode b_Pe_init 14 = .ok (.sipush 2048, 3) := by decide +kernel
theorem d_Pe_init_17 : decode b_Pe_init 17 = .ok (.newarray .byte, 2) := by decide +kernel
theorem d_Pe_init_19 : decode b_Pe_init 19 = .ok (.putfield 15, 3) := by decide +kernel
theorem d_Pe_init_22 : decode b_Pe_init 22 = .ok (.aload_n 0, 1) := by decide +kernel
theorem d_Pe_init_23 : decode b_Pe_init 23 = .ok (.sipush 2048, 3) := by decide +kernel
theorem d_Pe_init_26 : decode b_Pe_init 26 = .ok (.newarray .boolean, 2) := by decide +kernel
theorem d_Pe_init_28 : decode b_Pe_init 28 = .ok (.putfield 18, 3) := by decide +kernel
theorem d_Pe_init_31 : decode b_Pe_init 31 = .ok (.aload_n 0, 1) := by decide +kernel
theorem d_Pe_init_32 : decode b_Pe_init 32 = .ok (.sipush 4096, 3) := by decide +kernel
theorem d_Pe_init_35 : decode b_Pe_init 35 = .ok (.newarray .byte, 2) := by decide +kernel
theorem d_Pe_init_37 : decode b_Pe_init 37 = .ok (.putfield 22, 3) := by decide +kernel
theorem d_Pe_init_40 : decode b_Pe_init 40 = .ok (.return_, 1) := by decide +kernel
set_option maxHeartbeats 4000000 in
set_option maxRecDepth 100000 in
theorem c_U_init (l : Launch) (dC : Nat → ClassId) (dI : Nat → Nat → Nat) (h0 : Nat) (sz : Nat) : Met l y_U_init [Cond.code y_U_init b_U_init 1 (none)] ({ frames := 80, cells := 148, slots := 251840, locals := 1200 }) (ux_Pc [.ref h0] (dC, dI) cls [(h0, .inr (0, [.null, .int 0, .int 0, .null, .null, .null, .null, .null, .null, .null, .null, .null, .int 0, .int 0]))] [] sz) (va_Qv (fun _ : Unit => True) (fun (_ : Unit) (t : State) => ∃ (row : Nat), ∃ (nb : Nat), ∃ (wi : Nat), ∃ (ga : Nat), ∃ (sg : Nat), ∃ (tc : Nat), ∃ (st : Nat), ∃ (hp : Nat), ∃ (ec : Nat), ∃ (n1 : Nat), ∃ (n2 : Nat), ∃ (n3 : Nat), ∃ (w1 : Nat), ∃ (w2 : Nat), ∃ (g1 : Nat), ∃ (t1 : Nat), ∃ (t2 : Nat), ∃ (s1 : Nat), ∃ (s2 : Nat), ∃ (s3 : Nat), ∃ (s4 : Nat), ∃ (s5 : Nat), ∃ (cB : ClassId), ux_B (dC, dI) cls (va_A [(h0, .inr (0, [.null, .int 0, .int 0, .null, .null, .null, .null, .null, .null, .null, .null, .null, .int 0, .int 0]))] sz) [(h0, .inr (0, [.ref row, .int 0, .int 0, .ref nb, .ref wi, .ref ga, .ref sg, .ref tc, .ref st, .ref hp, .ref ec, .ref row, .int 0, .int 0])), (row, .inl (cB, 2000, .inl (fun _ => 0))), (nb, .inr (1, [.ref n1, .ref n2, .ref n3, .int 0, .int 0])), (wi, .inr (2, [.ref nb, .ref w1, .ref w2, .int 0, .int 0])), (ga, .inr (3, [.ref g1, .int 0])), (tc, .inr (6, [.ref t1, .ref t2, .ref wi, .int 0, .int 0])), (st, .inr (10, [.ref s1, .ref s2, .ref s3, .ref s4, .ref s5, .int 0]))] [(cB, .byte)] t) (va_A [(h0, .inr (0, [.null, .int 0, .int 0, .null, .null, .null, .null, .null, .null, .null, .null, .null, .int 0, .int 0]))] sz)) 148 251840 (va_A [(h0, .inr (0, [.null, .int 0, .int 0, .null, .null, .null, .null, .null, .null, .null, .null, .null, .int 0, .int 0]))] sz) := by
  refine Met.ofW (cc := b_U_init) (maxL := 1) (ret := none) (by decide) rfl ?_
  intro p e s m args below meth c s₁ B hml hv
  obtain ⟨rfl, hsz, hP, hK, hD0, hT⟩ := hv
  have hx := B.exec
  have hb := B.bytes
  have hr := B.returns
  have hown : s.vm.findClass "UnikernelHttp" = some m.cls := findClass_of_methodNamed B.named
  have hlocks := B.notSynchronized
  have hin : meth.name = "<init>" := (name_of_methodNamed B.named B.method).1
  subst hsz
  have hD := hD0.self (sz := s.heap.size)
  have hns := ux_ns hP
  generalize hAe : va_A [(h0, .inr (0, [.null, .int 0, .int 0, .null, .null, .null, .null, .null, .null, .null, .null, .null, .int 0, .int 0]))] s.heap.size = A at hD hns ⊢
  have hA : ∀ q : Nat, s.heap.size ≤ q → A q := fun q h => by rw [← hAe]; exact Or.inr h
  have hS : va_S A s.heap s.heap [] := va_S.rf
  have hl := lv_entry ([.ref h0]) (n := 1) (Nat.le_of_ble_eq_true rfl)
  rw [lg_entry_eq]
  generalize (lg_sl ([.ref h0]) ++ List.replicate (1 - (lg_sl ([.ref h0])).length) Slot.unset).toArray = ls at hl ⊢
  have hl : lv_has ls 1 [(0, .ref h0)] := hl
  have hfx : CallFix p m c b_U_init 1 s ([.ref h0] : List Value).toArray [] "UnikernelHttp" := ⟨hx, hb, hml, hown, fun _ h => by cases h⟩
  refine lv_aload_n hx hb d_U_init_0 rfl (lv_at hl 0 rfl) ?_
  refine W.objInit hx hb hown (ux_T_at hT tw_39 rfl) (ux_T_at hT tw_40 rfl) (ux_T_at hT tw_41 rfl) rfl (by rw [hml]; exact hl.1) rfl d_U_init_1 (Nat.le_of_ble_eq_true rfl) (Nat.le_of_ble_eq_true rfl) ?_
  refine W.eq (g2 := F0 m 4 ls []) rfl ?_
  refine lv_aload_n hx hb d_U_init_4 rfl (lv_at hl 0 rfl) ?_
  refine lv_sipush (v := 2000) hx hb d_U_init_5 (by decide) ?_
  refine va_newa (atype := .byte) (ty := .byte) (N' := 2000) (a0 := (2000, .inl (fun _ => 0))) hx hb (ux_T_at hT tw_66 rfl) rfl hK hP hD hS hA (fun _ => rfl) (by decide) (by decide +kernel) (by decide +kernel) (Nat.le_of_ble_eq_true rfl) (Nat.le_of_ble_eq_true rfl) d_U_init_8 (fun q1 cA2 H hK hP hD hS => ?_)
  have hP : va_P (dC, dI) cls [(h0, .inr (0, [.null, .int 0, .int 0, .null, .null, .null, .null, .null, .null, .null, .null, .null, .int 0, .int 0])), (q1, .inl (cA2, 2000, .inl (fun _ => 0)))] H := hP
  have hD : va_D A [(h0, .inr (0, [.null, .int 0, .int 0, .null, .null, .null, .null, .null, .null, .null, .null, .null, .int 0, .int 0])), (q1, .inl (cA2, 2000, .inl (fun _ => 0)))] := hD
  have hK : va_K (dC, dI) cls [(cA2, .byte)] s := hK
  refine va_putF (D := (dC, dI)) (ci := 0) (v := .ref q1) (ty := .array .byte) (C := R_U) (T := F_U) (N := 14) hx hb (u_U hT) (fun _ h => h) t_U k_U n_U hown hK hP hD hS 0 rfl rfl 0 (by decide) (ux_T_at hT tw_443 rfl) (fun _ h9 => h9) rfl hin rfl (by decide +kernel) rfl rfl (Nat.le_of_ble_eq_true rfl) d_U_init_10 (fun H locs hP hD hS => ?_)
  have hP : va_P (dC, dI) cls [(h0, .inr (0, [.ref q1, .int 0, .int 0, .null, .null, .null, .null, .null, .null, .null, .null, .null, .int 0, .int 0])), (q1, .inl (cA2, 2000, .inl (fun _ => 0)))] H := hP
  have hD : va_D A [(h0, .inr (0, [.ref q1, .int 0, .int 0, .null, .null, .null, .null, .null, .null, .null, .null, .null, .int 0, .int 0])), (q1, .inl (cA2, 2000, .inl (fun _ => 0)))] := hD
  refine lv_aload_n hx hb d_U_init_13 rfl (lv_at hl 0 rfl) ?_
  refine va_new (ci := 1) (fs := [.null, .null, .null, .int 0, .int 0]) (C := R_N) (T := F_N) (N := 5) hx hb (u_N hT) (fun _ h => h) t_N k_N hown (ux_T_at hT tw_42 rfl) (ux_T_at hT tw_43 rfl) (ux_T_at hT tw_2 rfl) hK hP hD hS hA rfl z_N (Nat.le_of_ble_eq_true rfl) (Nat.le_of_ble_eq_true rfl) d_U_init_14 (fun q3 H hP hD hS => ?_)
  have hP : va_P (dC, dI) cls [(h0, .inr (0, [.ref q1, .int 0, .int 0, .null, .null, .null, .null, .null, .null, .null, .null, .null, .int 0, .int 0])), (q1, .inl (cA2, 2000, .inl (fun _ => 0))), (q3, .inr (1, [.null, .null, .null, .int 0, .int 0]))] H := hP
  have hD : va_D A [(h0, .inr (0, [.ref q1, .int 0, .int 0, .null, .null, .null, .null, .null, .null, .null, .null, .null, .int 0, .int 0])), (q1, .inl (cA2, 2000, .inl (fun _ => 0))), (q3, .inr (1, [.null, .null, .null, .int 0, .int 0]))] := hD
  refine lv_dup hx hb d_U_init_17 rfl ?_
  have hPc := hP.sub (ws' := [(q3, .inr (1, [.null, .null, .null, .int 0, .int 0]))]) [2] rfl
  have hDc := hD.sub (ws' := [(q3, .inr (1, [.null, .null, .null, .int 0, .int 0]))]) [2] (by decide) rfl
  have hKc := hK.sub (tys' := []) [] rfl
  have hFc := va_free (wc := [(q3, .inr (1, [.null, .null, .null, .int 0, .int 0]))]) hD hS hA [2] rfl
  have hkc : 2 + 3 ≤ 148 := (Nat.le_of_ble_eq_true rfl)
  refine va_callv (va_runIN (As := []) (rest := [.ref q3, .ref h0]) hfx (c_N_init l dC dI q3 H.size) ⟨(ux_cn 0 hT tw_46 tw_44 tw_2 rfl rfl (by decide +kernel) ⟨(Nat.le_of_ble_eq_true rfl), (Nat.le_of_ble_eq_true rfl)⟩), rfl, (ux_T_at hT tw_45 rfl)⟩ (ux_pre [.ref q3] hT hPc hKc hDc) rfl rfl hl.1 rfl (lv_room (Nat.le_of_ble_eq_true rfl)) d_U_init_18 ⟨(Nat.le_of_ble_eq_true rfl), (Nat.le_of_ble_eq_true rfl)⟩) hS (fun q _ h => hFc q h) hFc (fun u t H1 locs ht hvm hw hB hz1 hk1 hS => ?_)
  obtain ⟨q5, q6, q7, hP1, hK1, hD1⟩ := hB
  rw [ht] at hP1
  have hK1 := va_K.moved hvm.symm hK1
  obtain ⟨hP, hD⟩ := va_join (wr := [(h0, .inr (0, [.ref q1, .int 0, .int 0, .null, .null, .null, .null, .null, .null, .null, .null, .null, .int 0, .int 0])), (q1, .inl (cA2, 2000, .inl (fun _ => 0)))]) (w1 := [(q3, .inr (1, [.ref q5, .ref q6, .ref q7, .int 0, .int 0]))]) hP hD [2] [0, 1] rfl rfl (by decide) (by decide) hk1 hFc hP1 hD1
  have hK := (hK.sub (tys' := [(cA2, .byte)]) [0] rfl).app hK1
  generalize H1 = H at hP hS ⊢
  have hP : va_P (dC, dI) cls [(h0, .inr (0, [.ref q1, .int 0, .int 0, .null, .null, .null, .null, .null, .null, .null, .null, .null, .int 0, .int 0])), (q1, .inl (cA2, 2000, .inl (fun _ => 0))), (q3, .inr (1, [.ref q5, .ref q6, .ref q7, .int 0, .int 0]))] H := hP
  have hD : va_D A [(h0, .inr (0, [.ref q1, .int 0, .int 0, .null, .null, .null, .null, .null, .null, .null, .null, .null, .int 0, .int 0])), (q1, .inl (cA2, 2000, .inl (fun _ => 0))), (q3, .inr (1, [.ref q5, .ref q6, .ref q7, .int 0, .int 0]))] := hD
  have hK : va_K (dC, dI) cls [(cA2, .byte)] s := hK
  refine va_putF (D := (dC, dI)) (ci := 0) (v := .ref q3) (ty := .object "UnikernelHttp$Neighbours") (C := R_U) (T := F_U) (N := 14) hx hb (u_U hT) (fun _ h => h) t_U k_U n_U hown hK hP hD hS 0 rfl rfl 3 (by decide) (ux_T_at hT tw_446 rfl) (fun _ h9 => h9) rfl hin rfl (by decide +kernel) rfl rfl (Nat.le_of_ble_eq_true rfl) d_U_init_21 (fun H locs hP hD hS => ?_)
  have hP : va_P (dC, dI) cls [(h0, .inr (0, [.ref q1, .int 0, .int 0, .ref q3, .null, .null, .null, .null, .null, .null, .null, .null, .int 0, .int 0])), (q1, .inl (cA2, 2000, .inl (fun _ => 0))), (q3, .inr (1, [.ref q5, .ref q6, .ref q7, .int 0, .int 0]))] H := hP
  have hD : va_D A [(h0, .inr (0, [.ref q1, .int 0, .int 0, .ref q3, .null, .null, .null, .null, .null, .null, .null, .null, .int 0, .int 0])), (q1, .inl (cA2, 2000, .inl (fun _ => 0))), (q3, .inr (1, [.ref q5, .ref q6, .ref q7, .int 0, .int 0]))] := hD
  refine lv_aload_n hx hb d_U_init_24 rfl (lv_at hl 0 rfl) ?_
  refine va_new (ci := 2) (fs := [.null, .null, .null, .int 0, .int 0]) (C := R_Wi) (T := F_Wi) (N := 5) hx hb (u_Wi hT) (fun _ h => h) t_Wi k_Wi hown (ux_T_at hT tw_69 rfl) (ux_T_at hT tw_70 rfl) (ux_T_at hT tw_3 rfl) hK hP hD hS hA rfl z_Wi (Nat.le_of_ble_eq_true rfl) (Nat.le_of_ble_eq_true rfl) d_U_init_25 (fun q8 H hP hD hS => ?_)
  have hP : va_P (dC, dI) cls [(h0, .inr (0, [.ref q1, .int 0, .int 0, .ref q3, .null, .null, .null, .null, .null, .null, .null, .null, .int 0, .int 0])), (q1, .inl (cA2, 2000, .inl (fun _ => 0))), (q3, .inr (1, [.ref q5, .ref q6, .ref q7, .int 0, .int 0])), (q8, .inr (2, [.null, .null, .null, .int 0, .int 0]))] H := hP
  have hD : va_D A [(h0, .inr (0, [.ref q1, .int 0, .int 0, .ref q3, .null, .null, .null, .null, .null, .null, .null, .null, .int 0, .int 0])), (q1, .inl (cA2, 2000, .inl (fun _ => 0))), (q3, .inr (1, [.ref q5, .ref q6, .ref q7, .int 0, .int 0])), (q8, .inr (2, [.null, .null, .null, .int 0, .int 0]))] := hD
  refine lv_dup hx hb d_U_init_28 rfl ?_
  refine lv_aload_n hx hb d_U_init_29 rfl (lv_at hl 0 rfl) ?_
  refine va_get (D := (dC, dI)) (ci := 0) (v := .ref q3) (C := R_U) (T := F_U) (N := 14) hx hb (u_U hT) (fun _ h => h) hown hK hP 0 rfl rfl 3 (by decide) (ux_T_at hT tw_446 rfl) (fun _ h9 => h9) rfl d_U_init_30 ?_
  have hPc := hP.sub (ws' := [(q8, .inr (2, [.null, .null, .null, .int 0, .int 0]))]) [3] rfl
  have hDc := hD.sub (ws' := [(q8, .inr (2, [.null, .null, .null, .int 0, .int 0]))]) [3] (by decide) rfl
  have hKc := hK.sub (tys' := []) [] rfl
  have hFc := va_free (wc := [(q8, .inr (2, [.null, .null, .null, .int 0, .int 0]))]) hD hS hA [3] rfl
  have hkc : 6 + 2 ≤ 148 := (Nat.le_of_ble_eq_true rfl)
  refine va_callv (va_runIN (As := [.ref q3]) (rest := [.ref q8, .ref h0]) hfx (c_Wi_init l dC dI q8 q3 H.size) ⟨(ux_cn 1 hT tw_73 tw_71 tw_3 rfl rfl (by decide +kernel) ⟨(Nat.le_of_ble_eq_true rfl), (Nat.le_of_ble_eq_true rfl)⟩), rfl, (ux_T_at hT tw_72 rfl)⟩ (ux_pre [.ref q8, .ref q3] hT hPc hKc hDc) rfl rfl hl.1 rfl (lv_room (Nat.le_of_ble_eq_true rfl)) d_U_init_33 ⟨(Nat.le_of_ble_eq_true rfl), (Nat.le_of_ble_eq_true rfl)⟩) hS (fun q _ h => hFc q h) hFc (fun u t H1 locs ht hvm hw hB hz1 hk1 hS => ?_)
  obtain ⟨q10, q11, hP1, hK1, hD1⟩ := hB
  rw [ht] at hP1
  have hK1 := va_K.moved hvm.symm hK1
  obtain ⟨hP, hD⟩ := va_join (wr := [(h0, .inr (0, [.ref q1, .int 0, .int 0, .ref q3, .null, .null, .null, .null, .null, .null, .null, .null, .int 0, .int 0])), (q1, .inl (cA2, 2000, .inl (fun _ => 0))), (q3, .inr (1, [.ref q5, .ref q6, .ref q7, .int 0, .int 0]))]) (w1 := [(q8, .inr (2, [.ref q3, .ref q10, .ref q11, .int 0, .int 0]))]) hP hD [3] [0, 1, 2] rfl rfl (by decide) (by decide) hk1 hFc hP1 hD1
  have hK := (hK.sub (tys' := [(cA2, .byte)]) [0] rfl).app hK1
  generalize H1 = H at hP hS ⊢
  have hP : va_P (dC, dI) cls [(h0, .inr (0, [.ref q1, .int 0, .int 0, .ref q3, .null, .null, .null, .null, .null, .null, .null, .null, .int 0, .int 0])), (q1, .inl (cA2, 2000, .inl (fun _ => 0))), (q3, .inr (1, [.ref q5, .ref q6, .ref q7, .int 0, .int 0])), (q8, .inr (2, [.ref q3, .ref q10, .ref q11, .int 0, .int 0]))] H := hP
  have hD : va_D A [(h0, .inr (0, [.ref q1, .int 0, .int 0, .ref q3, .null, .null, .null, .null, .null, .null, .null, .null, .int 0, .int 0])), (q1, .inl (cA2, 2000, .inl (fun _ => 0))), (q3, .inr (1, [.ref q5, .ref q6, .ref q7, .int 0, .int 0])), (q8, .inr (2, [.ref q3, .ref q10, .ref q11, .int 0, .int 0]))] := hD
  have hK : va_K (dC, dI) cls [(cA2, .byte)] s := hK
  refine va_putF (D := (dC, dI)) (ci := 0) (v := .ref q8) (ty := .object "UnikernelHttp$Wire") (C := R_U) (T := F_U) (N := 14) hx hb (u_U hT) (fun _ h => h) t_U k_U n_U hown hK hP hD hS 0 rfl rfl 4 (by decide) (ux_T_at hT tw_447 rfl) (fun _ h9 => h9) rfl hin rfl (by decide +kernel) rfl rfl (Nat.le_of_ble_eq_true rfl) d_U_init_36 (fun H locs hP hD hS => ?_)
  have hP : va_P (dC, dI) cls [(h0, .inr (0, [.ref q1, .int 0, .int 0, .ref q3, .ref q8, .null, .null, .null, .null, .null, .null, .null, .int 0, .int 0])), (q1, .inl (cA2, 2000, .inl (fun _ => 0))), (q3, .inr (1, [.ref q5, .ref q6, .ref q7, .int 0, .int 0])), (q8, .inr (2, [.ref q3, .ref q10, .ref q11, .int 0, .int 0]))] H := hP
  have hD : va_D A [(h0, .inr (0, [.ref q1, .int 0, .int 0, .ref q3, .ref q8, .null, .null, .null, .null, .null, .null, .null, .int 0, .int 0])), (q1, .inl (cA2, 2000, .inl (fun _ => 0))), (q3, .inr (1, [.ref q5, .ref q6, .ref q7, .int 0, .int 0])), (q8, .inr (2, [.ref q3, .ref q10, .ref q11, .int 0, .int 0]))] := hD
  refine lv_aload_n hx hb d_U_init_39 rfl (lv_at hl 0 rfl) ?_
  refine va_new (ci := 3) (fs := [.null, .int 0]) (C := R_Gs) (T := F_Gs) (N := 2) hx hb (u_Gs hT) (fun _ h => h) t_Gs k_Gs hown (ux_T_at hT tw_95 rfl) (ux_T_at hT tw_96 rfl) (ux_T_at hT tw_4 rfl) hK hP hD hS hA rfl z_Gs (Nat.le_of_ble_eq_true rfl) (Nat.le_of_ble_eq_true rfl) d_U_init_40 (fun q12 H hP hD hS => ?_)
  have hP : va_P (dC, dI) cls [(h0, .inr (0, [.ref q1, .int 0, .int 0, .ref q3, .ref q8, .null, .null, .null, .null, .null, .null, .null, .int 0, .int 0])), (q1, .inl (cA2, 2000, .inl (fun _ => 0))), (q3, .inr (1, [.ref q5, .ref q6, .ref q7, .int 0, .int 0])), (q8, .inr (2, [.ref q3, .ref q10, .ref q11, .int 0, .int 0])), (q12, .inr (3, [.null, .int 0]))] H := hP
  have hD : va_D A [(h0, .inr (0, [.ref q1, .int 0, .int 0, .ref q3, .ref q8, .null, .null, .null, .null, .null, .null, .null, .int 0, .int 0])), (q1, .inl (cA2, 2000, .inl (fun _ => 0))), (q3, .inr (1, [.ref q5, .ref q6, .ref q7, .int 0, .int 0])), (q8, .inr (2, [.ref q3, .ref q10, .ref q11, .int 0, .int 0])), (q12, .inr (3, [.null, .int 0]))] := hD
  refine lv_dup hx hb d_U_init_43 rfl ?_
  have hPc := hP.sub (ws' := [(q12, .inr (3, [.null, .int 0]))]) [4] rfl
  have hDc := hD.sub (ws' := [(q12, .inr (3, [.null, .int 0]))]) [4] (by decide) rfl
  have hKc := hK.sub (tys' := []) [] rfl
  have hFc := va_free (wc := [(q12, .inr (3, [.null, .int 0]))]) hD hS hA [4] rfl
  have hkc : 9 + 13 ≤ 148 := (Nat.le_of_ble_eq_true rfl)
  refine va_callv (va_runIN (As := []) (rest := [.ref q12, .ref h0]) hfx (c_Gs_init l dC dI q12 H.size) ⟨(ux_cn 0 hT tw_99 tw_97 tw_4 rfl rfl (by decide +kernel) ⟨(Nat.le_of_ble_eq_true rfl), (Nat.le_of_ble_eq_true rfl)⟩), rfl, (ux_T_at hT tw_98 rfl)⟩ (ux_pre [.ref q12] hT hPc hKc hDc) rfl rfl hl.1 rfl (lv_room (Nat.le_of_ble_eq_true rfl)) d_U_init_44 ⟨(Nat.le_of_ble_eq_true rfl), (Nat.le_of_ble_eq_true rfl)⟩) hS (fun q _ h => hFc q h) hFc (fun u t H1 locs ht hvm hw hB hz1 hk1 hS => ?_)
  obtain ⟨q14, hP1, hK1, hD1⟩ := hB
  rw [ht] at hP1
  have hK1 := va_K.moved hvm.symm hK1
  obtain ⟨hP, hD⟩ := va_join (wr := [(h0, .inr (0, [.ref q1, .int 0, .int 0, .ref q3, .ref q8, .null, .null, .null, .null, .null, .null, .null, .int 0, .int 0])), (q1, .inl (cA2, 2000, .inl (fun _ => 0))), (q3, .inr (1, [.ref q5, .ref q6, .ref q7, .int 0, .int 0])), (q8, .inr (2, [.ref q3, .ref q10, .ref q11, .int 0, .int 0]))]) (w1 := [(q12, .inr (3, [.ref q14, .int 0]))]) hP hD [4] [0, 1, 2, 3] rfl rfl (by decide) (by decide) hk1 hFc hP1 hD1
  have hK := (hK.sub (tys' := [(cA2, .byte)]) [0] rfl).app hK1
  generalize H1 = H at hP hS ⊢
  have hP : va_P (dC, dI) cls [(h0, .inr (0, [.ref q1, .int 0, .int 0, .ref q3, .ref q8, .null, .null, .null, .null, .null, .null, .null, .int 0, .int 0])), (q1, .inl (cA2, 2000, .inl (fun _ => 0))), (q3, .inr (1, [.ref q5, .ref q6, .ref q7, .int 0, .int 0])), (q8, .inr (2, [.ref q3, .ref q10, .ref q11, .int 0, .int 0])), (q12, .inr (3, [.ref q14, .int 0]))] H := hP
  have hD : va_D A [(h0, .inr (0, [.ref q1, .int 0, .int 0, .ref q3, .ref q8, .null, .null, .null, .null, .null, .null, .null, .int 0, .int 0])), (q1, .inl (cA2, 2000, .inl (fun _ => 0))), (q3, .inr (1, [.ref q5, .ref q6, .ref q7, .int 0, .int 0])), (q8, .inr (2, [.ref q3, .ref q10, .ref q11, .int 0, .int 0])), (q12, .inr (3, [.ref q14, .int 0]))] := hD
  have hK : va_K (dC, dI) cls [(cA2, .byte)] s := hK
  refine va_putF (D := (dC, dI)) (ci := 0) (v := .ref q12) (ty := .object "UnikernelHttp$Gatherings") (C := R_U) (T := F_U) (N := 14) hx hb (u_U hT) (fun _ h => h) t_U k_U n_U hown hK hP hD hS 0 rfl rfl 5 (by decide) (ux_T_at hT tw_448 rfl) (fun _ h9 => h9) rfl hin rfl (by decide +kernel) rfl rfl (Nat.le_of_ble_eq_true rfl) d_U_init_47 (fun H locs hP hD hS => ?_)
  have hP : va_P (dC, dI) cls [(h0, .inr (0, [.ref q1, .int 0, .int 0, .ref q3, .ref q8, .ref q12, .null, .null, .null, .null, .null, .null, .int 0, .int 0])), (q1, .inl (cA2, 2000, .inl (fun _ => 0))), (q3, .inr (1, [.ref q5, .ref q6, .ref q7, .int 0, .int 0])), (q8, .inr (2, [.ref q3, .ref q10, .ref q11, .int 0, .int 0])), (q12, .inr (3, [.ref q14, .int 0]))] H := hP
  have hD : va_D A [(h0, .inr (0, [.ref q1, .int 0, .int 0, .ref q3, .ref q8, .ref q12, .null, .null, .null, .null, .null, .null, .int 0, .int 0])), (q1, .inl (cA2, 2000, .inl (fun _ => 0))), (q3, .inr (1, [.ref q5, .ref q6, .ref q7, .int 0, .int 0])), (q8, .inr (2, [.ref q3, .ref q10, .ref q11, .int 0, .int 0])), (q12, .inr (3, [.ref q14, .int 0]))] := hD
  refine lv_aload_n hx hb d_U_init_50 rfl (lv_at hl 0 rfl) ?_
  refine va_new (ci := 5) (fs := [.null, .int 0, .int 0, .int 0, .int 0, .int 0, .int 0, .int 0, .int 0, .int 0, .int 0, .int 0]) (C := R_Sg) (T := F_Sg) (N := 12) hx hb (u_Sg hT) (fun _ h => h) t_Sg k_Sg hown (ux_T_at hT tw_150 rfl) (ux_T_at hT tw_151 rfl) (ux_T_at hT tw_6 rfl) hK hP hD hS hA rfl z_Sg (Nat.le_of_ble_eq_true rfl) (Nat.le_of_ble_eq_true rfl) d_U_init_51 (fun q15 H hP hD hS => ?_)
  have hP : va_P (dC, dI) cls [(h0, .inr (0, [.ref q1, .int 0, .int 0, .ref q3, .ref q8, .ref q12, .null, .null, .null, .null, .null, .null, .int 0, .int 0])), (q1, .inl (cA2, 2000, .inl (fun _ => 0))), (q3, .inr (1, [.ref q5, .ref q6, .ref q7, .int 0, .int 0])), (q8, .inr (2, [.ref q3, .ref q10, .ref q11, .int 0, .int 0])), (q12, .inr (3, [.ref q14, .int 0])), (q15, .inr (5, [.null, .int 0, .int 0, .int 0, .int 0, .int 0, .int 0, .int 0, .int 0, .int 0, .int 0, .int 0]))] H := hP
  have hD : va_D A [(h0, .inr (0, [.ref q1, .int 0, .int 0, .ref q3, .ref q8, .ref q12, .null, .null, .null, .null, .null, .null, .int 0, .int 0])), (q1, .inl (cA2, 2000, .inl (fun _ => 0))), (q3, .inr (1, [.ref q5, .ref q6, .ref q7, .int 0, .int 0])), (q8, .inr (2, [.ref q3, .ref q10, .ref q11, .int 0, .int 0])), (q12, .inr (3, [.ref q14, .int 0])), (q15, .inr (5, [.null, .int 0, .int 0, .int 0, .int 0, .int 0, .int 0, .int 0, .int 0, .int 0, .int 0, .int 0]))] := hD
  refine lv_dup hx hb d_U_init_54 rfl ?_
  have hPc := hP.sub (ws' := [(q15, .inr (5, [.null, .int 0, .int 0, .int 0, .int 0, .int 0, .int 0, .int 0, .int 0, .int 0, .int 0, .int 0]))]) [5] rfl
  have hDc := hD.sub (ws' := [(q15, .inr (5, [.null, .int 0, .int 0, .int 0, .int 0, .int 0, .int 0, .int 0, .int 0, .int 0, .int 0, .int 0]))]) [5] (by decide) rfl
  have hKc := hK.sub (tys' := []) [] rfl
  have hFc := va_free (wc := [(q15, .inr (5, [.null, .int 0, .int 0, .int 0, .int 0, .int 0, .int 0, .int 0, .int 0, .int 0, .int 0, .int 0]))]) hD hS hA [5] rfl
  have hkc : 23 + 1 ≤ 148 := (Nat.le_of_ble_eq_true rfl)
  refine va_callv (va_runIN (As := []) (rest := [.ref q15, .ref h0]) hfx (c_Sg_init l dC dI q15 H.size) ⟨(ux_cn 0 hT tw_154 tw_152 tw_6 rfl rfl (by decide +kernel) ⟨(Nat.le_of_ble_eq_true rfl), (Nat.le_of_ble_eq_true rfl)⟩), rfl, (ux_T_at hT tw_153 rfl)⟩ (ux_pre [.ref q15] hT hPc hKc hDc) rfl rfl hl.1 rfl (lv_room (Nat.le_of_ble_eq_true rfl)) d_U_init_55 ⟨(Nat.le_of_ble_eq_true rfl), (Nat.le_of_ble_eq_true rfl)⟩) hS (fun q _ h => hFc q h) hFc (fun u t H1 locs ht hvm hw hB hz1 hk1 hS => ?_)
  obtain ⟨q17, hP1, hK1, hD1⟩ := hB
  rw [ht] at hP1
  have hK1 := va_K.moved hvm.symm hK1
  obtain ⟨hP, hD⟩ := va_join (wr := [(h0, .inr (0, [.ref q1, .int 0, .int 0, .ref q3, .ref q8, .ref q12, .null, .null, .null, .null, .null, .null, .int 0, .int 0])), (q1, .inl (cA2, 2000, .inl (fun _ => 0))), (q3, .inr (1, [.ref q5, .ref q6, .ref q7, .int 0, .int 0])), (q8, .inr (2, [.ref q3, .ref q10, .ref q11, .int 0, .int 0])), (q12, .inr (3, [.ref q14, .int 0]))]) (w1 := [(q15, .inr (5, [.ref q17, .int 0, .int 0, .int 0, .int 0, .int 0, .int 0, .int 0, .int 0, .int 0, .int 0, .int 0]))]) hP hD [5] [0, 1, 2, 3, 4] rfl rfl (by decide) (by decide) hk1 hFc hP1 hD1
  have hK := (hK.sub (tys' := [(cA2, .byte)]) [0] rfl).app hK1
  generalize H1 = H at hP hS ⊢
  have hP : va_P (dC, dI) cls [(h0, .inr (0, [.ref q1, .int 0, .int 0, .ref q3, .ref q8, .ref q12, .null, .null, .null, .null, .null, .null, .int 0, .int 0])), (q1, .inl (cA2, 2000, .inl (fun _ => 0))), (q3, .inr (1, [.ref q5, .ref q6, .ref q7, .int 0, .int 0])), (q8, .inr (2, [.ref q3, .ref q10, .ref q11, .int 0, .int 0])), (q12, .inr (3, [.ref q14, .int 0])), (q15, .inr (5, [.ref q17, .int 0, .int 0, .int 0, .int 0, .int 0, .int 0, .int 0, .int 0, .int 0, .int 0, .int 0]))] H := hP
  have hD : va_D A [(h0, .inr (0, [.ref q1, .int 0, .int 0, .ref q3, .ref q8, .ref q12, .null, .null, .null, .null, .null, .null, .int 0, .int 0])), (q1, .inl (cA2, 2000, .inl (fun _ => 0))), (q3, .inr (1, [.ref q5, .ref q6, .ref q7, .int 0, .int 0])), (q8, .inr (2, [.ref q3, .ref q10, .ref q11, .int 0, .int 0])), (q12, .inr (3, [.ref q14, .int 0])), (q15, .inr (5, [.ref q17, .int 0, .int 0, .int 0, .int 0, .int 0, .int 0, .int 0, .int 0, .int 0, .int 0, .int 0]))] := hD
  have hK : va_K (dC, dI) cls [(cA2, .byte)] s := hK
  refine va_putF (D := (dC, dI)) (ci := 0) (v := .ref q15) (ty := .object "UnikernelHttp$Segment") (C := R_U) (T := F_U) (N := 14) hx hb (u_U hT) (fun _ h => h) t_U k_U n_U hown hK hP hD hS 0 rfl rfl 6 (by decide) (ux_T_at hT tw_449 rfl) (fun _ h9 => h9) rfl hin rfl (by decide +kernel) rfl rfl (Nat.le_of_ble_eq_true rfl) d_U_init_58 (fun H locs hP hD hS => ?_)
  have hP : va_P (dC, dI) cls [(h0, .inr (0, [.ref q1, .int 0, .int 0, .ref q3, .ref q8, .ref q12, .ref q15, .null, .null, .null, .null, .null, .int 0, .int 0])), (q1, .inl (cA2, 2000, .inl (fun _ => 0))), (q3, .inr (1, [.ref q5, .ref q6, .ref q7, .int 0, .int 0])), (q8, .inr (2, [.ref q3, .ref q10, .ref q11, .int 0, .int 0])), (q12, .inr (3, [.ref q14, .int 0])), (q15, .inr (5, [.ref q17, .int 0, .int 0, .int 0, .int 0, .int 0, .int 0, .int 0, .int 0, .int 0, .int 0, .int 0]))] H := hP
  have hD : va_D A [(h0, .inr (0, [.ref q1, .int 0, .int 0, .ref q3, .ref q8, .ref q12, .ref q15, .null, .null, .null, .null, .null, .int 0, .int 0])), (q1, .inl (cA2, 2000, .inl (fun _ => 0))), (q3, .inr (1, [.ref q5, .ref q6, .ref q7, .int 0, .int 0])), (q8, .inr (2, [.ref q3, .ref q10, .ref q11, .int 0, .int 0])), (q12, .inr (3, [.ref q14, .int 0])), (q15, .inr (5, [.ref q17, .int 0, .int 0, .int 0, .int 0, .int 0, .int 0, .int 0, .int 0, .int 0, .int 0, .int 0]))] := hD
  have hP := hP.sub (ws' := [(h0, .inr (0, [.ref q1, .int 0, .int 0, .ref q3, .ref q8, .ref q12, .ref q15, .null, .null, .null, .null, .null, .int 0, .int 0])), (q1, .inl (cA2, 2000, .inl (fun _ => 0))), (q3, .inr (1, [.ref q5, .ref q6, .ref q7, .int 0, .int 0])), (q8, .inr (2, [.ref q3, .ref q10, .ref q11, .int 0, .int 0])), (q12, .inr (3, [.ref q14, .int 0]))]) [0, 1, 2, 3, 4] rfl
  have hD := hD.sub (ws' := [(h0, .inr (0, [.ref q1, .int 0, .int 0, .ref q3, .ref q8, .ref q12, .ref q15, .null, .null, .null, .null, .null, .int 0, .int 0])), (q1, .inl (cA2, 2000, .inl (fun _ => 0))), (q3, .inr (1, [.ref q5, .ref q6, .ref q7, .int 0, .int 0])), (q8, .inr (2, [.ref q3, .ref q10, .ref q11, .int 0, .int 0])), (q12, .inr (3, [.ref q14, .int 0]))]) [0, 1, 2, 3, 4] (by decide) rfl
  refine lv_aload_n hx hb d_U_init_61 rfl (lv_at hl 0 rfl) ?_
  refine va_new (ci := 6) (fs := [.null, .null, .null, .int 0, .int 0]) (C := R_Tc) (T := F_Tc) (N := 5) hx hb (u_Tc hT) (fun _ h => h) t_Tc k_Tc hown (ux_T_at hT tw_214 rfl) (ux_T_at hT tw_215 rfl) (ux_T_at hT tw_7 rfl) hK hP hD hS hA rfl z_Tc (Nat.le_of_ble_eq_true rfl) (Nat.le_of_ble_eq_true rfl) d_U_init_62 (fun q18 H hP hD hS => ?_)
  have hP : va_P (dC, dI) cls [(h0, .inr (0, [.ref q1, .int 0, .int 0, .ref q3, .ref q8, .ref q12, .ref q15, .null, .null, .null, .null, .null, .int 0, .int 0])), (q1, .inl (cA2, 2000, .inl (fun _ => 0))), (q3, .inr (1, [.ref q5, .ref q6, .ref q7, .int 0, .int 0])), (q8, .inr (2, [.ref q3, .ref q10, .ref q11, .int 0, .int 0])), (q12, .inr (3, [.ref q14, .int 0])), (q18, .inr (6, [.null, .null, .null, .int 0, .int 0]))] H := hP
  have hD : va_D A [(h0, .inr (0, [.ref q1, .int 0, .int 0, .ref q3, .ref q8, .ref q12, .ref q15, .null, .null, .null, .null, .null, .int 0, .int 0])), (q1, .inl (cA2, 2000, .inl (fun _ => 0))), (q3, .inr (1, [.ref q5, .ref q6, .ref q7, .int 0, .int 0])), (q8, .inr (2, [.ref q3, .ref q10, .ref q11, .int 0, .int 0])), (q12, .inr (3, [.ref q14, .int 0])), (q18, .inr (6, [.null, .null, .null, .int 0, .int 0]))] := hD
  refine lv_dup hx hb d_U_init_65 rfl ?_
  refine lv_aload_n hx hb d_U_init_66 rfl (lv_at hl 0 rfl) ?_
  refine va_get (D := (dC, dI)) (ci := 0) (v := .ref q8) (C := R_U) (T := F_U) (N := 14) hx hb (u_U hT) (fun _ h => h) hown hK hP 0 rfl rfl 4 (by decide) (ux_T_at hT tw_447 rfl) (fun _ h9 => h9) rfl d_U_init_67 ?_
  have hPc := hP.sub (ws' := [(q18, .inr (6, [.null, .null, .null, .int 0, .int 0]))]) [5] rfl
  have hDc := hD.sub (ws' := [(q18, .inr (6, [.null, .null, .null, .int 0, .int 0]))]) [5] (by decide) rfl
  have hKc := hK.sub (tys' := []) [] rfl
  have hFc := va_free (wc := [(q18, .inr (6, [.null, .null, .null, .int 0, .int 0]))]) hD hS hA [5] rfl
  have hkc : 25 + 50 ≤ 148 := (Nat.le_of_ble_eq_true rfl)
  refine va_callv (va_runIN (As := [.ref q8]) (rest := [.ref q18, .ref h0]) hfx (c_Tc_init l dC dI q18 q8 H.size) ⟨(ux_cn 1 hT tw_218 tw_216 tw_7 rfl rfl (by decide +kernel) ⟨(Nat.le_of_ble_eq_true rfl), (Nat.le_of_ble_eq_true rfl)⟩), rfl, (ux_T_at hT tw_217 rfl)⟩ (ux_pre [.ref q18, .ref q8] hT hPc hKc hDc) rfl rfl hl.1 rfl (lv_room (Nat.le_of_ble_eq_true rfl)) d_U_init_70 ⟨(Nat.le_of_ble_eq_true rfl), (Nat.le_of_ble_eq_true rfl)⟩) hS (fun q _ h => hFc q h) hFc (fun u t H1 locs ht hvm hw hB hz1 hk1 hS => ?_)
  obtain ⟨q20, q21, hP1, hK1, hD1⟩ := hB
  rw [ht] at hP1
  have hK1 := va_K.moved hvm.symm hK1
  obtain ⟨hP, hD⟩ := va_join (wr := [(h0, .inr (0, [.ref q1, .int 0, .int 0, .ref q3, .ref q8, .ref q12, .ref q15, .null, .null, .null, .null, .null, .int 0, .int 0])), (q1, .inl (cA2, 2000, .inl (fun _ => 0))), (q3, .inr (1, [.ref q5, .ref q6, .ref q7, .int 0, .int 0])), (q8, .inr (2, [.ref q3, .ref q10, .ref q11, .int 0, .int 0])), (q12, .inr (3, [.ref q14, .int 0]))]) (w1 := [(q18, .inr (6, [.ref q20, .ref q21, .ref q8, .int 0, .int 0]))]) hP hD [5] [0, 1, 2, 3, 4] rfl rfl (by decide) (by decide) hk1 hFc hP1 hD1
  have hK := (hK.sub (tys' := [(cA2, .byte)]) [0] rfl).app hK1
  generalize H1 = H at hP hS ⊢
  have hP : va_P (dC, dI) cls [(h0, .inr (0, [.ref q1, .int 0, .int 0, .ref q3, .ref q8, .ref q12, .ref q15, .null, .null, .null, .null, .null, .int 0, .int 0])), (q1, .inl (cA2, 2000, .inl (fun _ => 0))), (q3, .inr (1, [.ref q5, .ref q6, .ref q7, .int 0, .int 0])), (q8, .inr (2, [.ref q3, .ref q10, .ref q11, .int 0, .int 0])), (q12, .inr (3, [.ref q14, .int 0])), (q18, .inr (6, [.ref q20, .ref q21, .ref q8, .int 0, .int 0]))] H := hP
  have hD : va_D A [(h0, .inr (0, [.ref q1, .int 0, .int 0, .ref q3, .ref q8, .ref q12, .ref q15, .null, .null, .null, .null, .null, .int 0, .int 0])), (q1, .inl (cA2, 2000, .inl (fun _ => 0))), (q3, .inr (1, [.ref q5, .ref q6, .ref q7, .int 0, .int 0])), (q8, .inr (2, [.ref q3, .ref q10, .ref q11, .int 0, .int 0])), (q12, .inr (3, [.ref q14, .int 0])), (q18, .inr (6, [.ref q20, .ref q21, .ref q8, .int 0, .int 0]))] := hD
  have hK : va_K (dC, dI) cls [(cA2, .byte)] s := hK
  refine va_putF (D := (dC, dI)) (ci := 0) (v := .ref q18) (ty := .object "UnikernelHttp$Tcp") (C := R_U) (T := F_U) (N := 14) hx hb (u_U hT) (fun _ h => h) t_U k_U n_U hown hK hP hD hS 0 rfl rfl 7 (by decide) (ux_T_at hT tw_450 rfl) (fun _ h9 => h9) rfl hin rfl (by decide +kernel) rfl rfl (Nat.le_of_ble_eq_true rfl) d_U_init_73 (fun H locs hP hD hS => ?_)
  have hP : va_P (dC, dI) cls [(h0, .inr (0, [.ref q1, .int 0, .int 0, .ref q3, .ref q8, .ref q12, .ref q15, .ref q18, .null, .null, .null, .null, .int 0, .int 0])), (q1, .inl (cA2, 2000, .inl (fun _ => 0))), (q3, .inr (1, [.ref q5, .ref q6, .ref q7, .int 0, .int 0])), (q8, .inr (2, [.ref q3, .ref q10, .ref q11, .int 0, .int 0])), (q12, .inr (3, [.ref q14, .int 0])), (q18, .inr (6, [.ref q20, .ref q21, .ref q8, .int 0, .int 0]))] H := hP
  have hD : va_D A [(h0, .inr (0, [.ref q1, .int 0, .int 0, .ref q3, .ref q8, .ref q12, .ref q15, .ref q18, .null, .null, .null, .null, .int 0, .int 0])), (q1, .inl (cA2, 2000, .inl (fun _ => 0))), (q3, .inr (1, [.ref q5, .ref q6, .ref q7, .int 0, .int 0])), (q8, .inr (2, [.ref q3, .ref q10, .ref q11, .int 0, .int 0])), (q12, .inr (3, [.ref q14, .int 0])), (q18, .inr (6, [.ref q20, .ref q21, .ref q8, .int 0, .int 0]))] := hD
  refine lv_aload_n hx hb d_U_init_76 rfl (lv_at hl 0 rfl) ?_
  refine va_new (ci := 10) (fs := [.null, .null, .null, .null, .null, .int 0]) (C := R_So) (T := F_So) (N := 6) hx hb (u_So hT) (fun _ h => h) t_So k_So hown (ux_T_at hT tw_388 rfl) (ux_T_at hT tw_389 rfl) (ux_T_at hT tw_11 rfl) hK hP hD hS hA rfl z_So (Nat.le_of_ble_eq_true rfl) (Nat.le_of_ble_eq_true rfl) d_U_init_77 (fun q22 H hP hD hS => ?_)
  have hP : va_P (dC, dI) cls [(h0, .inr (0, [.ref q1, .int 0, .int 0, .ref q3, .ref q8, .ref q12, .ref q15, .ref q18, .null, .null, .null, .null, .int 0, .int 0])), (q1, .inl (cA2, 2000, .inl (fun _ => 0))), (q3, .inr (1, [.ref q5, .ref q6, .ref q7, .int 0, .int 0])), (q8, .inr (2, [.ref q3, .ref q10, .ref q11, .int 0, .int 0])), (q12, .inr (3, [.ref q14, .int 0])), (q18, .inr (6, [.ref q20, .ref q21, .ref q8, .int 0, .int 0])), (q22, .inr (10, [.null, .null, .null, .null, .null, .int 0]))] H := hP
  have hD : va_D A [(h0, .inr (0, [.ref q1, .int 0, .int 0, .ref q3, .ref q8, .ref q12, .ref q15, .ref q18, .null, .null, .null, .null, .int 0, .int 0])), (q1, .inl (cA2, 2000, .inl (fun _ => 0))), (q3, .inr (1, [.ref q5, .ref q6, .ref q7, .int 0, .int 0])), (q8, .inr (2, [.ref q3, .ref q10, .ref q11, .int 0, .int 0])), (q12, .inr (3, [.ref q14, .int 0])), (q18, .inr (6, [.ref q20, .ref q21, .ref q8, .int 0, .int 0])), (q22, .inr (10, [.null, .null, .null, .null, .null, .int 0]))] := hD
  refine lv_dup hx hb d_U_init_80 rfl ?_
  have hPc := hP.sub (ws' := [(q22, .inr (10, [.null, .null, .null, .null, .null, .int 0]))]) [6] rfl
  have hDc := hD.sub (ws' := [(q22, .inr (10, [.null, .null, .null, .null, .null, .int 0]))]) [6] (by decide) rfl
  have hKc := hK.sub (tys' := []) [] rfl
  have hFc := va_free (wc := [(q22, .inr (10, [.null, .null, .null, .null, .null, .int 0]))]) hD hS hA [6] rfl
  have hkc : 76 + 69 ≤ 148 := (Nat.le_of_ble_eq_true rfl)
  refine va_callv (va_runIN (As := []) (rest := [.ref q22, .ref h0]) hfx (c_So_init l dC dI q22 H.size) ⟨(ux_cn 0 hT tw_392 tw_390 tw_11 rfl rfl (by decide +kernel) ⟨(Nat.le_of_ble_eq_true rfl), (Nat.le_of_ble_eq_true rfl)⟩), rfl, (ux_T_at hT tw_391 rfl)⟩ (ux_pre [.ref q22] hT hPc hKc hDc) rfl rfl hl.1 rfl (lv_room (Nat.le_of_ble_eq_true rfl)) d_U_init_81 ⟨(Nat.le_of_ble_eq_true rfl), (Nat.le_of_ble_eq_true rfl)⟩) hS (fun q _ h => hFc q h) hFc (fun u t H1 locs ht hvm hw hB hz1 hk1 hS => ?_)
  obtain ⟨q24, q25, q26, q27, q28, hP1, hK1, hD1⟩ := hB
  rw [ht] at hP1
  have hK1 := va_K.moved hvm.symm hK1
  obtain ⟨hP, hD⟩ := va_join (wr := [(h0, .inr (0, [.ref q1, .int 0, .int 0, .ref q3, .ref q8, .ref q12, .ref q15, .ref q18, .null, .null, .null, .null, .int 0, .int 0])), (q1, .inl (cA2, 2000, .inl (fun _ => 0))), (q3, .inr (1, [.ref q5, .ref q6, .ref q7, .int 0, .int 0])), (q8, .inr (2, [.ref q3, .ref q10, .ref q11, .int 0, .int 0])), (q12, .inr (3, [.ref q14, .int 0])), (q18, .inr (6, [.ref q20, .ref q21, .ref q8, .int 0, .int 0]))]) (w1 := [(q22, .inr (10, [.ref q24, .ref q25, .ref q26, .ref q27, .ref q28, .int 0]))]) hP hD [6] [0, 1, 2, 3, 4, 5] rfl rfl (by decide) (by decide) hk1 hFc hP1 hD1
  have hK := (hK.sub (tys' := [(cA2, .byte)]) [0] rfl).app hK1
  generalize H1 = H at hP hS ⊢
  have hP : va_P (dC, dI) cls [(h0, .inr (0, [.ref q1, .int 0, .int 0, .ref q3, .ref q8, .ref q12, .ref q15, .ref q18, .null, .null, .null, .null, .int 0, .int 0])), (q1, .inl (cA2, 2000, .inl (fun _ => 0))), (q3, .inr (1, [.ref q5, .ref q6, .ref q7, .int 0, .int 0])), (q8, .inr (2, [.ref q3, .ref q10, .ref q11, .int 0, .int 0])), (q12, .inr (3, [.ref q14, .int 0])), (q18, .inr (6, [.ref q20, .ref q21, .ref q8, .int 0, .int 0])), (q22, .inr (10, [.ref q24, .ref q25, .ref q26, .ref q27, .ref q28, .int 0]))] H := hP
  have hD : va_D A [(h0, .inr (0, [.ref q1, .int 0, .int 0, .ref q3, .ref q8, .ref q12, .ref q15, .ref q18, .null, .null, .null, .null, .int 0, .int 0])), (q1, .inl (cA2, 2000, .inl (fun _ => 0))), (q3, .inr (1, [.ref q5, .ref q6, .ref q7, .int 0, .int 0])), (q8, .inr (2, [.ref q3, .ref q10, .ref q11, .int 0, .int 0])), (q12, .inr (3, [.ref q14, .int 0])), (q18, .inr (6, [.ref q20, .ref q21, .ref q8, .int 0, .int 0])), (q22, .inr (10, [.ref q24, .ref q25, .ref q26, .ref q27, .ref q28, .int 0]))] := hD
  have hK : va_K (dC, dI) cls [(cA2, .byte)] s := hK
  refine va_putF (D := (dC, dI)) (ci := 0) (v := .ref q22) (ty := .object "UnikernelHttp$Store") (C := R_U) (T := F_U) (N := 14) hx hb (u_U hT) (fun _ h => h) t_U k_U n_U hown hK hP hD hS 0 rfl rfl 8 (by decide) (ux_T_at hT tw_451 rfl) (fun _ h9 => h9) rfl hin rfl (by decide +kernel) rfl rfl (Nat.le_of_ble_eq_true rfl) d_U_init_84 (fun H locs hP hD hS => ?_)
  have hP : va_P (dC, dI) cls [(h0, .inr (0, [.ref q1, .int 0, .int 0, .ref q3, .ref q8, .ref q12, .ref q15, .ref q18, .ref q22, .null, .null, .null, .int 0, .int 0])), (q1, .inl (cA2, 2000, .inl (fun _ => 0))), (q3, .inr (1, [.ref q5, .ref q6, .ref q7, .int 0, .int 0])), (q8, .inr (2, [.ref q3, .ref q10, .ref q11, .int 0, .int 0])), (q12, .inr (3, [.ref q14, .int 0])), (q18, .inr (6, [.ref q20, .ref q21, .ref q8, .int 0, .int 0])), (q22, .inr (10, [.ref q24, .ref q25, .ref q26, .ref q27, .ref q28, .int 0]))] H := hP
  have hD : va_D A [(h0, .inr (0, [.ref q1, .int 0, .int 0, .ref q3, .ref q8, .ref q12, .ref q15, .ref q18, .ref q22, .null, .null, .null, .int 0, .int 0])), (q1, .inl (cA2, 2000, .inl (fun _ => 0))), (q3, .inr (1, [.ref q5, .ref q6, .ref q7, .int 0, .int 0])), (q8, .inr (2, [.ref q3, .ref q10, .ref q11, .int 0, .int 0])), (q12, .inr (3, [.ref q14, .int 0])), (q18, .inr (6, [.ref q20, .ref q21, .ref q8, .int 0, .int 0])), (q22, .inr (10, [.ref q24, .ref q25, .ref q26, .ref q27, .ref q28, .int 0]))] := hD
  refine lv_aload_n hx hb d_U_init_87 rfl (lv_at hl 0 rfl) ?_
  refine va_new (ci := 11) (fs := [.null, .null, .int 0, .int 0, .int 0]) (C := R_Ht) (T := F_Ht) (N := 5) hx hb (u_Ht hT) (fun _ h => h) t_Ht k_Ht hown (ux_T_at hT tw_421 rfl) (ux_T_at hT tw_422 rfl) (ux_T_at hT tw_12 rfl) hK hP hD hS hA rfl z_Ht (Nat.le_of_ble_eq_true rfl) (Nat.le_of_ble_eq_true rfl) d_U_init_88 (fun q29 H hP hD hS => ?_)
  have hP : va_P (dC, dI) cls [(h0, .inr (0, [.ref q1, .int 0, .int 0, .ref q3, .ref q8, .ref q12, .ref q15, .ref q18, .ref q22, .null, .null, .null, .int 0, .int 0])), (q1, .inl (cA2, 2000, .inl (fun _ => 0))), (q3, .inr (1, [.ref q5, .ref q6, .ref q7, .int 0, .int 0])), (q8, .inr (2, [.ref q3, .ref q10, .ref q11, .int 0, .int 0])), (q12, .inr (3, [.ref q14, .int 0])), (q18, .inr (6, [.ref q20, .ref q21, .ref q8, .int 0, .int 0])), (q22, .inr (10, [.ref q24, .ref q25, .ref q26, .ref q27, .ref q28, .int 0])), (q29, .inr (11, [.null, .null, .int 0, .int 0, .int 0]))] H := hP
  have hD : va_D A [(h0, .inr (0, [.ref q1, .int 0, .int 0, .ref q3, .ref q8, .ref q12, .ref q15, .ref q18, .ref q22, .null, .null, .null, .int 0, .int 0])), (q1, .inl (cA2, 2000, .inl (fun _ => 0))), (q3, .inr (1, [.ref q5, .ref q6, .ref q7, .int 0, .int 0])), (q8, .inr (2, [.ref q3, .ref q10, .ref q11, .int 0, .int 0])), (q12, .inr (3, [.ref q14, .int 0])), (q18, .inr (6, [.ref q20, .ref q21, .ref q8, .int 0, .int 0])), (q22, .inr (10, [.ref q24, .ref q25, .ref q26, .ref q27, .ref q28, .int 0])), (q29, .inr (11, [.null, .null, .int 0, .int 0, .int 0]))] := hD
  refine lv_dup hx hb d_U_init_91 rfl ?_
  refine lv_aload_n hx hb d_U_init_92 rfl (lv_at hl 0 rfl) ?_
  refine va_get (D := (dC, dI)) (ci := 0) (v := .ref q22) (C := R_U) (T := F_U) (N := 14) hx hb (u_U hT) (fun _ h => h) hown hK hP 0 rfl rfl 8 (by decide) (ux_T_at hT tw_451 rfl) (fun _ h9 => h9) rfl d_U_init_93 ?_
  have hPc := hP.sub (ws' := [(q29, .inr (11, [.null, .null, .int 0, .int 0, .int 0]))]) [7] rfl
  have hDc := hD.sub (ws' := [(q29, .inr (11, [.null, .null, .int 0, .int 0, .int 0]))]) [7] (by decide) rfl
  have hKc := hK.sub (tys' := []) [] rfl
  have hFc := va_free (wc := [(q29, .inr (11, [.null, .null, .int 0, .int 0, .int 0]))]) hD hS hA [7] rfl
  have hkc : 146 + 1 ≤ 148 := (Nat.le_of_ble_eq_true rfl)
  refine va_callv (va_runIN (As := [.ref q22]) (rest := [.ref q29, .ref h0]) hfx (c_Ht_init l dC dI q29 q22 H.size) ⟨(ux_cn 1 hT tw_425 tw_423 tw_12 rfl rfl (by decide +kernel) ⟨(Nat.le_of_ble_eq_true rfl), (Nat.le_of_ble_eq_true rfl)⟩), rfl, (ux_T_at hT tw_424 rfl)⟩ (ux_pre [.ref q29, .ref q22] hT hPc hKc hDc) rfl rfl hl.1 rfl (lv_room (Nat.le_of_ble_eq_true rfl)) d_U_init_96 ⟨(Nat.le_of_ble_eq_true rfl), (Nat.le_of_ble_eq_true rfl)⟩) hS (fun q _ h => hFc q h) hFc (fun u t H1 locs ht hvm hw hB hz1 hk1 hS => ?_)
  obtain ⟨q31, hP1, hK1, hD1⟩ := hB
  rw [ht] at hP1
  have hK1 := va_K.moved hvm.symm hK1
  obtain ⟨hP, hD⟩ := va_join (wr := [(h0, .inr (0, [.ref q1, .int 0, .int 0, .ref q3, .ref q8, .ref q12, .ref q15, .ref q18, .ref q22, .null, .null, .null, .int 0, .int 0])), (q1, .inl (cA2, 2000, .inl (fun _ => 0))), (q3, .inr (1, [.ref q5, .ref q6, .ref q7, .int 0, .int 0])), (q8, .inr (2, [.ref q3, .ref q10, .ref q11, .int 0, .int 0])), (q12, .inr (3, [.ref q14, .int 0])), (q18, .inr (6, [.ref q20, .ref q21, .ref q8, .int 0, .int 0])), (q22, .inr (10, [.ref q24, .ref q25, .ref q26, .ref q27, .ref q28, .int 0]))]) (w1 := [(q29, .inr (11, [.ref q22, .ref q31, .int 0, .int 0, .int 0]))]) hP hD [7] [0, 1, 2, 3, 4, 5, 6] rfl rfl (by decide) (by decide) hk1 hFc hP1 hD1
  have hK := (hK.sub (tys' := [(cA2, .byte)]) [0] rfl).app hK1
  generalize H1 = H at hP hS ⊢
  have hP : va_P (dC, dI) cls [(h0, .inr (0, [.ref q1, .int 0, .int 0, .ref q3, .ref q8, .ref q12, .ref q15, .ref q18, .ref q22, .null, .null, .null, .int 0, .int 0])), (q1, .inl (cA2, 2000, .inl (fun _ => 0))), (q3, .inr (1, [.ref q5, .ref q6, .ref q7, .int 0, .int 0])), (q8, .inr (2, [.ref q3, .ref q10, .ref q11, .int 0, .int 0])), (q12, .inr (3, [.ref q14, .int 0])), (q18, .inr (6, [.ref q20, .ref q21, .ref q8, .int 0, .int 0])), (q22, .inr (10, [.ref q24, .ref q25, .ref q26, .ref q27, .ref q28, .int 0])), (q29, .inr (11, [.ref q22, .ref q31, .int 0, .int 0, .int 0]))] H := hP
  have hD : va_D A [(h0, .inr (0, [.ref q1, .int 0, .int 0, .ref q3, .ref q8, .ref q12, .ref q15, .ref q18, .ref q22, .null, .null, .null, .int 0, .int 0])), (q1, .inl (cA2, 2000, .inl (fun _ => 0))), (q3, .inr (1, [.ref q5, .ref q6, .ref q7, .int 0, .int 0])), (q8, .inr (2, [.ref q3, .ref q10, .ref q11, .int 0, .int 0])), (q12, .inr (3, [.ref q14, .int 0])), (q18, .inr (6, [.ref q20, .ref q21, .ref q8, .int 0, .int 0])), (q22, .inr (10, [.ref q24, .ref q25, .ref q26, .ref q27, .ref q28, .int 0])), (q29, .inr (11, [.ref q22, .ref q31, .int 0, .int 0, .int 0]))] := hD
  have hK : va_K (dC, dI) cls [(cA2, .byte)] s := hK
  refine va_putF (D := (dC, dI)) (ci := 0) (v := .ref q29) (ty := .object "UnikernelHttp$Http") (C := R_U) (T := F_U) (N := 14) hx hb (u_U hT) (fun _ h => h) t_U k_U n_U hown hK hP hD hS 0 rfl rfl 9 (by decide) (ux_T_at hT tw_452 rfl) (fun _ h9 => h9) rfl hin rfl (by decide +kernel) rfl rfl (Nat.le_of_ble_eq_true rfl) d_U_init_99 (fun H locs hP hD hS => ?_)
  have hP : va_P (dC, dI) cls [(h0, .inr (0, [.ref q1, .int 0, .int 0, .ref q3, .ref q8, .ref q12, .ref q15, .ref q18, .ref q22, .ref q29, .null, .null, .int 0, .int 0])), (q1, .inl (cA2, 2000, .inl (fun _ => 0))), (q3, .inr (1, [.ref q5, .ref q6, .ref q7, .int 0, .int 0])), (q8, .inr (2, [.ref q3, .ref q10, .ref q11, .int 0, .int 0])), (q12, .inr (3, [.ref q14, .int 0])), (q18, .inr (6, [.ref q20, .ref q21, .ref q8, .int 0, .int 0])), (q22, .inr (10, [.ref q24, .ref q25, .ref q26, .ref q27, .ref q28, .int 0])), (q29, .inr (11, [.ref q22, .ref q31, .int 0, .int 0, .int 0]))] H := hP
  have hD : va_D A [(h0, .inr (0, [.ref q1, .int 0, .int 0, .ref q3, .ref q8, .ref q12, .ref q15, .ref q18, .ref q22, .ref q29, .null, .null, .int 0, .int 0])), (q1, .inl (cA2, 2000, .inl (fun _ => 0))), (q3, .inr (1, [.ref q5, .ref q6, .ref q7, .int 0, .int 0])), (q8, .inr (2, [.ref q3, .ref q10, .ref q11, .int 0, .int 0])), (q12, .inr (3, [.ref q14, .int 0])), (q18, .inr (6, [.ref q20, .ref q21, .ref q8, .int 0, .int 0])), (q22, .inr (10, [.ref q24, .ref q25, .ref q26, .ref q27, .ref q28, .int 0])), (q29, .inr (11, [.ref q22, .ref q31, .int 0, .int 0, .int 0]))] := hD
  have hP := hP.sub (ws' := [(h0, .inr (0, [.ref q1, .int 0, .int 0, .ref q3, .ref q8, .ref q12, .ref q15, .ref q18, .ref q22, .ref q29, .null, .null, .int 0, .int 0])), (q1, .inl (cA2, 2000, .inl (fun _ => 0))), (q3, .inr (1, [.ref q5, .ref q6, .ref q7, .int 0, .int 0])), (q8, .inr (2, [.ref q3, .ref q10, .ref q11, .int 0, .int 0])), (q12, .inr (3, [.ref q14, .int 0])), (q18, .inr (6, [.ref q20, .ref q21, .ref q8, .int 0, .int 0])), (q22, .inr (10, [.ref q24, .ref q25, .ref q26, .ref q27, .ref q28, .int 0]))]) [0, 1, 2, 3, 4, 5, 6] rfl
  have hD := hD.sub (ws' := [(h0, .inr (0, [.ref q1, .int 0, .int 0, .ref q3, .ref q8, .ref q12, .ref q15, .ref q18, .ref q22, .ref q29, .null, .null, .int 0, .int 0])), (q1, .inl (cA2, 2000, .inl (fun _ => 0))), (q3, .inr (1, [.ref q5, .ref q6, .ref q7, .int 0, .int 0])), (q8, .inr (2, [.ref q3, .ref q10, .ref q11, .int 0, .int 0])), (q12, .inr (3, [.ref q14, .int 0])), (q18, .inr (6, [.ref q20, .ref q21, .ref q8, .int 0, .int 0])), (q22, .inr (10, [.ref q24, .ref q25, .ref q26, .ref q27, .ref q28, .int 0]))]) [0, 1, 2, 3, 4, 5, 6] (by decide) rfl
  refine lv_aload_n hx hb d_U_init_102 rfl (lv_at hl 0 rfl) ?_
  refine lv_sipush (v := 1484) hx hb d_U_init_103 (by decide) ?_
  refine va_newa (atype := .byte) (ty := .byte) (N' := 1484) (a0 := (1484, .inl (fun _ => 0))) hx hb (ux_T_at hT tw_66 rfl) rfl hK hP hD hS hA (fun _ => rfl) (by decide) (by decide +kernel) (by decide +kernel) (Nat.le_of_ble_eq_true rfl) (Nat.le_of_ble_eq_true rfl) d_U_init_106 (fun q32 cA33 H hK hP hD hS => ?_)
  have hP : va_P (dC, dI) cls [(h0, .inr (0, [.ref q1, .int 0, .int 0, .ref q3, .ref q8, .ref q12, .ref q15, .ref q18, .ref q22, .ref q29, .null, .null, .int 0, .int 0])), (q1, .inl (cA2, 2000, .inl (fun _ => 0))), (q3, .inr (1, [.ref q5, .ref q6, .ref q7, .int 0, .int 0])), (q8, .inr (2, [.ref q3, .ref q10, .ref q11, .int 0, .int 0])), (q12, .inr (3, [.ref q14, .int 0])), (q18, .inr (6, [.ref q20, .ref q21, .ref q8, .int 0, .int 0])), (q22, .inr (10, [.ref q24, .ref q25, .ref q26, .ref q27, .ref q28, .int 0])), (q32, .inl (cA33, 1484, .inl (fun _ => 0)))] H := hP
  have hD : va_D A [(h0, .inr (0, [.ref q1, .int 0, .int 0, .ref q3, .ref q8, .ref q12, .ref q15, .ref q18, .ref q22, .ref q29, .null, .null, .int 0, .int 0])), (q1, .inl (cA2, 2000, .inl (fun _ => 0))), (q3, .inr (1, [.ref q5, .ref q6, .ref q7, .int 0, .int 0])), (q8, .inr (2, [.ref q3, .ref q10, .ref q11, .int 0, .int 0])), (q12, .inr (3, [.ref q14, .int 0])), (q18, .inr (6, [.ref q20, .ref q21, .ref q8, .int 0, .int 0])), (q22, .inr (10, [.ref q24, .ref q25, .ref q26, .ref q27, .ref q28, .int 0])), (q32, .inl (cA33, 1484, .inl (fun _ => 0)))] := hD
  have hK : va_K (dC, dI) cls [(cA2, .byte), (cA33, .byte)] s := hK
  refine va_putF (D := (dC, dI)) (ci := 0) (v := .ref q32) (ty := .array .byte) (C := R_U) (T := F_U) (N := 14) hx hb (u_U hT) (fun _ h => h) t_U k_U n_U hown hK hP hD hS 0 rfl rfl 10 (by decide) (ux_T_at hT tw_453 rfl) (fun _ h9 => h9) rfl hin rfl (by decide +kernel) rfl rfl (Nat.le_of_ble_eq_true rfl) d_U_init_108 (fun H locs hP hD hS => ?_)
  have hP : va_P (dC, dI) cls [(h0, .inr (0, [.ref q1, .int 0, .int 0, .ref q3, .ref q8, .ref q12, .ref q15, .ref q18, .ref q22, .ref q29, .ref q32, .null, .int 0, .int 0])), (q1, .inl (cA2, 2000, .inl (fun _ => 0))), (q3, .inr (1, [.ref q5, .ref q6, .ref q7, .int 0, .int 0])), (q8, .inr (2, [.ref q3, .ref q10, .ref q11, .int 0, .int 0])), (q12, .inr (3, [.ref q14, .int 0])), (q18, .inr (6, [.ref q20, .ref q21, .ref q8, .int 0, .int 0])), (q22, .inr (10, [.ref q24, .ref q25, .ref q26, .ref q27, .ref q28, .int 0])), (q32, .inl (cA33, 1484, .inl (fun _ => 0)))] H := hP
  have hD : va_D A [(h0, .inr (0, [.ref q1, .int 0, .int 0, .ref q3, .ref q8, .ref q12, .ref q15, .ref q18, .ref q22, .ref q29, .ref q32, .null, .int 0, .int 0])), (q1, .inl (cA2, 2000, .inl (fun _ => 0))), (q3, .inr (1, [.ref q5, .ref q6, .ref q7, .int 0, .int 0])), (q8, .inr (2, [.ref q3, .ref q10, .ref q11, .int 0, .int 0])), (q12, .inr (3, [.ref q14, .int 0])), (q18, .inr (6, [.ref q20, .ref q21, .ref q8, .int 0, .int 0])), (q22, .inr (10, [.ref q24, .ref q25, .ref q26, .ref q27, .ref q28, .int 0])), (q32, .inl (cA33, 1484, .inl (fun _ => 0)))] := hD
  have hP := hP.sub (ws' := [(h0, .inr (0, [.ref q1, .int 0, .int 0, .ref q3, .ref q8, .ref q12, .ref q15, .ref q18, .ref q22, .ref q29, .ref q32, .null, .int 0, .int 0])), (q1, .inl (cA2, 2000, .inl (fun _ => 0))), (q3, .inr (1, [.ref q5, .ref q6, .ref q7, .int 0, .int 0])), (q8, .inr (2, [.ref q3, .ref q10, .ref q11, .int 0, .int 0])), (q12, .inr (3, [.ref q14, .int 0])), (q18, .inr (6, [.ref q20, .ref q21, .ref q8, .int 0, .int 0])), (q22, .inr (10, [.ref q24, .ref q25, .ref q26, .ref q27, .ref q28, .int 0]))]) [0, 1, 2, 3, 4, 5, 6] rfl
  have hD := hD.sub (ws' := [(h0, .inr (0, [.ref q1, .int 0, .int 0, .ref q3, .ref q8, .ref q12, .ref q15, .ref q18, .ref q22, .ref q29, .ref q32, .null, .int 0, .int 0])), (q1, .inl (cA2, 2000, .inl (fun _ => 0))), (q3, .inr (1, [.ref q5, .ref q6, .ref q7, .int 0, .int 0])), (q8, .inr (2, [.ref q3, .ref q10, .ref q11, .int 0, .int 0])), (q12, .inr (3, [.ref q14, .int 0])), (q18, .inr (6, [.ref q20, .ref q21, .ref q8, .int 0, .int 0])), (q22, .inr (10, [.ref q24, .ref q25, .ref q26, .ref q27, .ref q28, .int 0]))]) [0, 1, 2, 3, 4, 5, 6] (by decide) rfl
  refine lv_aload_n hx hb d_U_init_111 rfl (lv_at hl 0 rfl) ?_
  refine lv_aload_n hx hb d_U_init_112 rfl (lv_at hl 0 rfl) ?_
  refine va_get (D := (dC, dI)) (ci := 0) (v := .ref q1) (C := R_U) (T := F_U) (N := 14) hx hb (u_U hT) (fun _ h => h) hown hK hP 0 rfl rfl 0 (by decide) (ux_T_at hT tw_443 rfl) (fun _ h9 => h9) rfl d_U_init_113 ?_
  refine va_put (D := (dC, dI)) (ci := 0) (v := .ref q1) (ty := .array .byte) (C := R_U) (T := F_U) (N := 14) hx hb (u_U hT) (fun _ h => h) t_U k_U n_U hown hK hP hD hS 0 rfl rfl 11 (by decide) (ux_T_at hT tw_454 rfl) (fun _ h9 => h9) rfl (by decide +kernel) rfl rfl (Nat.le_of_ble_eq_true rfl) d_U_init_116 (fun H locs hP hD hS => ?_)
  have hP : va_P (dC, dI) cls [(h0, .inr (0, [.ref q1, .int 0, .int 0, .ref q3, .ref q8, .ref q12, .ref q15, .ref q18, .ref q22, .ref q29, .ref q32, .ref q1, .int 0, .int 0])), (q1, .inl (cA2, 2000, .inl (fun _ => 0))), (q3, .inr (1, [.ref q5, .ref q6, .ref q7, .int 0, .int 0])), (q8, .inr (2, [.ref q3, .ref q10, .ref q11, .int 0, .int 0])), (q12, .inr (3, [.ref q14, .int 0])), (q18, .inr (6, [.ref q20, .ref q21, .ref q8, .int 0, .int 0])), (q22, .inr (10, [.ref q24, .ref q25, .ref q26, .ref q27, .ref q28, .int 0]))] H := hP
  have hD : va_D A [(h0, .inr (0, [.ref q1, .int 0, .int 0, .ref q3, .ref q8, .ref q12, .ref q15, .ref q18, .ref q22, .ref q29, .ref q32, .ref q1, .int 0, .int 0])), (q1, .inl (cA2, 2000, .inl (fun _ => 0))), (q3, .inr (1, [.ref q5, .ref q6, .ref q7, .int 0, .int 0])), (q8, .inr (2, [.ref q3, .ref q10, .ref q11, .int 0, .int 0])), (q12, .inr (3, [.ref q14, .int 0])), (q18, .inr (6, [.ref q20, .ref q21, .ref q8, .int 0, .int 0])), (q22, .inr (10, [.ref q24, .ref q25, .ref q26, .ref q27, .ref q28, .int 0]))] := hD
  have hP9 := hP.sub (ws' := [(h0, .inr (0, [.ref q1, .int 0, .int 0, .ref q3, .ref q8, .ref q12, .ref q15, .ref q18, .ref q22, .ref q29, .ref q32, .ref q1, .int 0, .int 0])), (q1, .inl (cA2, 2000, .inl (fun _ => 0))), (q3, .inr (1, [.ref q5, .ref q6, .ref q7, .int 0, .int 0])), (q8, .inr (2, [.ref q3, .ref q10, .ref q11, .int 0, .int 0])), (q12, .inr (3, [.ref q14, .int 0])), (q18, .inr (6, [.ref q20, .ref q21, .ref q8, .int 0, .int 0])), (q22, .inr (10, [.ref q24, .ref q25, .ref q26, .ref q27, .ref q28, .int 0]))]) [0, 1, 2, 3, 4, 5, 6] rfl
  have hD9 := hD.sub (ws' := [(h0, .inr (0, [.ref q1, .int 0, .int 0, .ref q3, .ref q8, .ref q12, .ref q15, .ref q18, .ref q22, .ref q29, .ref q32, .ref q1, .int 0, .int 0])), (q1, .inl (cA2, 2000, .inl (fun _ => 0))), (q3, .inr (1, [.ref q5, .ref q6, .ref q7, .int 0, .int 0])), (q8, .inr (2, [.ref q3, .ref q10, .ref q11, .int 0, .int 0])), (q12, .inr (3, [.ref q14, .int 0])), (q18, .inr (6, [.ref q20, .ref q21, .ref q8, .int 0, .int 0])), (q22, .inr (10, [.ref q24, .ref q25, .ref q26, .ref q27, .ref q28, .int 0]))]) [0, 1, 2, 3, 4, 5, 6] (by decide) rfl
  have hK9 := hK.sub (tys' := [(cA2, .byte)]) [0] rfl
  refine W.widen (k := 148) (n := 251840) (Nat.le_of_ble_eq_true rfl) (Nat.le_of_ble_eq_true rfl) ?_
  exact W.vret hx hb hr (fun t ht hW => ⟨⟨(), rfl, trivial, q1, q3, q8, q12, q15, q18, q22, q29, q32, q5, q6, q7, q10, q11, q14, q20, q21, q24, q25, q26, q27, q28, cA2, by rw [ht]; exact hP9, va_K.moved hW.alike hK9, hD9⟩, hS.F ht⟩) hS.2.2 d_U_init_119
set_option maxHeartbeats 4000000 in
set_option maxRecDepth 100000 in
theorem c_Pe_init (l : Launch) (dC : Nat → ClassId) (dI : Nat → Nat → Nat) (h0 : Nat) (sz : Nat) : Met l y_Pe_init [Cond.code y_Pe_init b_Pe_init 1 (none)] ({ frames := 20, cells := 4, slots := 10240, locals := 300 }) (ux_Pc [.ref h0] (dC, dI) cls [(h0, .inr (13, [.int 0, .int 0, .int 0, .int 0, .int 0, .int 0, .int 0, .int 0, .int 0, .int 0, .int 0, .int 0, .int 0, .int 0, .int 0, .int 0, .int 0, .int 0, .int 0, .null, .null, .null, .int 0, .int 0, .int 0, .int 0, .int 0, .int 0, .int 0, .null, .int 0, .int 0]))] [] sz) (va_Qv (fun _ : Unit => True) (fun (_ : Unit) (t : State) => ∃ (q1 : Nat), ∃ (q2 : Nat), ∃ (q3 : Nat), ∃ (q4 : Nat), ux_B (dC, dI) cls (va_A [(h0, .inr (13, [.int 0, .int 0, .int 0, .int 0, .int 0, .int 0, .int 0, .int 0, .int 0, .int 0, .int 0, .int 0, .int 0, .int 0, .int 0, .int 0, .int 0, .int 0, .int 0, .null, .null, .null, .int 0, .int 0, .int 0, .int 0, .int 0, .int 0, .int 0, .null, .int 0, .int 0]))] sz) [(h0, .inr (13, [.int 0, .int 0, .int 0, .int 0, .int 0, .int 0, .int 0, .int 0, .int 0, .int 0, .int 0, .int 0, .int 0, .int 0, .int 0, .int 0, .int 0, .int 0, .int 0, .ref q1, .ref q2, .ref q3, .int 0, .int 0, .int 0, .int 0, .int 0, .int 0, .int 0, .ref q4, .int 0, .int 0]))] [] t) (va_A [(h0, .inr (13, [.int 0, .int 0, .int 0, .int 0, .int 0, .int 0, .int 0, .int 0, .int 0, .int 0, .int 0, .int 0, .int 0, .int 0, .int 0, .int 0, .int 0, .int 0, .int 0, .null, .null, .null, .int 0, .int 0, .int 0, .int 0, .int 0, .int 0, .int 0, .null, .int 0, .int 0]))] sz)) 4 10240 (va_A [(h0, .inr (13, [.int 0, .int 0, .int 0, .int 0, .int 0, .int 0, .int 0, .int 0, .int 0, .int 0, .int 0, .int 0, .int 0, .int 0, .int 0, .int 0, .int 0, .int 0, .int 0, .null, .null, .null, .int 0, .int 0, .int 0, .int 0, .int 0, .int 0, .int 0, .null, .int 0, .int 0]))] sz) := by
  refine Met.ofW (cc := b_Pe_init) (maxL := 1) (ret := none) (by decide) rfl ?_
  intro p e s m args below meth c s₁ B hml hv
  obtain ⟨rfl, hsz, hP, hK, hD0, hT⟩ := hv
  have hx := B.exec
  have hb := B.bytes
  have hr := B.returns
  have hown : s.vm.findClass "UnikernelHttpModel$Peer" = some m.cls := findClass_of_methodNamed B.named
  have hlocks := B.notSynchronized
  have hin : meth.name = "<init>" := (name_of_methodNamed B.named B.method).1
  subst hsz
  have hD := hD0.self (sz := s.heap.size)
  have hns := ux_ns hP
  generalize hAe : va_A [(h0, .inr (13, [.int 0, .int 0, .int 0, .int 0, .int 0, .int 0, .int 0, .int 0, .int 0, .int 0, .int 0, .int 0, .int 0, .int 0, .int 0, .int 0, .int 0, .int 0, .int 0, .null, .null, .null, .int 0, .int 0, .int 0, .int 0, .int 0, .int 0, .int 0, .null, .int 0, .int 0]))] s.heap.size = A at hD hns ⊢
  have hA : ∀ q : Nat, s.heap.size ≤ q → A q := fun q h => by rw [← hAe]; exact Or.inr h
  have hS : va_S A s.heap s.heap [] := va_S.rf
  have hl := lv_entry ([.ref h0]) (n := 1) (Nat.le_of_ble_eq_true rfl)
  rw [lg_entry_eq]
  generalize (lg_sl ([.ref h0]) ++ List.replicate (1 - (lg_sl ([.ref h0])).length) Slot.unset).toArray = ls at hl ⊢
  have hl : lv_has ls 1 [(0, .ref h0)] := hl
  have hfx : CallFix p m c b_Pe_init 1 s ([.ref h0] : List Value).toArray [] "UnikernelHttpModel$Peer" := ⟨hx, hb, hml, hown, fun _ h => by cases h⟩
  refine lv_aload_n hx hb d_Pe_init_0 rfl (lv_at hl 0 rfl) ?_
  refine W.objInit hx hb hown (ux_T_at hT tw_1492 rfl) (ux_T_at hT tw_40 rfl) (ux_T_at hT tw_41 rfl) rfl (by rw [hml]; exact hl.1) rfl d_Pe_init_1 (Nat.le_of_ble_eq_true rfl) (Nat.le_of_ble_eq_true rfl) ?_
  refine W.eq (g2 := F0 m 4 ls []) rfl ?_
  refine lv_aload_n hx hb d_Pe_init_4 rfl (lv_at hl 0 rfl) ?_
  refine lv_sipush (v := 2048) hx hb d_Pe_init_5 (by decide) ?_
  refine va_newa (atype := .byte) (ty := .byte) (N' := 2048) (a0 := (2048, .inl (fun _ => 0))) hx hb (ux_T_at hT tw_66 rfl) rfl hK hP hD hS hA (fun _ => rfl) (by decide) (by decide +kernel) (by decide +kernel) (Nat.le_of_ble_eq_true rfl) (Nat.le_of_ble_eq_true rfl) d_Pe_init_8 (fun q1 cA2 H hK hP hD hS => ?_)
  have hP : va_P (dC, dI) cls [(h0, .inr (13, [.int 0, .int 0, .int 0, .int 0, .int 0, .int 0, .int 0, .int 0, .int 0, .int 0, .int 0, .int 0, .int 0, .int 0, .int 0, .int 0, .int 0, .int 0, .int 0, .null, .null, .null, .int 0, .int 0, .int 0, .int 0, .int 0, .int 0, .int 0, .null, .int 0, .int 0])), (q1, .inl (cA2, 2048, .inl (fun _ => 0)))] H := hP
  have hD : va_D A [(h0, .inr (13, [.int 0, .int 0, .int 0, .int 0, .int 0, .int 0, .int 0, .int 0, .int 0, .int 0, .int 0, .int 0, .int 0, .int 0, .int 0, .int 0, .int 0, .int 0, .int 0, .null, .null, .null, .int 0, .int 0, .int 0, .int 0, .int 0, .int 0, .int 0, .null, .int 0, .int 0])), (q1, .inl (cA2, 2048, .inl (fun _ => 0)))] := hD
  have hK : va_K (dC, dI) cls [(cA2, .byte)] s := hK
  refine va_putF (D := (dC, dI)) (ci := 13) (v := .ref q1) (ty := .array .byte) (C := R_Pe) (T := F_Pe) (N := 32) hx hb (u_Pe hT) (fun _ h => h) t_Pe k_Pe n_Pe hown hK hP hD hS 0 rfl rfl 19 (by decide) (ux_T_at hT tw_1511 rfl) (fun _ h9 => h9) rfl hin rfl (by decide +kernel) rfl rfl (Nat.le_of_ble_eq_true rfl) d_Pe_init_10 (fun H locs hP hD hS => ?_)
  have hP : va_P (dC, dI) cls [(h0, .inr (13, [.int 0, .int 0, .int 0, .int 0, .int 0, .int 0, .int 0, .int 0, .int 0, .int 0, .int 0, .int 0, .int 0, .int 0, .int 0, .int 0, .int 0, .int 0, .int 0, .ref q1, .null, .null, .int 0, .int 0, .int 0, .int 0, .int 0, .int 0, .int 0, .null, .int 0, .int 0])), (q1, .inl (cA2, 2048, .inl (fun _ => 0)))] H := hP
  have hD : va_D A [(h0, .inr (13, [.int 0, .int 0, .int 0, .int 0, .int 0, .int 0, .int 0, .int 0, .int 0, .int 0, .int 0, .int 0, .int 0, .int 0, .int 0, .int 0, .int 0, .int 0, .int 0, .ref q1, .null, .null, .int 0, .int 0, .int 0, .int 0, .int 0, .int 0, .int 0, .null, .int 0, .int 0])), (q1, .inl (cA2, 2048, .inl (fun _ => 0)))] := hD
  have hP := hP.sub (ws' := [(h0, .inr (13, [.int 0, .int 0, .int 0, .int 0, .int 0, .int 0, .int 0, .int 0, .int 0, .int 0, .int 0, .int 0, .int 0, .int 0, .int 0, .int 0, .int 0, .int 0, .int 0, .ref q1, .null, .null, .int 0, .int 0, .int 0, .int 0, .int 0, .int 0, .int 0, .null, .int 0, .int 0]))]) [0] rfl
  have hD := hD.sub (ws' := [(h0, .inr (13, [.int 0, .int 0, .int 0, .int 0, .int 0, .int 0, .int 0, .int 0, .int 0, .int 0, .int 0, .int 0, .int 0, .int 0, .int 0, .int 0, .int 0, .int 0, .int 0, .ref q1, .null, .null, .int 0, .int 0, .int 0, .int 0, .int 0, .int 0, .int 0, .null, .int 0, .int 0]))]) [0] (by decide) rfl
  refine lv_aload_n hx hb d_Pe_init_13 rfl (lv_at hl 0 rfl) ?_
  refine lv_sipush (v := 2048) hx hb d_Pe_init_14 (by decide) ?_
  refine va_newa (atype := .byte) (ty := .byte) (N' := 2048) (a0 := (2048, .inl (fun _ => 0))) hx hb (ux_T_at hT tw_66 rfl) rfl hK hP hD hS hA (fun _ => rfl) (by decide) (by decide +kernel) (by decide +kernel) (Nat.le_of_ble_eq_true rfl) (Nat.le_of_ble_eq_true rfl) d_Pe_init_17 (fun q3 cA4 H hK hP hD hS => ?_)
  have hP : va_P (dC, dI) cls [(h0, .inr (13, [.int 0, .int 0, .int 0, .int 0, .int 0, .int 0, .int 0, .int 0, .int 0, .int 0, .int 0, .int 0, .int 0, .int 0, .int 0, .int 0, .int 0, .int 0, .int 0, .ref q1, .null, .null, .int 0, .int 0, .int 0, .int 0, .int 0, .int 0, .int 0, .null, .int 0, .int 0])), (q3, .inl (cA4, 2048, .inl (fun _ => 0)))] H := hP
  have hD : va_D A [(h0, .inr (13, [.int 0, .int 0, .int 0, .int 0, .int 0, .int 0, .int 0, .int 0, .int 0, .int 0, .int 0, .int 0, .int 0, .int 0, .int 0, .int 0, .int 0, .int 0, .int 0, .ref q1, .null, .null, .int 0, .int 0, .int 0, .int 0, .int 0, .int 0, .int 0, .null, .int 0, .int 0])), (q3, .inl (cA4, 2048, .inl (fun _ => 0)))] := hD
  have hK : va_K (dC, dI) cls [(cA2, .byte), (cA4, .byte)] s := hK
  refine va_putF (D := (dC, dI)) (ci := 13) (v := .ref q3) (ty := .array .byte) (C := R_Pe) (T := F_Pe) (N := 32) hx hb (u_Pe hT) (fun _ h => h) t_Pe k_Pe n_Pe hown hK hP hD hS 0 rfl rfl 20 (by decide) (ux_T_at hT tw_1513 rfl) (fun _ h9 => h9) rfl hin rfl (by decide +kernel) rfl rfl (Nat.le_of_ble_eq_true rfl) d_Pe_init_19 (fun H locs hP hD hS => ?_)
  have hP : va_P (dC, dI) cls [(h0, .inr (13, [.int 0, .int 0, .int 0, .int 0, .int 0, .int 0, .int 0, .int 0, .int 0, .int 0, .int 0, .int 0, .int 0, .int 0, .int 0, .int 0, .int 0, .int 0, .int 0, .ref q1, .ref q3, .null, .int 0, .int 0, .int 0, .int 0, .int 0, .int 0, .int 0, .null, .int 0, .int 0])), (q3, .inl (cA4, 2048, .inl (fun _ => 0)))] H := hP
  have hD : va_D A [(h0, .inr (13, [.int 0, .int 0, .int 0, .int 0, .int 0, .int 0, .int 0, .int 0, .int 0, .int 0, .int 0, .int 0, .int 0, .int 0, .int 0, .int 0, .int 0, .int 0, .int 0, .ref q1, .ref q3, .null, .int 0, .int 0, .int 0, .int 0, .int 0, .int 0, .int 0, .null, .int 0, .int 0])), (q3, .inl (cA4, 2048, .inl (fun _ => 0)))] := hD
  have hP := hP.sub (ws' := [(h0, .inr (13, [.int 0, .int 0, .int 0, .int 0, .int 0, .int 0, .int 0, .int 0, .int 0, .int 0, .int 0, .int 0, .int 0, .int 0, .int 0, .int 0, .int 0, .int 0, .int 0, .ref q1, .ref q3, .null, .int 0, .int 0, .int 0, .int 0, .int 0, .int 0, .int 0, .null, .int 0, .int 0]))]) [0] rfl
  have hD := hD.sub (ws' := [(h0, .inr (13, [.int 0, .int 0, .int 0, .int 0, .int 0, .int 0, .int 0, .int 0, .int 0, .int 0, .int 0, .int 0, .int 0, .int 0, .int 0, .int 0, .int 0, .int 0, .int 0, .ref q1, .ref q3, .null, .int 0, .int 0, .int 0, .int 0, .int 0, .int 0, .int 0, .null, .int 0, .int 0]))]) [0] (by decide) rfl
  refine lv_aload_n hx hb d_Pe_init_22 rfl (lv_at hl 0 rfl) ?_
  refine lv_sipush (v := 2048) hx hb d_Pe_init_23 (by decide) ?_
  refine va_newa (atype := .boolean) (ty := .boolean) (N' := 2048) (a0 := (2048, .inl (fun _ => 0))) hx hb (ux_T_at hT tw_1593 rfl) rfl hK hP hD hS hA (fun _ => rfl) (by decide) (by decide +kernel) (by decide +kernel) (Nat.le_of_ble_eq_true rfl) (Nat.le_of_ble_eq_true rfl) d_Pe_init_26 (fun q5 cA6 H hK hP hD hS => ?_)
  have hP : va_P (dC, dI) cls [(h0, .inr (13, [.int 0, .int 0, .int 0, .int 0, .int 0, .int 0, .int 0, .int 0, .int 0, .int 0, .int 0, .int 0, .int 0, .int 0, .int 0, .int 0, .int 0, .int 0, .int 0, .ref q1, .ref q3, .null, .int 0, .int 0, .int 0, .int 0, .int 0, .int 0, .int 0, .null, .int 0, .int 0])), (q5, .inl (cA6, 2048, .inl (fun _ => 0)))] H := hP
  have hD : va_D A [(h0, .inr (13, [.int 0, .int 0, .int 0, .int 0, .int 0, .int 0, .int 0, .int 0, .int 0, .int 0, .int 0, .int 0, .int 0, .int 0, .int 0, .int 0, .int 0, .int 0, .int 0, .ref q1, .ref q3, .null, .int 0, .int 0, .int 0, .int 0, .int 0, .int 0, .int 0, .null, .int 0, .int 0])), (q5, .inl (cA6, 2048, .inl (fun _ => 0)))] := hD
  have hK : va_K (dC, dI) cls [(cA2, .byte), (cA4, .byte), (cA6, .boolean)] s := hK
  refine va_putF (D := (dC, dI)) (ci := 13) (v := .ref q5) (ty := .array .boolean) (C := R_Pe) (T := F_Pe) (N := 32) hx hb (u_Pe hT) (fun _ h => h) t_Pe k_Pe n_Pe hown hK hP hD hS 0 rfl rfl 21 (by decide) (ux_T_at hT tw_1515 rfl) (fun _ h9 => h9) rfl hin rfl (by decide +kernel) rfl rfl (Nat.le_of_ble_eq_true rfl) d_Pe_init_28 (fun H locs hP hD hS => ?_)
  have hP : va_P (dC, dI) cls [(h0, .inr (13, [.int 0, .int 0, .int 0, .int 0, .int 0, .int 0, .int 0, .int 0, .int 0, .int 0, .int 0, .int 0, .int 0, .int 0, .int 0, .int 0, .int 0, .int 0, .int 0, .ref q1, .ref q3, .ref q5, .int 0, .int 0, .int 0, .int 0, .int 0, .int 0, .int 0, .null, .int 0, .int 0])), (q5, .inl (cA6, 2048, .inl (fun _ => 0)))] H := hP
  have hD : va_D A [(h0, .inr (13, [.int 0, .int 0, .int 0, .int 0, .int 0, .int 0, .int 0, .int 0, .int 0, .int 0, .int 0, .int 0, .int 0, .int 0, .int 0, .int 0, .int 0, .int 0, .int 0, .ref q1, .ref q3, .ref q5, .int 0, .int 0, .int 0, .int 0, .int 0, .int 0, .int 0, .null, .int 0, .int 0])), (q5, .inl (cA6, 2048, .inl (fun _ => 0)))] := hD
  have hP := hP.sub (ws' := [(h0, .inr (13, [.int 0, .int 0, .int 0, .int 0, .int 0, .int 0, .int 0, .int 0, .int 0, .int 0, .int 0, .int 0, .int 0, .int 0, .int 0, .int 0, .int 0, .int 0, .int 0, .ref q1, .ref q3, .ref q5, .int 0, .int 0, .int 0, .int 0, .int 0, .int 0, .int 0, .null, .int 0, .int 0]))]) [0] rfl
  have hD := hD.sub (ws' := [(h0, .inr (13, [.int 0, .int 0, .int 0, .int 0, .int 0, .int 0, .int 0, .int 0, .int 0, .int 0, .int 0, .int 0, .int 0, .int 0, .int 0, .int 0, .int 0, .int 0, .int 0, .ref q1, .ref q3, .ref q5, .int 0, .int 0, .int 0, .int 0, .int 0, .int 0, .int 0, .null, .int 0, .int 0]))]) [0] (by decide) rfl
  refine lv_aload_n hx hb d_Pe_init_31 rfl (lv_at hl 0 rfl) ?_
  refine lv_sipush (v := 4096) hx hb d_Pe_init_32 (by decide) ?_
  refine va_newa (atype := .byte) (ty := .byte) (N' := 4096) (a0 := (4096, .inl (fun _ => 0))) hx hb (ux_T_at hT tw_66 rfl) rfl hK hP hD hS hA (fun _ => rfl) (by decide) (by decide +kernel) (by decide +kernel) (Nat.le_of_ble_eq_true rfl) (Nat.le_of_ble_eq_true rfl) d_Pe_init_35 (fun q7 cA8 H hK hP hD hS => ?_)
  have hP : va_P (dC, dI) cls [(h0, .inr (13, [.int 0, .int 0, .int 0, .int 0, .int 0, .int 0, .int 0, .int 0, .int 0, .int 0, .int 0, .int 0, .int 0, .int 0, .int 0, .int 0, .int 0, .int 0, .int 0, .ref q1, .ref q3, .ref q5, .int 0, .int 0, .int 0, .int 0, .int 0, .int 0, .int 0, .null, .int 0, .int 0])), (q7, .inl (cA8, 4096, .inl (fun _ => 0)))] H := hP
  have hD : va_D A [(h0, .inr (13, [.int 0, .int 0, .int 0, .int 0, .int 0, .int 0, .int 0, .int 0, .int 0, .int 0, .int 0, .int 0, .int 0, .int 0, .int 0, .int 0, .int 0, .int 0, .int 0, .ref q1, .ref q3, .ref q5, .int 0, .int 0, .int 0, .int 0, .int 0, .int 0, .int 0, .null, .int 0, .int 0])), (q7, .inl (cA8, 4096, .inl (fun _ => 0)))] := hD
  have hK : va_K (dC, dI) cls [(cA2, .byte), (cA4, .byte), (cA6, .boolean), (cA8, .byte)] s := hK
  refine va_putF (D := (dC, dI)) (ci := 13) (v := .ref q7) (ty := .array .byte) (C := R_Pe) (T := F_Pe) (N := 32) hx hb (u_Pe hT) (fun _ h => h) t_Pe k_Pe n_Pe hown hK hP hD hS 0 rfl rfl 29 (by decide) (ux_T_at hT tw_1524 rfl) (fun _ h9 => h9) rfl hin rfl (by decide +kernel) rfl rfl (Nat.le_of_ble_eq_true rfl) d_Pe_init_37 (fun H locs hP hD hS => ?_)
  have hP : va_P (dC, dI) cls [(h0, .inr (13, [.int 0, .int 0, .int 0, .int 0, .int 0, .int 0, .int 0, .int 0, .int 0, .int 0, .int 0, .int 0, .int 0, .int 0, .int 0, .int 0, .int 0, .int 0, .int 0, .ref q1, .ref q3, .ref q5, .int 0, .int 0, .int 0, .int 0, .int 0, .int 0, .int 0, .ref q7, .int 0, .int 0])), (q7, .inl (cA8, 4096, .inl (fun _ => 0)))] H := hP
  have hD : va_D A [(h0, .inr (13, [.int 0, .int 0, .int 0, .int 0, .int 0, .int 0, .int 0, .int 0, .int 0, .int 0, .int 0, .int 0, .int 0, .int 0, .int 0, .int 0, .int 0, .int 0, .int 0, .ref q1, .ref q3, .ref q5, .int 0, .int 0, .int 0, .int 0, .int 0, .int 0, .int 0, .ref q7, .int 0, .int 0])), (q7, .inl (cA8, 4096, .inl (fun _ => 0)))] := hD
  have hP := hP.sub (ws' := [(h0, .inr (13, [.int 0, .int 0, .int 0, .int 0, .int 0, .int 0, .int 0, .int 0, .int 0, .int 0, .int 0, .int 0, .int 0, .int 0, .int 0, .int 0, .int 0, .int 0, .int 0, .ref q1, .ref q3, .ref q5, .int 0, .int 0, .int 0, .int 0, .int 0, .int 0, .int 0, .ref q7, .int 0, .int 0]))]) [0] rfl
  have hD := hD.sub (ws' := [(h0, .inr (13, [.int 0, .int 0, .int 0, .int 0, .int 0, .int 0, .int 0, .int 0, .int 0, .int 0, .int 0, .int 0, .int 0, .int 0, .int 0, .int 0, .int 0, .int 0, .int 0, .ref q1, .ref q3, .ref q5, .int 0, .int 0, .int 0, .int 0, .int 0, .int 0, .int 0, .ref q7, .int 0, .int 0]))]) [0] (by decide) rfl
  have hP9 := hP.sub (ws' := [(h0, .inr (13, [.int 0, .int 0, .int 0, .int 0, .int 0, .int 0, .int 0, .int 0, .int 0, .int 0, .int 0, .int 0, .int 0, .int 0, .int 0, .int 0, .int 0, .int 0, .int 0, .ref q1, .ref q3, .ref q5, .int 0, .int 0, .int 0, .int 0, .int 0, .int 0, .int 0, .ref q7, .int 0, .int 0]))]) [0] rfl
  have hD9 := hD.sub (ws' := [(h0, .inr (13, [.int 0, .int 0, .int 0, .int 0, .int 0, .int 0, .int 0, .int 0, .int 0, .int 0, .int 0, .int 0, .int 0, .int 0, .int 0, .int 0, .int 0, .int 0, .int 0, .ref q1, .ref q3, .ref q5, .int 0, .int 0, .int 0, .int 0, .int 0, .int 0, .int 0, .ref q7, .int 0, .int 0]))]) [0] (by decide) rfl
  have hK9 := hK.sub (tys' := []) [] rfl
  refine W.widen (k := 4) (n := 10240) (Nat.le_of_ble_eq_true rfl) (Nat.le_of_ble_eq_true rfl) ?_
  exact W.vret hx hb hr (fun t ht hW => ⟨⟨(), rfl, trivial, q1, q3, q5, q7, by rw [ht]; exact hP9, va_K.moved hW.alike hK9, hD9⟩, hS.F ht⟩) hS.2.2 d_Pe_init_40
