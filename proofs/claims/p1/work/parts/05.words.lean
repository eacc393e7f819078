/-! Which words the rows behind use, by their places. -/
theorem tw_2 : (Jvm.Cond.initialized "UnikernelHttp$Neighbours") ∈ lw_tbl := ux_in 2 ux_t1 rfl
theorem tw_3 : (Jvm.Cond.initialized "UnikernelHttp$Wire") ∈ lw_tbl := ux_in 3 ux_t1 rfl
theorem tw_4 : (Jvm.Cond.initialized "UnikernelHttp$Gatherings") ∈ lw_tbl := ux_in 4 ux_t1 rfl
theorem tw_5 : (Jvm.Cond.initialized "UnikernelHttp$Gathering") ∈ lw_tbl := ux_in 5 ux_t1 rfl
theorem tw_6 : (Jvm.Cond.initialized "UnikernelHttp$Segment") ∈ lw_tbl := ux_in 6 ux_t1 rfl
theorem tw_7 : (Jvm.Cond.initialized "UnikernelHttp$Tcp") ∈ lw_tbl := ux_in 7 ux_t1 rfl
theorem tw_8 : (Jvm.Cond.initialized "UnikernelHttp$Connection") ∈ lw_tbl := ux_in 8 ux_t1 rfl
theorem tw_9 : (Jvm.Cond.initialized "UnikernelHttp$Inbox") ∈ lw_tbl := ux_in 9 ux_t1 rfl
theorem tw_10 : (Jvm.Cond.initialized "UnikernelHttp$Outbox") ∈ lw_tbl := ux_in 10 ux_t1 rfl
theorem tw_11 : (Jvm.Cond.initialized "UnikernelHttp$Store") ∈ lw_tbl := ux_in 11 ux_t1 rfl
theorem tw_12 : (Jvm.Cond.initialized "UnikernelHttp$Http") ∈ lw_tbl := ux_in 12 ux_t1 rfl
theorem tw_14 : (Jvm.Cond.initialized "UnikernelHttpModel$Peer") ∈ lw_tbl := ux_in 14 ux_t1 rfl
theorem tw_39 : (Jvm.Cond.methodLink "UnikernelHttp" (5 : Nat) ({ cls := "java/lang/Object", name := "<init>", desc := "()V" } : Jvm.MethodName)) ∈ lw_tbl := ux_in 39 ux_t1 rfl
theorem tw_40 : (Jvm.Cond.instanceMethod ({ cls := "java/lang/Object", name := "<init>", desc := "()V" } : Jvm.MethodName)) ∈ lw_tbl := ux_in 40 ux_t1 rfl
theorem tw_41 : (Jvm.Cond.code ({ cls := "java/lang/Object", name := "<init>", desc := "()V" } : Jvm.MethodName) object_method_1_code (1 : Nat) (Option.none : Option Jvm.ClassFile.FieldType)) ∈ lw_tbl := ux_in 41 ux_t1 rfl
theorem tw_42 : (Jvm.Cond.classLink "UnikernelHttp" (15 : Nat) "UnikernelHttp$Neighbours") ∈ lw_tbl := ux_in 42 ux_t1 rfl
theorem tw_43 : (Jvm.Cond.instantiable "UnikernelHttp$Neighbours" (5 : Nat)) ∈ lw_tbl := ux_in 43 ux_t1 rfl
theorem tw_44 : (Jvm.Cond.methodLinkNest "UnikernelHttp" (17 : Nat) ({ cls := "UnikernelHttp$Neighbours", name := "<init>", desc := "()V" } : Jvm.MethodName) "UnikernelHttp") ∈ lw_tbl := ux_in 44 ux_t1 rfl
theorem tw_45 : (Jvm.Cond.instanceMethod ({ cls := "UnikernelHttp$Neighbours", name := "<init>", desc := "()V" } : Jvm.MethodName)) ∈ lw_tbl := ux_in 45 ux_t1 rfl
theorem tw_46 : (Jvm.Cond.code ({ cls := "UnikernelHttp$Neighbours", name := "<init>", desc := "()V" } : Jvm.MethodName) prog_7_method_1_code (1 : Nat) (Option.none : Option Jvm.ClassFile.FieldType)) ∈ lw_tbl := ux_in 46 ux_t1 rfl
theorem tw_47 : (Jvm.Cond.methodLink "UnikernelHttp$Neighbours" (3 : Nat) ({ cls := "java/lang/Object", name := "<init>", desc := "()V" } : Jvm.MethodName)) ∈ lw_tbl := ux_in 47 ux_t1 rfl
theorem tw_48 : (Jvm.Cond.fieldLink "UnikernelHttp$Neighbours" (9 : Nat) "UnikernelHttp$Neighbours" "addresses" "[I") ∈ lw_tbl := ux_in 48 ux_t1 rfl
theorem tw_49 : (Jvm.Cond.fieldLink "UnikernelHttp$Neighbours" (15 : Nat) "UnikernelHttp$Neighbours" "hardware" "[J") ∈ lw_tbl := ux_in 49 ux_t1 rfl
theorem tw_51 : (Jvm.Cond.fieldLink "UnikernelHttp$Neighbours" (19 : Nat) "UnikernelHttp$Neighbours" "heard" "[I") ∈ lw_tbl := ux_in 51 ux_t1 rfl
theorem tw_55 : (Jvm.Cond.laysFinal "UnikernelHttp$Neighbours" "UnikernelHttp$Neighbours" "addresses" "[I") ∈ lw_tbl := ux_in 55 ux_t1 rfl
theorem tw_57 : (Jvm.Cond.laysFinal "UnikernelHttp$Neighbours" "UnikernelHttp$Neighbours" "hardware" "[J") ∈ lw_tbl := ux_in 57 ux_t1 rfl
theorem tw_59 : (Jvm.Cond.laysFinal "UnikernelHttp$Neighbours" "UnikernelHttp$Neighbours" "heard" "[I") ∈ lw_tbl := ux_in 59 ux_t1 rfl
theorem tw_61 : (Jvm.Cond.lays "UnikernelHttp$Neighbours" "UnikernelHttp$Neighbours" "held" "I") ∈ lw_tbl := ux_in 61 ux_t1 rfl
theorem tw_63 : (Jvm.Cond.lays "UnikernelHttp$Neighbours" "UnikernelHttp$Neighbours" "hearings" "I") ∈ lw_tbl := ux_in 63 ux_t1 rfl
theorem tw_66 : (Jvm.Cond.arrayClass Jvm.ClassFile.FieldType.byte) ∈ lw_tbl := ux_in 66 ux_t1 rfl
theorem tw_67 : (Jvm.Cond.arrayClass Jvm.ClassFile.FieldType.int) ∈ lw_tbl := ux_in 67 ux_t1 rfl
theorem tw_68 : (Jvm.Cond.arrayClass Jvm.ClassFile.FieldType.long) ∈ lw_tbl := ux_in 68 ux_t1 rfl
theorem tw_69 : (Jvm.Cond.classLink "UnikernelHttp" (22 : Nat) "UnikernelHttp$Wire") ∈ lw_tbl := ux_in 69 ux_t1 rfl
theorem tw_70 : (Jvm.Cond.instantiable "UnikernelHttp$Wire" (5 : Nat)) ∈ lw_tbl := ux_in 70 ux_t1 rfl
theorem tw_71 : (Jvm.Cond.methodLinkNest "UnikernelHttp" (24 : Nat) ({ cls := "UnikernelHttp$Wire", name := "<init>", desc := "(LUnikernelHttp$Neighbours;)V" } : Jvm.MethodName) "UnikernelHttp") ∈ lw_tbl := ux_in 71 ux_t1 rfl
theorem tw_72 : (Jvm.Cond.instanceMethod ({ cls := "UnikernelHttp$Wire", name := "<init>", desc := "(LUnikernelHttp$Neighbours;)V" } : Jvm.MethodName)) ∈ lw_tbl := ux_in 72 ux_t1 rfl
theorem tw_73 : (Jvm.Cond.code ({ cls := "UnikernelHttp$Wire", name := "<init>", desc := "(LUnikernelHttp$Neighbours;)V" } : Jvm.MethodName) prog_12_method_1_code (2 : Nat) (Option.none : Option Jvm.ClassFile.FieldType)) ∈ lw_tbl := ux_in 73 ux_t1 rfl
theorem tw_74 : (Jvm.Cond.methodLink "UnikernelHttp$Wire" (3 : Nat) ({ cls := "java/lang/Object", name := "<init>", desc := "()V" } : Jvm.MethodName)) ∈ lw_tbl := ux_in 74 ux_t1 rfl
theorem tw_75 : (Jvm.Cond.constant "UnikernelHttp$Wire" (9 : Nat) (97152 : Int32)) ∈ lw_tbl := ux_in 75 ux_t1 rfl
theorem tw_76 : (Jvm.Cond.fieldLink "UnikernelHttp$Wire" (20 : Nat) "UnikernelHttp$Wire" "neighbours" "LUnikernelHttp$Neighbours;") ∈ lw_tbl := ux_in 76 ux_t1 rfl
theorem tw_77 : (Jvm.Cond.fieldLink "UnikernelHttp$Wire" (10 : Nat) "UnikernelHttp$Wire" "frames" "[B") ∈ lw_tbl := ux_in 77 ux_t1 rfl
theorem tw_78 : (Jvm.Cond.fieldLink "UnikernelHttp$Wire" (16 : Nat) "UnikernelHttp$Wire" "sizes" "[I") ∈ lw_tbl := ux_in 78 ux_t1 rfl
theorem tw_84 : (Jvm.Cond.laysFinal "UnikernelHttp$Wire" "UnikernelHttp$Wire" "neighbours" "LUnikernelHttp$Neighbours;") ∈ lw_tbl := ux_in 84 ux_t1 rfl
theorem tw_86 : (Jvm.Cond.laysFinal "UnikernelHttp$Wire" "UnikernelHttp$Wire" "frames" "[B") ∈ lw_tbl := ux_in 86 ux_t1 rfl
theorem tw_88 : (Jvm.Cond.laysFinal "UnikernelHttp$Wire" "UnikernelHttp$Wire" "sizes" "[I") ∈ lw_tbl := ux_in 88 ux_t1 rfl
theorem tw_90 : (Jvm.Cond.lays "UnikernelHttp$Wire" "UnikernelHttp$Wire" "sent" "I") ∈ lw_tbl := ux_in 90 ux_t1 rfl
theorem tw_92 : (Jvm.Cond.lays "UnikernelHttp$Wire" "UnikernelHttp$Wire" "made" "I") ∈ lw_tbl := ux_in 92 ux_t1 rfl
theorem tw_95 : (Jvm.Cond.classLink "UnikernelHttp" (31 : Nat) "UnikernelHttp$Gatherings") ∈ lw_tbl := ux_in 95 ux_t1 rfl
theorem tw_96 : (Jvm.Cond.instantiable "UnikernelHttp$Gatherings" (2 : Nat)) ∈ lw_tbl := ux_in 96 ux_t1 rfl
theorem tw_97 : (Jvm.Cond.methodLinkNest "UnikernelHttp" (33 : Nat) ({ cls := "UnikernelHttp$Gatherings", name := "<init>", desc := "()V" } : Jvm.MethodName) "UnikernelHttp") ∈ lw_tbl := ux_in 97 ux_t1 rfl
theorem tw_98 : (Jvm.Cond.instanceMethod ({ cls := "UnikernelHttp$Gatherings", name := "<init>", desc := "()V" } : Jvm.MethodName)) ∈ lw_tbl := ux_in 98 ux_t1 rfl
theorem tw_99 : (Jvm.Cond.code ({ cls := "UnikernelHttp$Gatherings", name := "<init>", desc := "()V" } : Jvm.MethodName) prog_4_method_1_code (2 : Nat) (Option.none : Option Jvm.ClassFile.FieldType)) ∈ lw_tbl := ux_in 99 ux_t1 rfl
theorem tw_100 : (Jvm.Cond.methodLink "UnikernelHttp$Gatherings" (3 : Nat) ({ cls := "java/lang/Object", name := "<init>", desc := "()V" } : Jvm.MethodName)) ∈ lw_tbl := ux_in 100 ux_t1 rfl
theorem tw_101 : (Jvm.Cond.classLink "UnikernelHttp$Gatherings" (9 : Nat) "UnikernelHttp$Gathering") ∈ lw_tbl := ux_in 101 ux_t1 rfl
theorem tw_102 : (Jvm.Cond.arrayOver (Jvm.ClassFile.FieldType.object "UnikernelHttp$Gathering")) ∈ lw_tbl := ux_in 102 ux_t1 rfl
theorem tw_103 : (Jvm.Cond.instantiable "UnikernelHttp$Gathering" (9 : Nat)) ∈ lw_tbl := ux_in 103 ux_t1 rfl
theorem tw_104 : (Jvm.Cond.methodLinkNest "UnikernelHttp$Gatherings" (17 : Nat) ({ cls := "UnikernelHttp$Gathering", name := "<init>", desc := "()V" } : Jvm.MethodName) "UnikernelHttp") ∈ lw_tbl := ux_in 104 ux_t1 rfl
theorem tw_105 : (Jvm.Cond.instanceMethod ({ cls := "UnikernelHttp$Gathering", name := "<init>", desc := "()V" } : Jvm.MethodName)) ∈ lw_tbl := ux_in 105 ux_t1 rfl
theorem tw_106 : (Jvm.Cond.code ({ cls := "UnikernelHttp$Gathering", name := "<init>", desc := "()V" } : Jvm.MethodName) prog_3_method_1_code (1 : Nat) (Option.none : Option Jvm.ClassFile.FieldType)) ∈ lw_tbl := ux_in 106 ux_t1 rfl
theorem tw_107 : (Jvm.Cond.methodLink "UnikernelHttp$Gathering" (3 : Nat) ({ cls := "java/lang/Object", name := "<init>", desc := "()V" } : Jvm.MethodName)) ∈ lw_tbl := ux_in 107 ux_t1 rfl
theorem tw_108 : (Jvm.Cond.fieldLink "UnikernelHttp$Gathering" (9 : Nat) "UnikernelHttp$Gathering" "content" "[B") ∈ lw_tbl := ux_in 108 ux_t1 rfl
theorem tw_110 : (Jvm.Cond.fieldLink "UnikernelHttp$Gathering" (15 : Nat) "UnikernelHttp$Gathering" "there" "[B") ∈ lw_tbl := ux_in 110 ux_t1 rfl
theorem tw_123 : (Jvm.Cond.laysFinal "UnikernelHttp$Gathering" "UnikernelHttp$Gathering" "content" "[B") ∈ lw_tbl := ux_in 123 ux_t1 rfl
theorem tw_125 : (Jvm.Cond.laysFinal "UnikernelHttp$Gathering" "UnikernelHttp$Gathering" "there" "[B") ∈ lw_tbl := ux_in 125 ux_t1 rfl
theorem tw_127 : (Jvm.Cond.lays "UnikernelHttp$Gathering" "UnikernelHttp$Gathering" "source" "I") ∈ lw_tbl := ux_in 127 ux_t1 rfl
theorem tw_129 : (Jvm.Cond.lays "UnikernelHttp$Gathering" "UnikernelHttp$Gathering" "number" "I") ∈ lw_tbl := ux_in 129 ux_t1 rfl
theorem tw_131 : (Jvm.Cond.lays "UnikernelHttp$Gathering" "UnikernelHttp$Gathering" "protocol" "I") ∈ lw_tbl := ux_in 131 ux_t1 rfl
theorem tw_133 : (Jvm.Cond.lays "UnikernelHttp$Gathering" "UnikernelHttp$Gathering" "begun" "I") ∈ lw_tbl := ux_in 133 ux_t1 rfl
theorem tw_135 : (Jvm.Cond.lays "UnikernelHttp$Gathering" "UnikernelHttp$Gathering" "told" "I") ∈ lw_tbl := ux_in 135 ux_t1 rfl
theorem tw_137 : (Jvm.Cond.lays "UnikernelHttp$Gathering" "UnikernelHttp$Gathering" "farthest" "I") ∈ lw_tbl := ux_in 137 ux_t1 rfl
theorem tw_139 : (Jvm.Cond.lays "UnikernelHttp$Gathering" "UnikernelHttp$Gathering" "filled" "I") ∈ lw_tbl := ux_in 139 ux_t1 rfl
theorem tw_142 : (Jvm.Cond.fieldLink "UnikernelHttp$Gatherings" (11 : Nat) "UnikernelHttp$Gatherings" "list" "[LUnikernelHttp$Gathering;") ∈ lw_tbl := ux_in 142 ux_t1 rfl
theorem tw_145 : (Jvm.Cond.laysFinal "UnikernelHttp$Gatherings" "UnikernelHttp$Gatherings" "list" "[LUnikernelHttp$Gathering;") ∈ lw_tbl := ux_in 145 ux_t1 rfl
theorem tw_147 : (Jvm.Cond.lays "UnikernelHttp$Gatherings" "UnikernelHttp$Gatherings" "held" "I") ∈ lw_tbl := ux_in 147 ux_t1 rfl
theorem tw_150 : (Jvm.Cond.classLink "UnikernelHttp" (38 : Nat) "UnikernelHttp$Segment") ∈ lw_tbl := ux_in 150 ux_t1 rfl
theorem tw_151 : (Jvm.Cond.instantiable "UnikernelHttp$Segment" (12 : Nat)) ∈ lw_tbl := ux_in 151 ux_t1 rfl
theorem tw_152 : (Jvm.Cond.methodLinkNest "UnikernelHttp" (40 : Nat) ({ cls := "UnikernelHttp$Segment", name := "<init>", desc := "()V" } : Jvm.MethodName) "UnikernelHttp") ∈ lw_tbl := ux_in 152 ux_t1 rfl
theorem tw_153 : (Jvm.Cond.instanceMethod ({ cls := "UnikernelHttp$Segment", name := "<init>", desc := "()V" } : Jvm.MethodName)) ∈ lw_tbl := ux_in 153 ux_t1 rfl
theorem tw_154 : (Jvm.Cond.code ({ cls := "UnikernelHttp$Segment", name := "<init>", desc := "()V" } : Jvm.MethodName) prog_9_method_1_code (1 : Nat) (Option.none : Option Jvm.ClassFile.FieldType)) ∈ lw_tbl := ux_in 154 ux_t1 rfl
theorem tw_155 : (Jvm.Cond.methodLink "UnikernelHttp$Segment" (3 : Nat) ({ cls := "java/lang/Object", name := "<init>", desc := "()V" } : Jvm.MethodName)) ∈ lw_tbl := ux_in 155 ux_t1 rfl
theorem tw_156 : (Jvm.Cond.fieldLink "UnikernelHttp$Segment" (9 : Nat) "UnikernelHttp$Segment" "from" "[B") ∈ lw_tbl := ux_in 156 ux_t1 rfl
theorem tw_189 : (Jvm.Cond.lays "UnikernelHttp$Segment" "UnikernelHttp$Segment" "from" "[B") ∈ lw_tbl := ux_in 189 ux_t1 rfl
theorem tw_191 : (Jvm.Cond.lays "UnikernelHttp$Segment" "UnikernelHttp$Segment" "dataAt" "I") ∈ lw_tbl := ux_in 191 ux_t1 rfl
theorem tw_193 : (Jvm.Cond.lays "UnikernelHttp$Segment" "UnikernelHttp$Segment" "dataLength" "I") ∈ lw_tbl := ux_in 193 ux_t1 rfl
theorem tw_195 : (Jvm.Cond.lays "UnikernelHttp$Segment" "UnikernelHttp$Segment" "address" "I") ∈ lw_tbl := ux_in 195 ux_t1 rfl
theorem tw_197 : (Jvm.Cond.lays "UnikernelHttp$Segment" "UnikernelHttp$Segment" "port" "I") ∈ lw_tbl := ux_in 197 ux_t1 rfl
theorem tw_199 : (Jvm.Cond.lays "UnikernelHttp$Segment" "UnikernelHttp$Segment" "toPort" "I") ∈ lw_tbl := ux_in 199 ux_t1 rfl
theorem tw_201 : (Jvm.Cond.lays "UnikernelHttp$Segment" "UnikernelHttp$Segment" "number" "I") ∈ lw_tbl := ux_in 201 ux_t1 rfl
theorem tw_203 : (Jvm.Cond.lays "UnikernelHttp$Segment" "UnikernelHttp$Segment" "acknowledgement" "I") ∈ lw_tbl := ux_in 203 ux_t1 rfl
theorem tw_205 : (Jvm.Cond.lays "UnikernelHttp$Segment" "UnikernelHttp$Segment" "flags" "I") ∈ lw_tbl := ux_in 205 ux_t1 rfl
theorem tw_207 : (Jvm.Cond.lays "UnikernelHttp$Segment" "UnikernelHttp$Segment" "window" "I") ∈ lw_tbl := ux_in 207 ux_t1 rfl
theorem tw_209 : (Jvm.Cond.lays "UnikernelHttp$Segment" "UnikernelHttp$Segment" "length" "I") ∈ lw_tbl := ux_in 209 ux_t1 rfl
theorem tw_211 : (Jvm.Cond.lays "UnikernelHttp$Segment" "UnikernelHttp$Segment" "mss" "I") ∈ lw_tbl := ux_in 211 ux_t1 rfl
theorem tw_214 : (Jvm.Cond.classLink "UnikernelHttp" (45 : Nat) "UnikernelHttp$Tcp") ∈ lw_tbl := ux_in 214 ux_t1 rfl
theorem tw_215 : (Jvm.Cond.instantiable "UnikernelHttp$Tcp" (5 : Nat)) ∈ lw_tbl := ux_in 215 ux_t1 rfl
theorem tw_216 : (Jvm.Cond.methodLinkNest "UnikernelHttp" (47 : Nat) ({ cls := "UnikernelHttp$Tcp", name := "<init>", desc := "(LUnikernelHttp$Wire;)V" } : Jvm.MethodName) "UnikernelHttp") ∈ lw_tbl := ux_in 216 ux_t1 rfl
theorem tw_217 : (Jvm.Cond.instanceMethod ({ cls := "UnikernelHttp$Tcp", name := "<init>", desc := "(LUnikernelHttp$Wire;)V" } : Jvm.MethodName)) ∈ lw_tbl := ux_in 217 ux_t1 rfl
theorem tw_218 : (Jvm.Cond.code ({ cls := "UnikernelHttp$Tcp", name := "<init>", desc := "(LUnikernelHttp$Wire;)V" } : Jvm.MethodName) prog_11_method_1_code (3 : Nat) (Option.none : Option Jvm.ClassFile.FieldType)) ∈ lw_tbl := ux_in 218 ux_t1 rfl
theorem tw_219 : (Jvm.Cond.methodLink "UnikernelHttp$Tcp" (3 : Nat) ({ cls := "java/lang/Object", name := "<init>", desc := "()V" } : Jvm.MethodName)) ∈ lw_tbl := ux_in 219 ux_t1 rfl
theorem tw_220 : (Jvm.Cond.classLink "UnikernelHttp$Tcp" (9 : Nat) "UnikernelHttp$Connection") ∈ lw_tbl := ux_in 220 ux_t1 rfl
theorem tw_221 : (Jvm.Cond.arrayOver (Jvm.ClassFile.FieldType.object "UnikernelHttp$Connection")) ∈ lw_tbl := ux_in 221 ux_t1 rfl
theorem tw_222 : (Jvm.Cond.instantiable "UnikernelHttp$Connection" (17 : Nat)) ∈ lw_tbl := ux_in 222 ux_t1 rfl
theorem tw_223 : (Jvm.Cond.methodLinkNest "UnikernelHttp$Tcp" (25 : Nat) ({ cls := "UnikernelHttp$Connection", name := "<init>", desc := "()V" } : Jvm.MethodName) "UnikernelHttp") ∈ lw_tbl := ux_in 223 ux_t1 rfl
theorem tw_224 : (Jvm.Cond.instanceMethod ({ cls := "UnikernelHttp$Connection", name := "<init>", desc := "()V" } : Jvm.MethodName)) ∈ lw_tbl := ux_in 224 ux_t1 rfl
theorem tw_225 : (Jvm.Cond.code ({ cls := "UnikernelHttp$Connection", name := "<init>", desc := "()V" } : Jvm.MethodName) prog_2_method_1_code (1 : Nat) (Option.none : Option Jvm.ClassFile.FieldType)) ∈ lw_tbl := ux_in 225 ux_t1 rfl
theorem tw_226 : (Jvm.Cond.methodLink "UnikernelHttp$Connection" (3 : Nat) ({ cls := "java/lang/Object", name := "<init>", desc := "()V" } : Jvm.MethodName)) ∈ lw_tbl := ux_in 226 ux_t1 rfl
theorem tw_227 : (Jvm.Cond.classLink "UnikernelHttp$Connection" (9 : Nat) "UnikernelHttp$Inbox") ∈ lw_tbl := ux_in 227 ux_t1 rfl
theorem tw_228 : (Jvm.Cond.instantiable "UnikernelHttp$Inbox" (7 : Nat)) ∈ lw_tbl := ux_in 228 ux_t1 rfl
theorem tw_229 : (Jvm.Cond.methodLinkNest "UnikernelHttp$Connection" (11 : Nat) ({ cls := "UnikernelHttp$Inbox", name := "<init>", desc := "()V" } : Jvm.MethodName) "UnikernelHttp") ∈ lw_tbl := ux_in 229 ux_t1 rfl
theorem tw_230 : (Jvm.Cond.instanceMethod ({ cls := "UnikernelHttp$Inbox", name := "<init>", desc := "()V" } : Jvm.MethodName)) ∈ lw_tbl := ux_in 230 ux_t1 rfl
theorem tw_231 : (Jvm.Cond.code ({ cls := "UnikernelHttp$Inbox", name := "<init>", desc := "()V" } : Jvm.MethodName) prog_6_method_1_code (1 : Nat) (Option.none : Option Jvm.ClassFile.FieldType)) ∈ lw_tbl := ux_in 231 ux_t1 rfl
theorem tw_232 : (Jvm.Cond.methodLink "UnikernelHttp$Inbox" (3 : Nat) ({ cls := "java/lang/Object", name := "<init>", desc := "()V" } : Jvm.MethodName)) ∈ lw_tbl := ux_in 232 ux_t1 rfl
theorem tw_233 : (Jvm.Cond.fieldLink "UnikernelHttp$Inbox" (9 : Nat) "UnikernelHttp$Inbox" "content" "[B") ∈ lw_tbl := ux_in 233 ux_t1 rfl
theorem tw_235 : (Jvm.Cond.fieldLink "UnikernelHttp$Inbox" (15 : Nat) "UnikernelHttp$Inbox" "there" "[B") ∈ lw_tbl := ux_in 235 ux_t1 rfl
theorem tw_247 : (Jvm.Cond.laysFinal "UnikernelHttp$Inbox" "UnikernelHttp$Inbox" "content" "[B") ∈ lw_tbl := ux_in 7 ux_t2 rfl
theorem tw_249 : (Jvm.Cond.laysFinal "UnikernelHttp$Inbox" "UnikernelHttp$Inbox" "there" "[B") ∈ lw_tbl := ux_in 9 ux_t2 rfl
theorem tw_251 : (Jvm.Cond.lays "UnikernelHttp$Inbox" "UnikernelHttp$Inbox" "length" "I") ∈ lw_tbl := ux_in 11 ux_t2 rfl
theorem tw_253 : (Jvm.Cond.lays "UnikernelHttp$Inbox" "UnikernelHttp$Inbox" "next" "I") ∈ lw_tbl := ux_in 13 ux_t2 rfl
theorem tw_255 : (Jvm.Cond.lays "UnikernelHttp$Inbox" "UnikernelHttp$Inbox" "finTold" "Z") ∈ lw_tbl := ux_in 15 ux_t2 rfl
theorem tw_257 : (Jvm.Cond.lays "UnikernelHttp$Inbox" "UnikernelHttp$Inbox" "finPlace" "I") ∈ lw_tbl := ux_in 17 ux_t2 rfl
theorem tw_259 : (Jvm.Cond.lays "UnikernelHttp$Inbox" "UnikernelHttp$Inbox" "finReached" "Z") ∈ lw_tbl := ux_in 19 ux_t2 rfl
theorem tw_262 : (Jvm.Cond.classLink "UnikernelHttp$Connection" (18 : Nat) "UnikernelHttp$Outbox") ∈ lw_tbl := ux_in 22 ux_t2 rfl
theorem tw_263 : (Jvm.Cond.instantiable "UnikernelHttp$Outbox" (5 : Nat)) ∈ lw_tbl := ux_in 23 ux_t2 rfl
theorem tw_264 : (Jvm.Cond.methodLinkNest "UnikernelHttp$Connection" (20 : Nat) ({ cls := "UnikernelHttp$Outbox", name := "<init>", desc := "()V" } : Jvm.MethodName) "UnikernelHttp") ∈ lw_tbl := ux_in 24 ux_t2 rfl
theorem tw_265 : (Jvm.Cond.instanceMethod ({ cls := "UnikernelHttp$Outbox", name := "<init>", desc := "()V" } : Jvm.MethodName)) ∈ lw_tbl := ux_in 25 ux_t2 rfl
theorem tw_266 : (Jvm.Cond.code ({ cls := "UnikernelHttp$Outbox", name := "<init>", desc := "()V" } : Jvm.MethodName) prog_8_method_1_code (1 : Nat) (Option.none : Option Jvm.ClassFile.FieldType)) ∈ lw_tbl := ux_in 26 ux_t2 rfl
theorem tw_267 : (Jvm.Cond.methodLink "UnikernelHttp$Outbox" (3 : Nat) ({ cls := "java/lang/Object", name := "<init>", desc := "()V" } : Jvm.MethodName)) ∈ lw_tbl := ux_in 27 ux_t2 rfl
theorem tw_268 : (Jvm.Cond.fieldLink "UnikernelHttp$Outbox" (9 : Nat) "UnikernelHttp$Outbox" "content" "[B") ∈ lw_tbl := ux_in 28 ux_t2 rfl
theorem tw_283 : (Jvm.Cond.laysFinal "UnikernelHttp$Outbox" "UnikernelHttp$Outbox" "content" "[B") ∈ lw_tbl := ux_in 43 ux_t2 rfl
theorem tw_285 : (Jvm.Cond.lays "UnikernelHttp$Outbox" "UnikernelHttp$Outbox" "length" "I") ∈ lw_tbl := ux_in 45 ux_t2 rfl
theorem tw_287 : (Jvm.Cond.lays "UnikernelHttp$Outbox" "UnikernelHttp$Outbox" "unacked" "I") ∈ lw_tbl := ux_in 47 ux_t2 rfl
theorem tw_289 : (Jvm.Cond.lays "UnikernelHttp$Outbox" "UnikernelHttp$Outbox" "sendNext" "I") ∈ lw_tbl := ux_in 49 ux_t2 rfl
theorem tw_291 : (Jvm.Cond.lays "UnikernelHttp$Outbox" "UnikernelHttp$Outbox" "finSent" "Z") ∈ lw_tbl := ux_in 51 ux_t2 rfl
theorem tw_294 : (Jvm.Cond.fieldLink "UnikernelHttp$Connection" (12 : Nat) "UnikernelHttp$Connection" "inbox" "LUnikernelHttp$Inbox;") ∈ lw_tbl := ux_in 54 ux_t2 rfl
theorem tw_298 : (Jvm.Cond.fieldLink "UnikernelHttp$Connection" (21 : Nat) "UnikernelHttp$Connection" "outbox" "LUnikernelHttp$Outbox;") ∈ lw_tbl := ux_in 58 ux_t2 rfl
theorem tw_335 : (Jvm.Cond.laysFinal "UnikernelHttp$Connection" "UnikernelHttp$Connection" "inbox" "LUnikernelHttp$Inbox;") ∈ lw_tbl := ux_in 95 ux_t2 rfl
theorem tw_337 : (Jvm.Cond.laysFinal "UnikernelHttp$Connection" "UnikernelHttp$Connection" "outbox" "LUnikernelHttp$Outbox;") ∈ lw_tbl := ux_in 97 ux_t2 rfl
theorem tw_339 : (Jvm.Cond.lays "UnikernelHttp$Connection" "UnikernelHttp$Connection" "address" "I") ∈ lw_tbl := ux_in 99 ux_t2 rfl
theorem tw_341 : (Jvm.Cond.lays "UnikernelHttp$Connection" "UnikernelHttp$Connection" "port" "I") ∈ lw_tbl := ux_in 101 ux_t2 rfl
theorem tw_343 : (Jvm.Cond.lays "UnikernelHttp$Connection" "UnikernelHttp$Connection" "state" "I") ∈ lw_tbl := ux_in 103 ux_t2 rfl
theorem tw_345 : (Jvm.Cond.lays "UnikernelHttp$Connection" "UnikernelHttp$Connection" "window" "I") ∈ lw_tbl := ux_in 105 ux_t2 rfl
theorem tw_347 : (Jvm.Cond.lays "UnikernelHttp$Connection" "UnikernelHttp$Connection" "windowNumber" "I") ∈ lw_tbl := ux_in 107 ux_t2 rfl
theorem tw_349 : (Jvm.Cond.lays "UnikernelHttp$Connection" "UnikernelHttp$Connection" "windowAcknowledgement" "I") ∈ lw_tbl := ux_in 109 ux_t2 rfl
theorem tw_351 : (Jvm.Cond.lays "UnikernelHttp$Connection" "UnikernelHttp$Connection" "mss" "I") ∈ lw_tbl := ux_in 111 ux_t2 rfl
theorem tw_353 : (Jvm.Cond.lays "UnikernelHttp$Connection" "UnikernelHttp$Connection" "span" "I") ∈ lw_tbl := ux_in 113 ux_t2 rfl
theorem tw_355 : (Jvm.Cond.lays "UnikernelHttp$Connection" "UnikernelHttp$Connection" "limit" "I") ∈ lw_tbl := ux_in 115 ux_t2 rfl
theorem tw_357 : (Jvm.Cond.lays "UnikernelHttp$Connection" "UnikernelHttp$Connection" "doubles" "I") ∈ lw_tbl := ux_in 117 ux_t2 rfl
theorem tw_359 : (Jvm.Cond.lays "UnikernelHttp$Connection" "UnikernelHttp$Connection" "tries" "I") ∈ lw_tbl := ux_in 119 ux_t2 rfl
theorem tw_361 : (Jvm.Cond.lays "UnikernelHttp$Connection" "UnikernelHttp$Connection" "timeout" "I") ∈ lw_tbl := ux_in 121 ux_t2 rfl
theorem tw_363 : (Jvm.Cond.lays "UnikernelHttp$Connection" "UnikernelHttp$Connection" "timer" "I") ∈ lw_tbl := ux_in 123 ux_t2 rfl
theorem tw_365 : (Jvm.Cond.lays "UnikernelHttp$Connection" "UnikernelHttp$Connection" "leavesAt" "I") ∈ lw_tbl := ux_in 125 ux_t2 rfl
theorem tw_367 : (Jvm.Cond.lays "UnikernelHttp$Connection" "UnikernelHttp$Connection" "ends" "Z") ∈ lw_tbl := ux_in 127 ux_t2 rfl
theorem tw_370 : (Jvm.Cond.fieldLink "UnikernelHttp$Tcp" (11 : Nat) "UnikernelHttp$Tcp" "list" "[LUnikernelHttp$Connection;") ∈ lw_tbl := ux_in 130 ux_t2 rfl
theorem tw_371 : (Jvm.Cond.fieldLink "UnikernelHttp$Tcp" (17 : Nat) "UnikernelHttp$Tcp" "body" "[B") ∈ lw_tbl := ux_in 131 ux_t2 rfl
theorem tw_372 : (Jvm.Cond.fieldLink "UnikernelHttp$Tcp" (21 : Nat) "UnikernelHttp$Tcp" "wire" "LUnikernelHttp$Wire;") ∈ lw_tbl := ux_in 132 ux_t2 rfl
theorem tw_377 : (Jvm.Cond.laysFinal "UnikernelHttp$Tcp" "UnikernelHttp$Tcp" "list" "[LUnikernelHttp$Connection;") ∈ lw_tbl := ux_in 137 ux_t2 rfl
theorem tw_379 : (Jvm.Cond.laysFinal "UnikernelHttp$Tcp" "UnikernelHttp$Tcp" "body" "[B") ∈ lw_tbl := ux_in 139 ux_t2 rfl
theorem tw_381 : (Jvm.Cond.laysFinal "UnikernelHttp$Tcp" "UnikernelHttp$Tcp" "wire" "LUnikernelHttp$Wire;") ∈ lw_tbl := ux_in 141 ux_t2 rfl
theorem tw_383 : (Jvm.Cond.lays "UnikernelHttp$Tcp" "UnikernelHttp$Tcp" "held" "I") ∈ lw_tbl := ux_in 143 ux_t2 rfl
theorem tw_385 : (Jvm.Cond.lays "UnikernelHttp$Tcp" "UnikernelHttp$Tcp" "made" "I") ∈ lw_tbl := ux_in 145 ux_t2 rfl
theorem tw_388 : (Jvm.Cond.classLink "UnikernelHttp" (54 : Nat) "UnikernelHttp$Store") ∈ lw_tbl := ux_in 148 ux_t2 rfl
theorem tw_389 : (Jvm.Cond.instantiable "UnikernelHttp$Store" (6 : Nat)) ∈ lw_tbl := ux_in 149 ux_t2 rfl
theorem tw_390 : (Jvm.Cond.methodLinkNest "UnikernelHttp" (56 : Nat) ({ cls := "UnikernelHttp$Store", name := "<init>", desc := "()V" } : Jvm.MethodName) "UnikernelHttp") ∈ lw_tbl := ux_in 150 ux_t2 rfl
theorem tw_391 : (Jvm.Cond.instanceMethod ({ cls := "UnikernelHttp$Store", name := "<init>", desc := "()V" } : Jvm.MethodName)) ∈ lw_tbl := ux_in 151 ux_t2 rfl
theorem tw_392 : (Jvm.Cond.code ({ cls := "UnikernelHttp$Store", name := "<init>", desc := "()V" } : Jvm.MethodName) prog_10_method_1_code (1 : Nat) (Option.none : Option Jvm.ClassFile.FieldType)) ∈ lw_tbl := ux_in 152 ux_t2 rfl
theorem tw_393 : (Jvm.Cond.methodLink "UnikernelHttp$Store" (3 : Nat) ({ cls := "java/lang/Object", name := "<init>", desc := "()V" } : Jvm.MethodName)) ∈ lw_tbl := ux_in 153 ux_t2 rfl
theorem tw_394 : (Jvm.Cond.classLink "UnikernelHttp$Store" (9 : Nat) "[[B") ∈ lw_tbl := ux_in 154 ux_t2 rfl
theorem tw_395 : (Jvm.Cond.arrayOver (Jvm.ClassFile.FieldType.array Jvm.ClassFile.FieldType.byte)) ∈ lw_tbl := ux_in 155 ux_t2 rfl
theorem tw_396 : (Jvm.Cond.fieldLink "UnikernelHttp$Store" (11 : Nat) "UnikernelHttp$Store" "targets" "[[B") ∈ lw_tbl := ux_in 156 ux_t2 rfl
theorem tw_397 : (Jvm.Cond.fieldLink "UnikernelHttp$Store" (16 : Nat) "UnikernelHttp$Store" "targetLengths" "[I") ∈ lw_tbl := ux_in 157 ux_t2 rfl
theorem tw_398 : (Jvm.Cond.fieldLink "UnikernelHttp$Store" (20 : Nat) "UnikernelHttp$Store" "contents" "[[B") ∈ lw_tbl := ux_in 158 ux_t2 rfl
theorem tw_401 : (Jvm.Cond.fieldLink "UnikernelHttp$Store" (23 : Nat) "UnikernelHttp$Store" "lengths" "[I") ∈ lw_tbl := ux_in 161 ux_t2 rfl
theorem tw_404 : (Jvm.Cond.fieldLink "UnikernelHttp$Store" (26 : Nat) "UnikernelHttp$Store" "sums" "[I") ∈ lw_tbl := ux_in 164 ux_t2 rfl
theorem tw_408 : (Jvm.Cond.laysFinal "UnikernelHttp$Store" "UnikernelHttp$Store" "targets" "[[B") ∈ lw_tbl := ux_in 168 ux_t2 rfl
theorem tw_410 : (Jvm.Cond.laysFinal "UnikernelHttp$Store" "UnikernelHttp$Store" "targetLengths" "[I") ∈ lw_tbl := ux_in 170 ux_t2 rfl
theorem tw_412 : (Jvm.Cond.laysFinal "UnikernelHttp$Store" "UnikernelHttp$Store" "contents" "[[B") ∈ lw_tbl := ux_in 172 ux_t2 rfl
theorem tw_414 : (Jvm.Cond.laysFinal "UnikernelHttp$Store" "UnikernelHttp$Store" "lengths" "[I") ∈ lw_tbl := ux_in 174 ux_t2 rfl
theorem tw_416 : (Jvm.Cond.laysFinal "UnikernelHttp$Store" "UnikernelHttp$Store" "sums" "[I") ∈ lw_tbl := ux_in 176 ux_t2 rfl
theorem tw_418 : (Jvm.Cond.lays "UnikernelHttp$Store" "UnikernelHttp$Store" "held" "I") ∈ lw_tbl := ux_in 178 ux_t2 rfl
theorem tw_421 : (Jvm.Cond.classLink "UnikernelHttp" (61 : Nat) "UnikernelHttp$Http") ∈ lw_tbl := ux_in 181 ux_t2 rfl
theorem tw_422 : (Jvm.Cond.instantiable "UnikernelHttp$Http" (5 : Nat)) ∈ lw_tbl := ux_in 182 ux_t2 rfl
theorem tw_423 : (Jvm.Cond.methodLinkNest "UnikernelHttp" (63 : Nat) ({ cls := "UnikernelHttp$Http", name := "<init>", desc := "(LUnikernelHttp$Store;)V" } : Jvm.MethodName) "UnikernelHttp") ∈ lw_tbl := ux_in 183 ux_t2 rfl
theorem tw_424 : (Jvm.Cond.instanceMethod ({ cls := "UnikernelHttp$Http", name := "<init>", desc := "(LUnikernelHttp$Store;)V" } : Jvm.MethodName)) ∈ lw_tbl := ux_in 184 ux_t2 rfl
theorem tw_425 : (Jvm.Cond.code ({ cls := "UnikernelHttp$Http", name := "<init>", desc := "(LUnikernelHttp$Store;)V" } : Jvm.MethodName) prog_5_method_1_code (2 : Nat) (Option.none : Option Jvm.ClassFile.FieldType)) ∈ lw_tbl := ux_in 185 ux_t2 rfl
theorem tw_426 : (Jvm.Cond.methodLink "UnikernelHttp$Http" (3 : Nat) ({ cls := "java/lang/Object", name := "<init>", desc := "()V" } : Jvm.MethodName)) ∈ lw_tbl := ux_in 186 ux_t2 rfl
theorem tw_427 : (Jvm.Cond.fieldLink "UnikernelHttp$Http" (15 : Nat) "UnikernelHttp$Http" "store" "LUnikernelHttp$Store;") ∈ lw_tbl := ux_in 187 ux_t2 rfl
theorem tw_428 : (Jvm.Cond.fieldLink "UnikernelHttp$Http" (9 : Nat) "UnikernelHttp$Http" "answer" "[B") ∈ lw_tbl := ux_in 188 ux_t2 rfl
theorem tw_432 : (Jvm.Cond.laysFinal "UnikernelHttp$Http" "UnikernelHttp$Http" "store" "LUnikernelHttp$Store;") ∈ lw_tbl := ux_in 192 ux_t2 rfl
theorem tw_434 : (Jvm.Cond.laysFinal "UnikernelHttp$Http" "UnikernelHttp$Http" "answer" "[B") ∈ lw_tbl := ux_in 194 ux_t2 rfl
theorem tw_436 : (Jvm.Cond.lays "UnikernelHttp$Http" "UnikernelHttp$Http" "answerLength" "I") ∈ lw_tbl := ux_in 196 ux_t2 rfl
theorem tw_438 : (Jvm.Cond.lays "UnikernelHttp$Http" "UnikernelHttp$Http" "closes" "Z") ∈ lw_tbl := ux_in 198 ux_t2 rfl
theorem tw_440 : (Jvm.Cond.lays "UnikernelHttp$Http" "UnikernelHttp$Http" "found" "I") ∈ lw_tbl := ux_in 200 ux_t2 rfl
theorem tw_443 : (Jvm.Cond.fieldLink "UnikernelHttp" (11 : Nat) "UnikernelHttp" "row" "[B") ∈ lw_tbl := ux_in 203 ux_t2 rfl
theorem tw_446 : (Jvm.Cond.fieldLink "UnikernelHttp" (18 : Nat) "UnikernelHttp" "neighbours" "LUnikernelHttp$Neighbours;") ∈ lw_tbl := ux_in 206 ux_t2 rfl
theorem tw_447 : (Jvm.Cond.fieldLink "UnikernelHttp" (27 : Nat) "UnikernelHttp" "wire" "LUnikernelHttp$Wire;") ∈ lw_tbl := ux_in 207 ux_t2 rfl
theorem tw_448 : (Jvm.Cond.fieldLink "UnikernelHttp" (34 : Nat) "UnikernelHttp" "gatherings" "LUnikernelHttp$Gatherings;") ∈ lw_tbl := ux_in 208 ux_t2 rfl
theorem tw_449 : (Jvm.Cond.fieldLink "UnikernelHttp" (41 : Nat) "UnikernelHttp" "segment" "LUnikernelHttp$Segment;") ∈ lw_tbl := ux_in 209 ux_t2 rfl
theorem tw_450 : (Jvm.Cond.fieldLink "UnikernelHttp" (50 : Nat) "UnikernelHttp" "tcp" "LUnikernelHttp$Tcp;") ∈ lw_tbl := ux_in 210 ux_t2 rfl
theorem tw_451 : (Jvm.Cond.fieldLink "UnikernelHttp" (57 : Nat) "UnikernelHttp" "store" "LUnikernelHttp$Store;") ∈ lw_tbl := ux_in 211 ux_t2 rfl
theorem tw_452 : (Jvm.Cond.fieldLink "UnikernelHttp" (66 : Nat) "UnikernelHttp" "http" "LUnikernelHttp$Http;") ∈ lw_tbl := ux_in 212 ux_t2 rfl
theorem tw_453 : (Jvm.Cond.fieldLink "UnikernelHttp" (70 : Nat) "UnikernelHttp" "echo" "[B") ∈ lw_tbl := ux_in 213 ux_t2 rfl
theorem tw_454 : (Jvm.Cond.fieldLink "UnikernelHttp" (73 : Nat) "UnikernelHttp" "datagram" "[B") ∈ lw_tbl := ux_in 214 ux_t2 rfl
theorem tw_457 : (Jvm.Cond.laysFinal "UnikernelHttp" "UnikernelHttp" "row" "[B") ∈ lw_tbl := ux_in 217 ux_t2 rfl
theorem tw_459 : (Jvm.Cond.lays "UnikernelHttp" "UnikernelHttp" "rowLength" "I") ∈ lw_tbl := ux_in 219 ux_t2 rfl
theorem tw_461 : (Jvm.Cond.lays "UnikernelHttp" "UnikernelHttp" "time" "I") ∈ lw_tbl := ux_in 221 ux_t2 rfl
theorem tw_463 : (Jvm.Cond.laysFinal "UnikernelHttp" "UnikernelHttp" "neighbours" "LUnikernelHttp$Neighbours;") ∈ lw_tbl := ux_in 223 ux_t2 rfl
theorem tw_465 : (Jvm.Cond.laysFinal "UnikernelHttp" "UnikernelHttp" "wire" "LUnikernelHttp$Wire;") ∈ lw_tbl := ux_in 225 ux_t2 rfl
theorem tw_467 : (Jvm.Cond.laysFinal "UnikernelHttp" "UnikernelHttp" "gatherings" "LUnikernelHttp$Gatherings;") ∈ lw_tbl := ux_in 227 ux_t2 rfl
theorem tw_469 : (Jvm.Cond.laysFinal "UnikernelHttp" "UnikernelHttp" "segment" "LUnikernelHttp$Segment;") ∈ lw_tbl := ux_in 229 ux_t2 rfl
theorem tw_471 : (Jvm.Cond.laysFinal "UnikernelHttp" "UnikernelHttp" "tcp" "LUnikernelHttp$Tcp;") ∈ lw_tbl := ux_in 231 ux_t2 rfl
theorem tw_473 : (Jvm.Cond.laysFinal "UnikernelHttp" "UnikernelHttp" "store" "LUnikernelHttp$Store;") ∈ lw_tbl := ux_in 233 ux_t2 rfl
theorem tw_475 : (Jvm.Cond.laysFinal "UnikernelHttp" "UnikernelHttp" "http" "LUnikernelHttp$Http;") ∈ lw_tbl := ux_in 235 ux_t2 rfl
theorem tw_477 : (Jvm.Cond.laysFinal "UnikernelHttp" "UnikernelHttp" "echo" "[B") ∈ lw_tbl := ux_in 237 ux_t2 rfl
theorem tw_479 : (Jvm.Cond.lays "UnikernelHttp" "UnikernelHttp" "datagram" "[B") ∈ lw_tbl := ux_in 239 ux_t2 rfl
theorem tw_481 : (Jvm.Cond.lays "UnikernelHttp" "UnikernelHttp" "datagramAt" "I") ∈ lw_tbl := ux_in 1 ux_t3 rfl
theorem tw_483 : (Jvm.Cond.lays "UnikernelHttp" "UnikernelHttp" "datagramLength" "I") ∈ lw_tbl := ux_in 3 ux_t3 rfl
theorem tw_1483 : (Jvm.Cond.methodLink "UnikernelHttpModel" (1 : Nat) ({ cls := "java/lang/Object", name := "<init>", desc := "()V" } : Jvm.MethodName)) ∈ lw_tbl := ux_in 43 ux_t7 rfl
theorem tw_1484 : (Jvm.Cond.constant "UnikernelHttpModel" (19 : Nat) (102400 : Int32)) ∈ lw_tbl := ux_in 44 ux_t7 rfl
theorem tw_1485 : (Jvm.Cond.constant "UnikernelHttpModel" (65 : Nat) (48000 : Int32)) ∈ lw_tbl := ux_in 45 ux_t7 rfl
theorem tw_1486 : (Jvm.Cond.classLink "UnikernelHttpModel" (78 : Nat) "UnikernelHttpModel$Peer") ∈ lw_tbl := ux_in 46 ux_t7 rfl
theorem tw_1487 : (Jvm.Cond.arrayOver (Jvm.ClassFile.FieldType.object "UnikernelHttpModel$Peer")) ∈ lw_tbl := ux_in 47 ux_t7 rfl
theorem tw_1488 : (Jvm.Cond.instantiable "UnikernelHttpModel$Peer" (32 : Nat)) ∈ lw_tbl := ux_in 48 ux_t7 rfl
theorem tw_1489 : (Jvm.Cond.methodLinkNest "UnikernelHttpModel" (87 : Nat) ({ cls := "UnikernelHttpModel$Peer", name := "<init>", desc := "()V" } : Jvm.MethodName) "UnikernelHttpModel") ∈ lw_tbl := ux_in 49 ux_t7 rfl
theorem tw_1490 : (Jvm.Cond.instanceMethod ({ cls := "UnikernelHttpModel$Peer", name := "<init>", desc := "()V" } : Jvm.MethodName)) ∈ lw_tbl := ux_in 50 ux_t7 rfl
theorem tw_1491 : (Jvm.Cond.code ({ cls := "UnikernelHttpModel$Peer", name := "<init>", desc := "()V" } : Jvm.MethodName) prog_15_method_1_code (1 : Nat) (Option.none : Option Jvm.ClassFile.FieldType)) ∈ lw_tbl := ux_in 51 ux_t7 rfl
theorem tw_1492 : (Jvm.Cond.methodLink "UnikernelHttpModel$Peer" (3 : Nat) ({ cls := "java/lang/Object", name := "<init>", desc := "()V" } : Jvm.MethodName)) ∈ lw_tbl := ux_in 52 ux_t7 rfl
theorem tw_1511 : (Jvm.Cond.fieldLink "UnikernelHttpModel$Peer" (9 : Nat) "UnikernelHttpModel$Peer" "inbox" "[B") ∈ lw_tbl := ux_in 71 ux_t7 rfl
theorem tw_1513 : (Jvm.Cond.fieldLink "UnikernelHttpModel$Peer" (15 : Nat) "UnikernelHttpModel$Peer" "early" "[B") ∈ lw_tbl := ux_in 73 ux_t7 rfl
theorem tw_1515 : (Jvm.Cond.fieldLink "UnikernelHttpModel$Peer" (18 : Nat) "UnikernelHttpModel$Peer" "there" "[Z") ∈ lw_tbl := ux_in 75 ux_t7 rfl
theorem tw_1524 : (Jvm.Cond.fieldLink "UnikernelHttpModel$Peer" (22 : Nat) "UnikernelHttpModel$Peer" "outbox" "[B") ∈ lw_tbl := ux_in 84 ux_t7 rfl
theorem tw_1528 : (Jvm.Cond.lays "UnikernelHttpModel$Peer" "UnikernelHttpModel$Peer" "ip" "I") ∈ lw_tbl := ux_in 88 ux_t7 rfl
theorem tw_1530 : (Jvm.Cond.lays "UnikernelHttpModel$Peer" "UnikernelHttpModel$Peer" "port" "I") ∈ lw_tbl := ux_in 90 ux_t7 rfl
theorem tw_1532 : (Jvm.Cond.lays "UnikernelHttpModel$Peer" "UnikernelHttpModel$Peer" "state" "I") ∈ lw_tbl := ux_in 92 ux_t7 rfl
theorem tw_1534 : (Jvm.Cond.lays "UnikernelHttpModel$Peer" "UnikernelHttpModel$Peer" "next" "I") ∈ lw_tbl := ux_in 94 ux_t7 rfl
theorem tw_1536 : (Jvm.Cond.lays "UnikernelHttpModel$Peer" "UnikernelHttpModel$Peer" "ours" "I") ∈ lw_tbl := ux_in 96 ux_t7 rfl
theorem tw_1538 : (Jvm.Cond.lays "UnikernelHttpModel$Peer" "UnikernelHttpModel$Peer" "unacked" "I") ∈ lw_tbl := ux_in 98 ux_t7 rfl
theorem tw_1540 : (Jvm.Cond.lays "UnikernelHttpModel$Peer" "UnikernelHttpModel$Peer" "toSend" "I") ∈ lw_tbl := ux_in 100 ux_t7 rfl
theorem tw_1542 : (Jvm.Cond.lays "UnikernelHttpModel$Peer" "UnikernelHttpModel$Peer" "window" "I") ∈ lw_tbl := ux_in 102 ux_t7 rfl
theorem tw_1544 : (Jvm.Cond.lays "UnikernelHttpModel$Peer" "UnikernelHttpModel$Peer" "wl1" "I") ∈ lw_tbl := ux_in 104 ux_t7 rfl
theorem tw_1546 : (Jvm.Cond.lays "UnikernelHttpModel$Peer" "UnikernelHttpModel$Peer" "wl2" "I") ∈ lw_tbl := ux_in 106 ux_t7 rfl
theorem tw_1548 : (Jvm.Cond.lays "UnikernelHttpModel$Peer" "UnikernelHttpModel$Peer" "mss" "I") ∈ lw_tbl := ux_in 108 ux_t7 rfl
theorem tw_1550 : (Jvm.Cond.lays "UnikernelHttpModel$Peer" "UnikernelHttpModel$Peer" "span" "I") ∈ lw_tbl := ux_in 110 ux_t7 rfl
theorem tw_1552 : (Jvm.Cond.lays "UnikernelHttpModel$Peer" "UnikernelHttpModel$Peer" "limit" "I") ∈ lw_tbl := ux_in 112 ux_t7 rfl
theorem tw_1554 : (Jvm.Cond.lays "UnikernelHttpModel$Peer" "UnikernelHttpModel$Peer" "doubles" "I") ∈ lw_tbl := ux_in 114 ux_t7 rfl
theorem tw_1556 : (Jvm.Cond.lays "UnikernelHttpModel$Peer" "UnikernelHttpModel$Peer" "tries" "I") ∈ lw_tbl := ux_in 116 ux_t7 rfl
theorem tw_1558 : (Jvm.Cond.lays "UnikernelHttpModel$Peer" "UnikernelHttpModel$Peer" "timeout" "I") ∈ lw_tbl := ux_in 118 ux_t7 rfl
theorem tw_1560 : (Jvm.Cond.lays "UnikernelHttpModel$Peer" "UnikernelHttpModel$Peer" "timer" "I") ∈ lw_tbl := ux_in 120 ux_t7 rfl
theorem tw_1562 : (Jvm.Cond.lays "UnikernelHttpModel$Peer" "UnikernelHttpModel$Peer" "dies" "I") ∈ lw_tbl := ux_in 122 ux_t7 rfl
theorem tw_1564 : (Jvm.Cond.lays "UnikernelHttpModel$Peer" "UnikernelHttpModel$Peer" "order" "I") ∈ lw_tbl := ux_in 124 ux_t7 rfl
theorem tw_1566 : (Jvm.Cond.laysFinal "UnikernelHttpModel$Peer" "UnikernelHttpModel$Peer" "inbox" "[B") ∈ lw_tbl := ux_in 126 ux_t7 rfl
theorem tw_1568 : (Jvm.Cond.laysFinal "UnikernelHttpModel$Peer" "UnikernelHttpModel$Peer" "early" "[B") ∈ lw_tbl := ux_in 128 ux_t7 rfl
theorem tw_1570 : (Jvm.Cond.laysFinal "UnikernelHttpModel$Peer" "UnikernelHttpModel$Peer" "there" "[Z") ∈ lw_tbl := ux_in 130 ux_t7 rfl
theorem tw_1572 : (Jvm.Cond.lays "UnikernelHttpModel$Peer" "UnikernelHttpModel$Peer" "inboxes" "I") ∈ lw_tbl := ux_in 132 ux_t7 rfl
theorem tw_1574 : (Jvm.Cond.lays "UnikernelHttpModel$Peer" "UnikernelHttpModel$Peer" "finAt" "I") ∈ lw_tbl := ux_in 134 ux_t7 rfl
theorem tw_1576 : (Jvm.Cond.lays "UnikernelHttpModel$Peer" "UnikernelHttpModel$Peer" "finTold" "Z") ∈ lw_tbl := ux_in 136 ux_t7 rfl
theorem tw_1578 : (Jvm.Cond.lays "UnikernelHttpModel$Peer" "UnikernelHttpModel$Peer" "finReached" "Z") ∈ lw_tbl := ux_in 138 ux_t7 rfl
theorem tw_1580 : (Jvm.Cond.lays "UnikernelHttpModel$Peer" "UnikernelHttpModel$Peer" "ends" "Z") ∈ lw_tbl := ux_in 140 ux_t7 rfl
theorem tw_1582 : (Jvm.Cond.lays "UnikernelHttpModel$Peer" "UnikernelHttpModel$Peer" "finSent" "Z") ∈ lw_tbl := ux_in 142 ux_t7 rfl
theorem tw_1584 : (Jvm.Cond.lays "UnikernelHttpModel$Peer" "UnikernelHttpModel$Peer" "finAcked" "Z") ∈ lw_tbl := ux_in 144 ux_t7 rfl
theorem tw_1586 : (Jvm.Cond.laysFinal "UnikernelHttpModel$Peer" "UnikernelHttpModel$Peer" "outbox" "[B") ∈ lw_tbl := ux_in 146 ux_t7 rfl
theorem tw_1588 : (Jvm.Cond.lays "UnikernelHttpModel$Peer" "UnikernelHttpModel$Peer" "outboxes" "I") ∈ lw_tbl := ux_in 148 ux_t7 rfl
theorem tw_1590 : (Jvm.Cond.lays "UnikernelHttpModel$Peer" "UnikernelHttpModel$Peer" "sent" "I") ∈ lw_tbl := ux_in 150 ux_t7 rfl
theorem tw_1593 : (Jvm.Cond.arrayClass Jvm.ClassFile.FieldType.boolean) ∈ lw_tbl := ux_in 153 ux_t7 rfl
theorem tw_1594 : (Jvm.Cond.fieldLink "UnikernelHttpModel" (9 : Nat) "UnikernelHttpModel" "row" "[B") ∈ lw_tbl := ux_in 154 ux_t7 rfl
theorem tw_1595 : (Jvm.Cond.fieldLink "UnikernelHttpModel" (13 : Nat) "UnikernelHttpModel" "in" "[B") ∈ lw_tbl := ux_in 155 ux_t7 rfl
theorem tw_1596 : (Jvm.Cond.fieldLink "UnikernelHttpModel" (16 : Nat) "UnikernelHttpModel" "out" "[B") ∈ lw_tbl := ux_in 156 ux_t7 rfl
theorem tw_1602 : (Jvm.Cond.fieldLink "UnikernelHttpModel" (20 : Nat) "UnikernelHttpModel" "kept" "[B") ∈ lw_tbl := ux_in 162 ux_t7 rfl
theorem tw_1603 : (Jvm.Cond.fieldLink "UnikernelHttpModel" (23 : Nat) "UnikernelHttpModel" "keptSize" "[I") ∈ lw_tbl := ux_in 163 ux_t7 rfl
theorem tw_1604 : (Jvm.Cond.fieldLink "UnikernelHttpModel" (27 : Nat) "UnikernelHttpModel" "nIp" "[I") ∈ lw_tbl := ux_in 164 ux_t7 rfl
theorem tw_1605 : (Jvm.Cond.fieldLink "UnikernelHttpModel" (30 : Nat) "UnikernelHttpModel" "nHeard" "[I") ∈ lw_tbl := ux_in 165 ux_t7 rfl
theorem tw_1606 : (Jvm.Cond.fieldLink "UnikernelHttpModel" (33 : Nat) "UnikernelHttpModel" "nHard" "[J") ∈ lw_tbl := ux_in 166 ux_t7 rfl
theorem tw_1609 : (Jvm.Cond.fieldLink "UnikernelHttpModel" (37 : Nat) "UnikernelHttpModel" "gIp" "[I") ∈ lw_tbl := ux_in 169 ux_t7 rfl
theorem tw_1610 : (Jvm.Cond.fieldLink "UnikernelHttpModel" (40 : Nat) "UnikernelHttpModel" "gNumber" "[I") ∈ lw_tbl := ux_in 170 ux_t7 rfl
theorem tw_1611 : (Jvm.Cond.fieldLink "UnikernelHttpModel" (43 : Nat) "UnikernelHttpModel" "gProtocol" "[I") ∈ lw_tbl := ux_in 171 ux_t7 rfl
theorem tw_1612 : (Jvm.Cond.fieldLink "UnikernelHttpModel" (46 : Nat) "UnikernelHttpModel" "gTold" "[I") ∈ lw_tbl := ux_in 172 ux_t7 rfl
theorem tw_1613 : (Jvm.Cond.fieldLink "UnikernelHttpModel" (49 : Nat) "UnikernelHttpModel" "gBegun" "[I") ∈ lw_tbl := ux_in 173 ux_t7 rfl
theorem tw_1614 : (Jvm.Cond.fieldLink "UnikernelHttpModel" (52 : Nat) "UnikernelHttpModel" "gOrder" "[I") ∈ lw_tbl := ux_in 174 ux_t7 rfl
theorem tw_1615 : (Jvm.Cond.fieldLink "UnikernelHttpModel" (55 : Nat) "UnikernelHttpModel" "gBytes" "[B") ∈ lw_tbl := ux_in 175 ux_t7 rfl
theorem tw_1616 : (Jvm.Cond.fieldLink "UnikernelHttpModel" (58 : Nat) "UnikernelHttpModel" "gThere" "[Z") ∈ lw_tbl := ux_in 176 ux_t7 rfl
theorem tw_1618 : (Jvm.Cond.fieldLink "UnikernelHttpModel" (62 : Nat) "UnikernelHttpModel" "pTarget" "[B") ∈ lw_tbl := ux_in 178 ux_t7 rfl
theorem tw_1619 : (Jvm.Cond.fieldLink "UnikernelHttpModel" (66 : Nat) "UnikernelHttpModel" "pBytes" "[B") ∈ lw_tbl := ux_in 179 ux_t7 rfl
theorem tw_1620 : (Jvm.Cond.fieldLink "UnikernelHttpModel" (69 : Nat) "UnikernelHttpModel" "pLong" "[I") ∈ lw_tbl := ux_in 180 ux_t7 rfl
theorem tw_1621 : (Jvm.Cond.fieldLink "UnikernelHttpModel" (72 : Nat) "UnikernelHttpModel" "pSize" "[I") ∈ lw_tbl := ux_in 181 ux_t7 rfl
theorem tw_1622 : (Jvm.Cond.fieldLink "UnikernelHttpModel" (75 : Nat) "UnikernelHttpModel" "pSum" "[I") ∈ lw_tbl := ux_in 182 ux_t7 rfl
theorem tw_1624 : (Jvm.Cond.fieldLink "UnikernelHttpModel" (80 : Nat) "UnikernelHttpModel" "peer" "[LUnikernelHttpModel$Peer;") ∈ lw_tbl := ux_in 184 ux_t7 rfl
theorem tw_1629 : (Jvm.Cond.fieldLink "UnikernelHttpModel" (84 : Nat) "UnikernelHttpModel" "answer" "[B") ∈ lw_tbl := ux_in 189 ux_t7 rfl
theorem tw_1632 : (Jvm.Cond.laysFinal "UnikernelHttpModel" "UnikernelHttpModel" "row" "[B") ∈ lw_tbl := ux_in 192 ux_t7 rfl
theorem tw_1634 : (Jvm.Cond.laysFinal "UnikernelHttpModel" "UnikernelHttpModel" "in" "[B") ∈ lw_tbl := ux_in 194 ux_t7 rfl
theorem tw_1636 : (Jvm.Cond.laysFinal "UnikernelHttpModel" "UnikernelHttpModel" "out" "[B") ∈ lw_tbl := ux_in 196 ux_t7 rfl
theorem tw_1638 : (Jvm.Cond.lays "UnikernelHttpModel" "UnikernelHttpModel" "rows" "I") ∈ lw_tbl := ux_in 198 ux_t7 rfl
theorem tw_1640 : (Jvm.Cond.lays "UnikernelHttpModel" "UnikernelHttpModel" "thrown" "I") ∈ lw_tbl := ux_in 200 ux_t7 rfl
theorem tw_1642 : (Jvm.Cond.lays "UnikernelHttpModel" "UnikernelHttpModel" "time" "I") ∈ lw_tbl := ux_in 202 ux_t7 rfl
theorem tw_1644 : (Jvm.Cond.lays "UnikernelHttpModel" "UnikernelHttpModel" "packets" "I") ∈ lw_tbl := ux_in 204 ux_t7 rfl
theorem tw_1646 : (Jvm.Cond.lays "UnikernelHttpModel" "UnikernelHttpModel" "frames" "I") ∈ lw_tbl := ux_in 206 ux_t7 rfl
theorem tw_1648 : (Jvm.Cond.laysFinal "UnikernelHttpModel" "UnikernelHttpModel" "kept" "[B") ∈ lw_tbl := ux_in 208 ux_t7 rfl
theorem tw_1650 : (Jvm.Cond.laysFinal "UnikernelHttpModel" "UnikernelHttpModel" "keptSize" "[I") ∈ lw_tbl := ux_in 210 ux_t7 rfl
theorem tw_1652 : (Jvm.Cond.laysFinal "UnikernelHttpModel" "UnikernelHttpModel" "nIp" "[I") ∈ lw_tbl := ux_in 212 ux_t7 rfl
theorem tw_1654 : (Jvm.Cond.laysFinal "UnikernelHttpModel" "UnikernelHttpModel" "nHeard" "[I") ∈ lw_tbl := ux_in 214 ux_t7 rfl
theorem tw_1656 : (Jvm.Cond.laysFinal "UnikernelHttpModel" "UnikernelHttpModel" "nHard" "[J") ∈ lw_tbl := ux_in 216 ux_t7 rfl
theorem tw_1658 : (Jvm.Cond.lays "UnikernelHttpModel" "UnikernelHttpModel" "neighbours" "I") ∈ lw_tbl := ux_in 218 ux_t7 rfl
theorem tw_1660 : (Jvm.Cond.lays "UnikernelHttpModel" "UnikernelHttpModel" "heard" "I") ∈ lw_tbl := ux_in 220 ux_t7 rfl
theorem tw_1662 : (Jvm.Cond.laysFinal "UnikernelHttpModel" "UnikernelHttpModel" "gIp" "[I") ∈ lw_tbl := ux_in 222 ux_t7 rfl
theorem tw_1664 : (Jvm.Cond.laysFinal "UnikernelHttpModel" "UnikernelHttpModel" "gNumber" "[I") ∈ lw_tbl := ux_in 224 ux_t7 rfl
theorem tw_1666 : (Jvm.Cond.laysFinal "UnikernelHttpModel" "UnikernelHttpModel" "gProtocol" "[I") ∈ lw_tbl := ux_in 226 ux_t7 rfl
theorem tw_1668 : (Jvm.Cond.laysFinal "UnikernelHttpModel" "UnikernelHttpModel" "gTold" "[I") ∈ lw_tbl := ux_in 228 ux_t7 rfl
theorem tw_1670 : (Jvm.Cond.laysFinal "UnikernelHttpModel" "UnikernelHttpModel" "gBegun" "[I") ∈ lw_tbl := ux_in 230 ux_t7 rfl
theorem tw_1672 : (Jvm.Cond.laysFinal "UnikernelHttpModel" "UnikernelHttpModel" "gOrder" "[I") ∈ lw_tbl := ux_in 232 ux_t7 rfl
theorem tw_1674 : (Jvm.Cond.laysFinal "UnikernelHttpModel" "UnikernelHttpModel" "gBytes" "[B") ∈ lw_tbl := ux_in 234 ux_t7 rfl
theorem tw_1676 : (Jvm.Cond.laysFinal "UnikernelHttpModel" "UnikernelHttpModel" "gThere" "[Z") ∈ lw_tbl := ux_in 236 ux_t7 rfl
theorem tw_1678 : (Jvm.Cond.lays "UnikernelHttpModel" "UnikernelHttpModel" "gatherings" "I") ∈ lw_tbl := ux_in 238 ux_t7 rfl
theorem tw_1680 : (Jvm.Cond.lays "UnikernelHttpModel" "UnikernelHttpModel" "begun" "I") ∈ lw_tbl := ux_in 0 ux_t8 rfl
theorem tw_1682 : (Jvm.Cond.laysFinal "UnikernelHttpModel" "UnikernelHttpModel" "pTarget" "[B") ∈ lw_tbl := ux_in 2 ux_t8 rfl
theorem tw_1684 : (Jvm.Cond.laysFinal "UnikernelHttpModel" "UnikernelHttpModel" "pBytes" "[B") ∈ lw_tbl := ux_in 4 ux_t8 rfl
theorem tw_1686 : (Jvm.Cond.laysFinal "UnikernelHttpModel" "UnikernelHttpModel" "pLong" "[I") ∈ lw_tbl := ux_in 6 ux_t8 rfl
theorem tw_1688 : (Jvm.Cond.laysFinal "UnikernelHttpModel" "UnikernelHttpModel" "pSize" "[I") ∈ lw_tbl := ux_in 8 ux_t8 rfl
theorem tw_1690 : (Jvm.Cond.laysFinal "UnikernelHttpModel" "UnikernelHttpModel" "pSum" "[I") ∈ lw_tbl := ux_in 10 ux_t8 rfl
theorem tw_1692 : (Jvm.Cond.lays "UnikernelHttpModel" "UnikernelHttpModel" "pages" "I") ∈ lw_tbl := ux_in 12 ux_t8 rfl
theorem tw_1694 : (Jvm.Cond.laysFinal "UnikernelHttpModel" "UnikernelHttpModel" "peer" "[LUnikernelHttpModel$Peer;") ∈ lw_tbl := ux_in 14 ux_t8 rfl
theorem tw_1696 : (Jvm.Cond.lays "UnikernelHttpModel" "UnikernelHttpModel" "peers" "I") ∈ lw_tbl := ux_in 16 ux_t8 rfl
theorem tw_1698 : (Jvm.Cond.lays "UnikernelHttpModel" "UnikernelHttpModel" "made" "I") ∈ lw_tbl := ux_in 18 ux_t8 rfl
theorem tw_1700 : (Jvm.Cond.lays "UnikernelHttpModel" "UnikernelHttpModel" "size" "I") ∈ lw_tbl := ux_in 20 ux_t8 rfl
theorem tw_1702 : (Jvm.Cond.lays "UnikernelHttpModel" "UnikernelHttpModel" "whole" "I") ∈ lw_tbl := ux_in 22 ux_t8 rfl
theorem tw_1704 : (Jvm.Cond.laysFinal "UnikernelHttpModel" "UnikernelHttpModel" "answer" "[B") ∈ lw_tbl := ux_in 24 ux_t8 rfl
theorem tw_1706 : (Jvm.Cond.lays "UnikernelHttpModel" "UnikernelHttpModel" "answers" "I") ∈ lw_tbl := ux_in 26 ux_t8 rfl
theorem tw_1708 : (Jvm.Cond.lays "UnikernelHttpModel" "UnikernelHttpModel" "at" "I") ∈ lw_tbl := ux_in 28 ux_t8 rfl
