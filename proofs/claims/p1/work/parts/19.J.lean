/-! Which words the rows behind use, by their places. -/
theorem tw_0 : (Jvm.Cond.initialized "UnikernelHttpLaw") ∈ lw_tbl := ux_in 0 ux_t1 rfl
theorem tw_486 : (Jvm.Cond.methodLink "UnikernelHttpLaw" (56 : Nat) ({ cls := "UnikernelHttpLaw", name := "feed", desc := "(LUnikernelHttp;IIIII[J)I" } : Jvm.MethodName)) ∈ lw_tbl := ux_in 6 ux_t3 rfl
theorem tw_487 : (Jvm.Cond.static ({ cls := "UnikernelHttpLaw", name := "feed", desc := "(LUnikernelHttp;IIIII[J)I" } : Jvm.MethodName)) ∈ lw_tbl := ux_in 7 ux_t3 rfl
theorem tw_488 : (Jvm.Cond.codeWith ({ cls := "UnikernelHttpLaw", name := "feed", desc := "(LUnikernelHttp;IIIII[J)I" } : Jvm.MethodName) method_3_code (8 : Nat) (Option.some Jvm.ClassFile.FieldType.int) [((0 : Nat), (16 : Nat), (19 : Nat), (13 : Nat))]) ∈ lw_tbl := ux_in 8 ux_t3 rfl
theorem tw_563 : (Jvm.Cond.methodLink "UnikernelHttpLaw" (65 : Nat) ({ cls := "UnikernelHttpLaw", name := "cut", desc := "(LUnikernelHttp;I[J)I" } : Jvm.MethodName)) ∈ lw_tbl := ux_in 83 ux_t3 rfl
theorem tw_564 : (Jvm.Cond.static ({ cls := "UnikernelHttpLaw", name := "cut", desc := "(LUnikernelHttp;I[J)I" } : Jvm.MethodName)) ∈ lw_tbl := ux_in 84 ux_t3 rfl
theorem tw_565 : (Jvm.Cond.codeWith ({ cls := "UnikernelHttpLaw", name := "cut", desc := "(LUnikernelHttp;I[J)I" } : Jvm.MethodName) method_4_code (4 : Nat) (Option.some Jvm.ClassFile.FieldType.int) [((0 : Nat), (9 : Nat), (12 : Nat), (19 : Nat))]) ∈ lw_tbl := ux_in 85 ux_t3 rfl
theorem tw_586 : (Jvm.Cond.methodLink "UnikernelHttpLaw" (69 : Nat) ({ cls := "UnikernelHttpLaw", name := "arrive", desc := "(LUnikernelHttp;[J)I" } : Jvm.MethodName)) ∈ lw_tbl := ux_in 106 ux_t3 rfl
theorem tw_587 : (Jvm.Cond.static ({ cls := "UnikernelHttpLaw", name := "arrive", desc := "(LUnikernelHttp;[J)I" } : Jvm.MethodName)) ∈ lw_tbl := ux_in 107 ux_t3 rfl
theorem tw_588 : (Jvm.Cond.codeWith ({ cls := "UnikernelHttpLaw", name := "arrive", desc := "(LUnikernelHttp;[J)I" } : Jvm.MethodName) method_5_code (3 : Nat) (Option.some Jvm.ClassFile.FieldType.int) [((0 : Nat), (8 : Nat), (11 : Nat), (19 : Nat))]) ∈ lw_tbl := ux_in 108 ux_t3 rfl
theorem tw_1340 : (Jvm.Cond.methodLink "UnikernelHttpLaw" (73 : Nat) ({ cls := "UnikernelHttpLaw", name := "page", desc := "(LUnikernelHttp;I[J)I" } : Jvm.MethodName)) ∈ lw_tbl := ux_in 140 ux_t6 rfl
theorem tw_1341 : (Jvm.Cond.static ({ cls := "UnikernelHttpLaw", name := "page", desc := "(LUnikernelHttp;I[J)I" } : Jvm.MethodName)) ∈ lw_tbl := ux_in 141 ux_t6 rfl
theorem tw_1342 : (Jvm.Cond.codeWith ({ cls := "UnikernelHttpLaw", name := "page", desc := "(LUnikernelHttp;I[J)I" } : Jvm.MethodName) method_6_code (4 : Nat) (Option.some Jvm.ClassFile.FieldType.int) [((0 : Nat), (9 : Nat), (12 : Nat), (19 : Nat)), ((0 : Nat), (9 : Nat), (15 : Nat), (13 : Nat))]) ∈ lw_tbl := ux_in 142 ux_t6 rfl
theorem tw_1357 : (Jvm.Cond.methodLink "UnikernelHttpLaw" (76 : Nat) ({ cls := "UnikernelHttpLaw", name := "damage", desc := "(LUnikernelHttp;III[J)I" } : Jvm.MethodName)) ∈ lw_tbl := ux_in 157 ux_t6 rfl
theorem tw_1358 : (Jvm.Cond.static ({ cls := "UnikernelHttpLaw", name := "damage", desc := "(LUnikernelHttp;III[J)I" } : Jvm.MethodName)) ∈ lw_tbl := ux_in 158 ux_t6 rfl
theorem tw_1359 : (Jvm.Cond.codeWith ({ cls := "UnikernelHttpLaw", name := "damage", desc := "(LUnikernelHttp;III[J)I" } : Jvm.MethodName) method_7_code (6 : Nat) (Option.some Jvm.ClassFile.FieldType.int) [((0 : Nat), (12 : Nat), (15 : Nat), (32 : Nat))]) ∈ lw_tbl := ux_in 159 ux_t6 rfl
theorem tw_1711 : (Jvm.Cond.methodLink "UnikernelHttpLaw" (62 : Nat) ({ cls := "UnikernelHttpModel", name := "thrown", desc := "()I" } : Jvm.MethodName)) ∈ lw_tbl := ux_in 31 ux_t8 rfl
theorem tw_1712 : (Jvm.Cond.instanceMethod ({ cls := "UnikernelHttpModel", name := "thrown", desc := "()I" } : Jvm.MethodName)) ∈ lw_tbl := ux_in 32 ux_t8 rfl
theorem tw_1713 : (Jvm.Cond.selects "UnikernelHttpModel" ({ cls := "UnikernelHttpModel", name := "thrown", desc := "()I" } : Jvm.MethodName) ({ cls := "UnikernelHttpModel", name := "thrown", desc := "()I" } : Jvm.MethodName)) ∈ lw_tbl := ux_in 33 ux_t8 rfl
theorem tw_1714 : (Jvm.Cond.code ({ cls := "UnikernelHttpModel", name := "thrown", desc := "()I" } : Jvm.MethodName) prog_14_method_2_code (1 : Nat) (Option.some Jvm.ClassFile.FieldType.int)) ∈ lw_tbl := ux_in 34 ux_t8 rfl
theorem tw_1715 : (Jvm.Cond.methodLink "UnikernelHttpLaw" (61 : Nat) ({ cls := "UnikernelHttpModel", name := "feed", desc := "(IIIII)I" } : Jvm.MethodName)) ∈ lw_tbl := ux_in 35 ux_t8 rfl
theorem tw_1716 : (Jvm.Cond.instanceMethod ({ cls := "UnikernelHttpModel", name := "feed", desc := "(IIIII)I" } : Jvm.MethodName)) ∈ lw_tbl := ux_in 36 ux_t8 rfl
theorem tw_1717 : (Jvm.Cond.selects "UnikernelHttpModel" ({ cls := "UnikernelHttpModel", name := "feed", desc := "(IIIII)I" } : Jvm.MethodName) ({ cls := "UnikernelHttpModel", name := "feed", desc := "(IIIII)I" } : Jvm.MethodName)) ∈ lw_tbl := ux_in 37 ux_t8 rfl
theorem tw_1718 : (Jvm.Cond.code ({ cls := "UnikernelHttpModel", name := "feed", desc := "(IIIII)I" } : Jvm.MethodName) prog_14_method_51_code (6 : Nat) (Option.some Jvm.ClassFile.FieldType.int)) ∈ lw_tbl := ux_in 38 ux_t8 rfl
theorem tw_1723 : (Jvm.Cond.methodLink "UnikernelHttpLaw" (68 : Nat) ({ cls := "UnikernelHttpModel", name := "cut", desc := "(I)I" } : Jvm.MethodName)) ∈ lw_tbl := ux_in 43 ux_t8 rfl
theorem tw_1724 : (Jvm.Cond.instanceMethod ({ cls := "UnikernelHttpModel", name := "cut", desc := "(I)I" } : Jvm.MethodName)) ∈ lw_tbl := ux_in 44 ux_t8 rfl
theorem tw_1725 : (Jvm.Cond.selects "UnikernelHttpModel" ({ cls := "UnikernelHttpModel", name := "cut", desc := "(I)I" } : Jvm.MethodName) ({ cls := "UnikernelHttpModel", name := "cut", desc := "(I)I" } : Jvm.MethodName)) ∈ lw_tbl := ux_in 45 ux_t8 rfl
theorem tw_1726 : (Jvm.Cond.code ({ cls := "UnikernelHttpModel", name := "cut", desc := "(I)I" } : Jvm.MethodName) prog_14_method_53_code (2 : Nat) (Option.some Jvm.ClassFile.FieldType.int)) ∈ lw_tbl := ux_in 46 ux_t8 rfl
theorem tw_1727 : (Jvm.Cond.methodLink "UnikernelHttpLaw" (72 : Nat) ({ cls := "UnikernelHttpModel", name := "arrive", desc := "()I" } : Jvm.MethodName)) ∈ lw_tbl := ux_in 47 ux_t8 rfl
theorem tw_1728 : (Jvm.Cond.instanceMethod ({ cls := "UnikernelHttpModel", name := "arrive", desc := "()I" } : Jvm.MethodName)) ∈ lw_tbl := ux_in 48 ux_t8 rfl
theorem tw_1729 : (Jvm.Cond.selects "UnikernelHttpModel" ({ cls := "UnikernelHttpModel", name := "arrive", desc := "()I" } : Jvm.MethodName) ({ cls := "UnikernelHttpModel", name := "arrive", desc := "()I" } : Jvm.MethodName)) ∈ lw_tbl := ux_in 49 ux_t8 rfl
theorem tw_1730 : (Jvm.Cond.code ({ cls := "UnikernelHttpModel", name := "arrive", desc := "()I" } : Jvm.MethodName) prog_14_method_54_code (2 : Nat) (Option.some Jvm.ClassFile.FieldType.int)) ∈ lw_tbl := ux_in 50 ux_t8 rfl
theorem tw_1941 : (Jvm.Cond.methodLink "UnikernelHttpLaw" (75 : Nat) ({ cls := "UnikernelHttpModel", name := "page", desc := "(I)I" } : Jvm.MethodName)) ∈ lw_tbl := ux_in 21 ux_t9 rfl
theorem tw_1942 : (Jvm.Cond.instanceMethod ({ cls := "UnikernelHttpModel", name := "page", desc := "(I)I" } : Jvm.MethodName)) ∈ lw_tbl := ux_in 22 ux_t9 rfl
theorem tw_1943 : (Jvm.Cond.selects "UnikernelHttpModel" ({ cls := "UnikernelHttpModel", name := "page", desc := "(I)I" } : Jvm.MethodName) ({ cls := "UnikernelHttpModel", name := "page", desc := "(I)I" } : Jvm.MethodName)) ∈ lw_tbl := ux_in 23 ux_t9 rfl
theorem tw_1944 : (Jvm.Cond.code ({ cls := "UnikernelHttpModel", name := "page", desc := "(I)I" } : Jvm.MethodName) prog_14_method_55_code (4 : Nat) (Option.some Jvm.ClassFile.FieldType.int)) ∈ lw_tbl := ux_in 24 ux_t9 rfl
theorem tw_1945 : (Jvm.Cond.methodLink "UnikernelHttpLaw" (79 : Nat) ({ cls := "UnikernelHttpModel", name := "damage", desc := "(III)I" } : Jvm.MethodName)) ∈ lw_tbl := ux_in 25 ux_t9 rfl
theorem tw_1946 : (Jvm.Cond.instanceMethod ({ cls := "UnikernelHttpModel", name := "damage", desc := "(III)I" } : Jvm.MethodName)) ∈ lw_tbl := ux_in 26 ux_t9 rfl
theorem tw_1947 : (Jvm.Cond.selects "UnikernelHttpModel" ({ cls := "UnikernelHttpModel", name := "damage", desc := "(III)I" } : Jvm.MethodName) ({ cls := "UnikernelHttpModel", name := "damage", desc := "(III)I" } : Jvm.MethodName)) ∈ lw_tbl := ux_in 27 ux_t9 rfl
theorem tw_1948 : (Jvm.Cond.code ({ cls := "UnikernelHttpModel", name := "damage", desc := "(III)I" } : Jvm.MethodName) prog_14_method_56_code (4 : Nat) (Option.some Jvm.ClassFile.FieldType.int)) ∈ lw_tbl := ux_in 28 ux_t9 rfl
theorem d_La_law_96 : decode b_La_law 96 = .ok (.aload_n 1, 1) := by decide +kernel
theorem d_La_law_97 : decode b_La_law 97 = .ok (.aload_n 0, 1) := by decide +kernel
theorem d_La_law_98 : decode b_La_law 98 = .ok (.iload 4, 2) := by decide +kernel
theorem d_La_law_100 : decode b_La_law 100 = .ok (.iconst 1, 1) := by decide +kernel
theorem d_La_law_101 : decode b_La_law 101 = .ok (.iadd, 1) := by decide +kernel
theorem d_La_law_102 : decode b_La_law 102 = .ok (.iaload, 1) := by decide +kernel
theorem d_La_law_103 : decode b_La_law 103 = .ok (.aload_n 0, 1) := by decide +kernel
theorem d_La_law_104 : decode b_La_law 104 = .ok (.iload 4, 2) := by decide +kernel
theorem d_La_law_106 : decode b_La_law 106 = .ok (.iconst 2, 1) := by decide +kernel
theorem d_La_law_107 : decode b_La_law 107 = .ok (.iadd, 1) := by decide +kernel
theorem d_La_law_108 : decode b_La_law 108 = .ok (.iaload, 1) := by decide +kernel
theorem d_La_law_109 : decode b_La_law 109 = .ok (.aload_n 0, 1) := by decide +kernel
theorem d_La_law_110 : decode b_La_law 110 = .ok (.iload 4, 2) := by decide +kernel
theorem d_La_law_112 : decode b_La_law 112 = .ok (.iconst 3, 1) := by decide +kernel
theorem d_La_law_113 : decode b_La_law 113 = .ok (.iadd, 1) := by decide +kernel
theorem d_La_law_114 : decode b_La_law 114 = .ok (.iaload, 1) := by decide +kernel
theorem d_La_law_115 : decode b_La_law 115 = .ok (.aload_n 0, 1) := by decide +kernel
theorem d_La_law_116 : decode b_La_law 116 = .ok (.iload 4, 2) := by decide +kernel
theorem d_La_law_118 : decode b_La_law 118 = .ok (.iconst 4, 1) := by decide +kernel
theorem d_La_law_119 : decode b_La_law 119 = .ok (.iadd, 1) := by decide +kernel
theorem d_La_law_120 : decode b_La_law 120 = .ok (.iaload, 1) := by decide +kernel
theorem d_La_law_121 : decode b_La_law 121 = .ok (.aload_n 0, 1) := by decide +kernel
theorem d_La_law_122 : decode b_La_law 122 = .ok (.iload 4, 2) := by decide +kernel
theorem d_La_law_124 : decode b_La_law 124 = .ok (.iconst 5, 1) := by decide +kernel
theorem d_La_law_125 : decode b_La_law 125 = .ok (.iadd, 1) := by decide +kernel
theorem d_La_law_126 : decode b_La_law 126 = .ok (.iaload, 1) := by decide +kernel
theorem d_La_law_127 : decode b_La_law 127 = .ok (.aload_n 3, 1) := by decide +kernel
theorem d_La_law_128 : decode b_La_law 128 = .ok (.invokestatic 56, 3) := by decide +kernel
theorem d_La_law_131 : decode b_La_law 131 = .ok (.istore 5, 2) := by decide +kernel
theorem d_La_law_133 : decode b_La_law 133 = .ok (.aload_n 2, 1) := by decide +kernel
theorem d_La_law_134 : decode b_La_law 134 = .ok (.aload_n 0, 1) := by decide +kernel
theorem d_La_law_135 : decode b_La_law 135 = .ok (.iload 4, 2) := by decide +kernel
theorem d_La_law_137 : decode b_La_law 137 = .ok (.iconst 1, 1) := by decide +kernel
theorem d_La_law_138 : decode b_La_law 138 = .ok (.iadd, 1) := by decide +kernel
theorem d_La_law_139 : decode b_La_law 139 = .ok (.iaload, 1) := by decide +kernel
theorem d_La_law_140 : decode b_La_law 140 = .ok (.aload_n 0, 1) := by decide +kernel
theorem d_La_law_141 : decode b_La_law 141 = .ok (.iload 4, 2) := by decide +kernel
theorem d_La_law_143 : decode b_La_law 143 = .ok (.iconst 2, 1) := by decide +kernel
theorem d_La_law_144 : decode b_La_law 144 = .ok (.iadd, 1) := by decide +kernel
theorem d_La_law_145 : decode b_La_law 145 = .ok (.iaload, 1) := by decide +kernel
theorem d_La_law_146 : decode b_La_law 146 = .ok (.aload_n 0, 1) := by decide +kernel
theorem d_La_law_147 : decode b_La_law 147 = .ok (.iload 4, 2) := by decide +kernel
theorem d_La_law_149 : decode b_La_law 149 = .ok (.iconst 3, 1) := by decide +kernel
theorem d_La_law_150 : decode b_La_law 150 = .ok (.iadd, 1) := by decide +kernel
theorem d_La_law_151 : decode b_La_law 151 = .ok (.iaload, 1) := by decide +kernel
theorem d_La_law_152 : decode b_La_law 152 = .ok (.aload_n 0, 1) := by decide +kernel
theorem d_La_law_153 : decode b_La_law 153 = .ok (.iload 4, 2) := by decide +kernel
theorem d_La_law_155 : decode b_La_law 155 = .ok (.iconst 4, 1) := by decide +kernel
theorem d_La_law_156 : decode b_La_law 156 = .ok (.iadd, 1) := by decide +kernel
theorem d_La_law_157 : decode b_La_law 157 = .ok (.iaload, 1) := by decide +kernel
theorem d_La_law_158 : decode b_La_law 158 = .ok (.aload_n 0, 1) := by decide +kernel
theorem d_La_law_159 : decode b_La_law 159 = .ok (.iload 4, 2) := by decide +kernel
theorem d_La_law_161 : decode b_La_law 161 = .ok (.iconst 5, 1) := by decide +kernel
theorem d_La_law_162 : decode b_La_law 162 = .ok (.iadd, 1) := by decide +kernel
theorem d_La_law_163 : decode b_La_law 163 = .ok (.iaload, 1) := by decide +kernel
theorem d_La_law_164 : decode b_La_law 164 = .ok (.invokevirtual 61, 3) := by decide +kernel
theorem d_La_law_167 : decode b_La_law 167 = .ok (.istore 6, 2) := by decide +kernel
theorem d_La_law_169 : decode b_La_law 169 = .ok (.aload_n 2, 1) := by decide +kernel
theorem d_La_law_170 : decode b_La_law 170 = .ok (.invokevirtual 62, 3) := by decide +kernel
theorem d_La_law_173 : decode b_La_law 173 = .ok (.iload 5, 2) := by decide +kernel
theorem d_La_law_175 : decode b_La_law 175 = .ok (.if_icmp .eq 5, 3) := by decide +kernel
theorem d_La_law_180 : decode b_La_law 180 = .ok (.iload 5, 2) := by decide +kernel
theorem d_La_law_182 : decode b_La_law 182 = .ok (.ifCond .ne 15, 3) := by decide +kernel
theorem d_La_law_185 : decode b_La_law 185 = .ok (.aload_n 3, 1) := by decide +kernel
theorem d_La_law_186 : decode b_La_law 186 = .ok (.iconst 0, 1) := by decide +kernel
theorem d_La_law_187 : decode b_La_law 187 = .ok (.laload, 1) := by decide +kernel
theorem d_La_law_188 : decode b_La_law 188 = .ok (.iload 6, 2) := by decide +kernel
theorem d_La_law_190 : decode b_La_law 190 = .ok (.i2l, 1) := by decide +kernel
theorem d_La_law_191 : decode b_La_law 191 = .ok (.lcmp, 1) := by decide +kernel
theorem d_La_law_192 : decode b_La_law 192 = .ok (.ifCond .eq 5, 3) := by decide +kernel
theorem d_La_law_197 : decode b_La_law 197 = .ok (.goto 554, 3) := by decide +kernel
theorem d_La_law_200 : decode b_La_law 200 = .ok (.aload_n 1, 1) := by decide +kernel
theorem d_La_law_201 : decode b_La_law 201 = .ok (.aload_n 0, 1) := by decide +kernel
theorem d_La_law_202 : decode b_La_law 202 = .ok (.iload 4, 2) := by decide +kernel
theorem d_La_law_204 : decode b_La_law 204 = .ok (.iconst 1, 1) := by decide +kernel
theorem d_La_law_205 : decode b_La_law 205 = .ok (.iadd, 1) := by decide +kernel
theorem d_La_law_206 : decode b_La_law 206 = .ok (.iaload, 1) := by decide +kernel
theorem d_La_law_207 : decode b_La_law 207 = .ok (.aload_n 3, 1) := by decide +kernel
theorem d_La_law_208 : decode b_La_law 208 = .ok (.invokestatic 65, 3) := by decide +kernel
theorem d_La_law_211 : decode b_La_law 211 = .ok (.istore 5, 2) := by decide +kernel
theorem d_La_law_213 : decode b_La_law 213 = .ok (.aload_n 2, 1) := by decide +kernel
theorem d_La_law_214 : decode b_La_law 214 = .ok (.aload_n 0, 1) := by decide +kernel
theorem d_La_law_215 : decode b_La_law 215 = .ok (.iload 4, 2) := by decide +kernel
theorem d_La_law_217 : decode b_La_law 217 = .ok (.iconst 1, 1) := by decide +kernel
theorem d_La_law_218 : decode b_La_law 218 = .ok (.iadd, 1) := by decide +kernel
theorem d_La_law_219 : decode b_La_law 219 = .ok (.iaload, 1) := by decide +kernel
theorem d_La_law_220 : decode b_La_law 220 = .ok (.invokevirtual 68, 3) := by decide +kernel
theorem d_La_law_223 : decode b_La_law 223 = .ok (.istore 6, 2) := by decide +kernel
theorem d_La_law_225 : decode b_La_law 225 = .ok (.aload_n 2, 1) := by decide +kernel
theorem d_La_law_226 : decode b_La_law 226 = .ok (.invokevirtual 62, 3) := by decide +kernel
theorem d_La_law_229 : decode b_La_law 229 = .ok (.iload 5, 2) := by decide +kernel
theorem d_La_law_231 : decode b_La_law 231 = .ok (.if_icmp .eq 5, 3) := by decide +kernel
theorem d_La_law_236 : decode b_La_law 236 = .ok (.iload 5, 2) := by decide +kernel
theorem d_La_law_238 : decode b_La_law 238 = .ok (.ifCond .ne 15, 3) := by decide +kernel
theorem d_La_law_241 : decode b_La_law 241 = .ok (.aload_n 3, 1) := by decide +kernel
theorem d_La_law_242 : decode b_La_law 242 = .ok (.iconst 0, 1) := by decide +kernel
theorem d_La_law_243 : decode b_La_law 243 = .ok (.laload, 1) := by decide +kernel
theorem d_La_law_244 : decode b_La_law 244 = .ok (.iload 6, 2) := by decide +kernel
theorem d_La_law_246 : decode b_La_law 246 = .ok (.i2l, 1) := by decide +kernel
theorem d_La_law_247 : decode b_La_law 247 = .ok (.lcmp, 1) := by decide +kernel
theorem d_La_law_248 : decode b_La_law 248 = .ok (.ifCond .eq 5, 3) := by decide +kernel
theorem d_La_law_253 : decode b_La_law 253 = .ok (.goto 498, 3) := by decide +kernel
theorem d_La_law_256 : decode b_La_law 256 = .ok (.aload_n 1, 1) := by decide +kernel
theorem d_La_law_257 : decode b_La_law 257 = .ok (.aload_n 3, 1) := by decide +kernel
theorem d_La_law_258 : decode b_La_law 258 = .ok (.invokestatic 69, 3) := by decide +kernel
theorem d_La_law_261 : decode b_La_law 261 = .ok (.istore 5, 2) := by decide +kernel
theorem d_La_law_263 : decode b_La_law 263 = .ok (.aload_n 2, 1) := by decide +kernel
theorem d_La_law_264 : decode b_La_law 264 = .ok (.invokevirtual 72, 3) := by decide +kernel
theorem d_La_law_267 : decode b_La_law 267 = .ok (.istore 6, 2) := by decide +kernel
theorem d_La_law_269 : decode b_La_law 269 = .ok (.aload_n 2, 1) := by decide +kernel
theorem d_La_law_270 : decode b_La_law 270 = .ok (.invokevirtual 62, 3) := by decide +kernel
theorem d_La_law_273 : decode b_La_law 273 = .ok (.iload 5, 2) := by decide +kernel
theorem d_La_law_275 : decode b_La_law 275 = .ok (.if_icmp .eq 5, 3) := by decide +kernel
theorem d_La_law_280 : decode b_La_law 280 = .ok (.iload 5, 2) := by decide +kernel
theorem d_La_law_282 : decode b_La_law 282 = .ok (.ifCond .ne 15, 3) := by decide +kernel
theorem d_La_law_285 : decode b_La_law 285 = .ok (.aload_n 3, 1) := by decide +kernel
theorem d_La_law_286 : decode b_La_law 286 = .ok (.iconst 0, 1) := by decide +kernel
theorem d_La_law_287 : decode b_La_law 287 = .ok (.laload, 1) := by decide +kernel
theorem d_La_law_288 : decode b_La_law 288 = .ok (.iload 6, 2) := by decide +kernel
theorem d_La_law_290 : decode b_La_law 290 = .ok (.i2l, 1) := by decide +kernel
theorem d_La_law_291 : decode b_La_law 291 = .ok (.lcmp, 1) := by decide +kernel
theorem d_La_law_292 : decode b_La_law 292 = .ok (.ifCond .eq 5, 3) := by decide +kernel
theorem d_La_law_297 : decode b_La_law 297 = .ok (.goto 454, 3) := by decide +kernel
theorem d_La_law_300 : decode b_La_law 300 = .ok (.aload_n 1, 1) := by decide +kernel
theorem d_La_law_301 : decode b_La_law 301 = .ok (.aload_n 0, 1) := by decide +kernel
theorem d_La_law_302 : decode b_La_law 302 = .ok (.iload 4, 2) := by decide +kernel
theorem d_La_law_304 : decode b_La_law 304 = .ok (.iconst 1, 1) := by decide +kernel
theorem d_La_law_305 : decode b_La_law 305 = .ok (.iadd, 1) := by decide +kernel
theorem d_La_law_306 : decode b_La_law 306 = .ok (.iaload, 1) := by decide +kernel
theorem d_La_law_307 : decode b_La_law 307 = .ok (.aload_n 3, 1) := by decide +kernel
theorem d_La_law_308 : decode b_La_law 308 = .ok (.invokestatic 73, 3) := by decide +kernel
theorem d_La_law_311 : decode b_La_law 311 = .ok (.istore 5, 2) := by decide +kernel
theorem d_La_law_313 : decode b_La_law 313 = .ok (.aload_n 2, 1) := by decide +kernel
theorem d_La_law_314 : decode b_La_law 314 = .ok (.aload_n 0, 1) := by decide +kernel
theorem d_La_law_315 : decode b_La_law 315 = .ok (.iload 4, 2) := by decide +kernel
theorem d_La_law_317 : decode b_La_law 317 = .ok (.iconst 1, 1) := by decide +kernel
theorem d_La_law_318 : decode b_La_law 318 = .ok (.iadd, 1) := by decide +kernel
theorem d_La_law_319 : decode b_La_law 319 = .ok (.iaload, 1) := by decide +kernel
theorem d_La_law_320 : decode b_La_law 320 = .ok (.invokevirtual 75, 3) := by decide +kernel
theorem d_La_law_323 : decode b_La_law 323 = .ok (.istore 6, 2) := by decide +kernel
theorem d_La_law_325 : decode b_La_law 325 = .ok (.aload_n 2, 1) := by decide +kernel
theorem d_La_law_326 : decode b_La_law 326 = .ok (.invokevirtual 62, 3) := by decide +kernel
theorem d_La_law_329 : decode b_La_law 329 = .ok (.iload 5, 2) := by decide +kernel
theorem d_La_law_331 : decode b_La_law 331 = .ok (.if_icmp .eq 5, 3) := by decide +kernel
theorem d_La_law_336 : decode b_La_law 336 = .ok (.iload 5, 2) := by decide +kernel
theorem d_La_law_338 : decode b_La_law 338 = .ok (.ifCond .ne 15, 3) := by decide +kernel
theorem d_La_law_353 : decode b_La_law 353 = .ok (.goto 398, 3) := by decide +kernel
theorem d_La_law_356 : decode b_La_law 356 = .ok (.aload_n 1, 1) := by decide +kernel
theorem d_La_law_357 : decode b_La_law 357 = .ok (.aload_n 0, 1) := by decide +kernel
theorem d_La_law_358 : decode b_La_law 358 = .ok (.iload 4, 2) := by decide +kernel
theorem d_La_law_360 : decode b_La_law 360 = .ok (.iconst 1, 1) := by decide +kernel
theorem d_La_law_361 : decode b_La_law 361 = .ok (.iadd, 1) := by decide +kernel
theorem d_La_law_362 : decode b_La_law 362 = .ok (.iaload, 1) := by decide +kernel
theorem d_La_law_363 : decode b_La_law 363 = .ok (.aload_n 0, 1) := by decide +kernel
theorem d_La_law_364 : decode b_La_law 364 = .ok (.iload 4, 2) := by decide +kernel
theorem d_La_law_366 : decode b_La_law 366 = .ok (.iconst 2, 1) := by decide +kernel
theorem d_La_law_367 : decode b_La_law 367 = .ok (.iadd, 1) := by decide +kernel
theorem d_La_law_368 : decode b_La_law 368 = .ok (.iaload, 1) := by decide +kernel
theorem d_La_law_369 : decode b_La_law 369 = .ok (.aload_n 0, 1) := by decide +kernel
theorem d_La_law_370 : decode b_La_law 370 = .ok (.iload 4, 2) := by decide +kernel
theorem d_La_law_372 : decode b_La_law 372 = .ok (.iconst 3, 1) := by decide +kernel
theorem d_La_law_373 : decode b_La_law 373 = .ok (.iadd, 1) := by decide +kernel
theorem d_La_law_374 : decode b_La_law 374 = .ok (.iaload, 1) := by decide +kernel
theorem d_La_law_375 : decode b_La_law 375 = .ok (.aload_n 3, 1) := by decide +kernel
theorem d_La_law_376 : decode b_La_law 376 = .ok (.invokestatic 76, 3) := by decide +kernel
theorem d_La_law_379 : decode b_La_law 379 = .ok (.istore 5, 2) := by decide +kernel
theorem d_La_law_381 : decode b_La_law 381 = .ok (.aload_n 2, 1) := by decide +kernel
theorem d_La_law_382 : decode b_La_law 382 = .ok (.aload_n 0, 1) := by decide +kernel
theorem d_La_law_383 : decode b_La_law 383 = .ok (.iload 4, 2) := by decide +kernel
theorem d_La_law_385 : decode b_La_law 385 = .ok (.iconst 1, 1) := by decide +kernel
theorem d_La_law_386 : decode b_La_law 386 = .ok (.iadd, 1) := by decide +kernel
theorem d_La_law_387 : decode b_La_law 387 = .ok (.iaload, 1) := by decide +kernel
theorem d_La_law_388 : decode b_La_law 388 = .ok (.aload_n 0, 1) := by decide +kernel
theorem d_La_law_389 : decode b_La_law 389 = .ok (.iload 4, 2) := by decide +kernel
theorem d_La_law_391 : decode b_La_law 391 = .ok (.iconst 2, 1) := by decide +kernel
theorem d_La_law_392 : decode b_La_law 392 = .ok (.iadd, 1) := by decide +kernel
theorem d_La_law_393 : decode b_La_law 393 = .ok (.iaload, 1) := by decide +kernel
theorem d_La_law_394 : decode b_La_law 394 = .ok (.aload_n 0, 1) := by decide +kernel
theorem d_La_law_395 : decode b_La_law 395 = .ok (.iload 4, 2) := by decide +kernel
theorem d_La_law_397 : decode b_La_law 397 = .ok (.iconst 3, 1) := by decide +kernel
theorem d_La_law_398 : decode b_La_law 398 = .ok (.iadd, 1) := by decide +kernel
theorem d_La_law_399 : decode b_La_law 399 = .ok (.iaload, 1) := by decide +kernel
theorem d_La_law_400 : decode b_La_law 400 = .ok (.invokevirtual 79, 3) := by decide +kernel
theorem d_La_law_403 : decode b_La_law 403 = .ok (.istore 6, 2) := by decide +kernel
theorem d_La_law_405 : decode b_La_law 405 = .ok (.aload_n 2, 1) := by decide +kernel
theorem d_La_law_406 : decode b_La_law 406 = .ok (.invokevirtual 62, 3) := by decide +kernel
theorem d_La_law_409 : decode b_La_law 409 = .ok (.iload 5, 2) := by decide +kernel
theorem d_La_law_411 : decode b_La_law 411 = .ok (.if_icmp .eq 5, 3) := by decide +kernel
theorem d_La_law_416 : decode b_La_law 416 = .ok (.iload 5, 2) := by decide +kernel
theorem d_La_law_418 : decode b_La_law 418 = .ok (.ifCond .ne 15, 3) := by decide +kernel
theorem d_La_law_433 : decode b_La_law 433 = .ok (.goto 318, 3) := by decide +kernel
set_option maxHeartbeats 4000000 in
set_option maxRecDepth 100000 in
theorem law_0 {p : Program} {e : Env} {s : State} {m : MethodId} {below : List Frame} {meth : Method} {c : Code} (l : Launch) (hfl : l.flags = flags0) {b : Nat} {xs : Nat → Int32} {A : Nat → Prop} (hA : ∀ q, s.heap.size ≤ q → A q) (hA2 : ∀ q, A q → s.heap.size ≤ q) (C0 : lw_At p s m meth c b 6 xs) (hT : ux_T s) (hH : ux_H s) (dC : Nat → ClassId) (dI : Nat → Nat → Nat) (q1 : Nat) (q3 : Nat) (q4 : Nat) (q5 : Nat) (q6 : Nat) (q7 : Nat) (q8 : Nat) (q9 : Nat) (q10 : Nat) (q11 : Nat) (q12 : Nat) (q13 : Nat) (q14 : Nat) (q15 : Nat) (q16 : Nat) (q17 : Nat) (q18 : Nat) (q19 : Nat) (q20 : Nat) (q21 : Nat) (q22 : Nat) (q23 : Nat) (q24 : Nat) (q27 : Nat) (q29 : Nat) (q30 : Nat) (q31 : Nat) (q32 : Nat) (q33 : Nat) (q34 : Nat) (q35 : Nat) (q36 : Nat) (q37 : Nat) (q38 : Nat) (q39 : Nat) (q40 : Nat) (q41 : Nat) (q42 : Nat) (q43 : Nat) (q44 : Nat) (q45 : Nat) (q46 : Nat) (q47 : Nat) (q48 : Nat) (q49 : Nat) (q50 : Nat) (q51 : Nat) (q54 : Nat) (cA25 : ClassId) (cA52 : ClassId) (cA53 : ClassId) (cA55 : ClassId) {H : Heap} {locs : List Loc} {ls : Array Slot} (hK : va_K (dC, dI) cls [(cA25, .byte), (cA52, .byte), (cA53, .byte), (cA55, .long)] s) (hP : va_P (dC, dI) cls [(q1, .inr (0, [.ref q3, .int 0, .int 0, .ref q4, .ref q5, .ref q6, .ref q7, .ref q8, .ref q9, .ref q10, .ref q11, .ref q3, .int 0, .int 0])), (q3, .inl (cA25, 2000, .inl (fun _ => 0))), (q4, .inr (1, [.ref q12, .ref q13, .ref q14, .int 0, .int 0])), (q5, .inr (2, [.ref q4, .ref q15, .ref q16, .int 0, .int 0])), (q6, .inr (3, [.ref q17, .int 0])), (q8, .inr (6, [.ref q18, .ref q19, .ref q5, .int 0, .int 0])), (q9, .inr (10, [.ref q20, .ref q21, .ref q22, .ref q23, .ref q24, .int 0])), (q27, .inr (12, [.ref q29, .ref q30, .ref q31, .int 0, .int 0, .int 0, .int 0, .int 0, .ref q32, .ref q33, .ref q34, .ref q35, .ref q36, .int 0, .int 0, .ref q37, .ref q38, .ref q39, .ref q40, .ref q41, .ref q42, .ref q43, .ref q44, .int 0, .int 0, .ref q45, .ref q46, .ref q47, .ref q48, .ref q49, .int 0, .ref q50, .int 0, .int 0, .int 0, .int 0, .ref q51, .int 0, .int 0])), (q29, .inl (cA52, 2000, .inl (fun _ => 0))), (q30, .inl (cA53, 5718, .inl (fun _ => 0))), (q54, .inl (cA55, 1, .inr (.inl (fun _ => 0))))] H) (hD : va_D A [(q1, .inr (0, [.ref q3, .int 0, .int 0, .ref q4, .ref q5, .ref q6, .ref q7, .ref q8, .ref q9, .ref q10, .ref q11, .ref q3, .int 0, .int 0])), (q3, .inl (cA25, 2000, .inl (fun _ => 0))), (q4, .inr (1, [.ref q12, .ref q13, .ref q14, .int 0, .int 0])), (q5, .inr (2, [.ref q4, .ref q15, .ref q16, .int 0, .int 0])), (q6, .inr (3, [.ref q17, .int 0])), (q8, .inr (6, [.ref q18, .ref q19, .ref q5, .int 0, .int 0])), (q9, .inr (10, [.ref q20, .ref q21, .ref q22, .ref q23, .ref q24, .int 0])), (q27, .inr (12, [.ref q29, .ref q30, .ref q31, .int 0, .int 0, .int 0, .int 0, .int 0, .ref q32, .ref q33, .ref q34, .ref q35, .ref q36, .int 0, .int 0, .ref q37, .ref q38, .ref q39, .ref q40, .ref q41, .ref q42, .ref q43, .ref q44, .int 0, .int 0, .ref q45, .ref q46, .ref q47, .ref q48, .ref q49, .int 0, .ref q50, .int 0, .int 0, .int 0, .int 0, .ref q51, .int 0, .int 0])), (q29, .inl (cA52, 2000, .inl (fun _ => 0))), (q30, .inl (cA53, 5718, .inl (fun _ => 0))), (q54, .inl (cA55, 1, .inr (.inl (fun _ => 0))))]) (hS : va_S A s.heap H locs) (hl : lv_has ls 8 [(4, .int 0), (3, .ref q54), (2, .ref q27), (1, .ref q1), (0, .ref b)]) : W p l e room_1 s m #[Value.ref b] below meth c H locs 219 543617 (lw_Z below #[Value.ref b] s) (F0 m 96 ls []) := by
  obtain ⟨hx, hb, hr, hml, hown, hts, hX, hbl, hlocks, hgv⟩ := C0
  have hown : s.vm.findClass "UnikernelHttpLaw" = some m.cls := hown
  have hbA : ¬ A b := fun h => absurd (hA2 b h) (by omega)
  have hfx : CallFix p m c b_La_law 8 s #[Value.ref b] [] "UnikernelHttpLaw" := ⟨hx, hb, hml, hown, fun _ h => by cases h⟩
  obtain ⟨v1, hv1⟩ : ∃ v, xs (1 : Int32).toNatClampNeg = v := ⟨_, rfl⟩
  obtain ⟨v2, hv2⟩ : ∃ v, xs (2 : Int32).toNatClampNeg = v := ⟨_, rfl⟩
  obtain ⟨v3, hv3⟩ : ∃ v, xs (3 : Int32).toNatClampNeg = v := ⟨_, rfl⟩
  obtain ⟨v4, hv4⟩ : ∃ v, xs (4 : Int32).toNatClampNeg = v := ⟨_, rfl⟩
  obtain ⟨v5, hv5⟩ : ∃ v, xs (5 : Int32).toNatClampNeg = v := ⟨_, rfl⟩
  refine lv_aload_n hx hb d_La_law_96 rfl (lv_at hl 3 rfl) ?_
  refine lv_aload_n hx hb d_La_law_97 rfl (lv_at hl 4 rfl) ?_
  refine lv_iload hx hb d_La_law_98 (lv_at hl 0 rfl) ?_
  refine lv_iconst (v := 1) hx hb d_La_law_100 (by decide) ?_
  refine lv_iadd hx hb d_La_law_101 ?_
  refine lv_topi (fun x1001 ex1001 => ?_)
  obtain rfl : x1001 = 1 := ex1001.trans (by decide)
  refine va_sld hx hb hX hbl hbA hS (i := 1) (show ¬ ((1 : Int32) < 0 ∨ 6 ≤ (1 : Int32).toNatClampNeg) by decide) d_La_law_102 ?_
  refine lv_topi (fun x1002 ex1002 => ?_)
  obtain rfl : v1 = x1002 := (ex1002.trans hv1).symm
  refine lv_aload_n hx hb d_La_law_103 rfl (lv_at hl 4 rfl) ?_
  refine lv_iload hx hb d_La_law_104 (lv_at hl 0 rfl) ?_
  refine lv_iconst (v := 2) hx hb d_La_law_106 (by decide) ?_
  refine lv_iadd hx hb d_La_law_107 ?_
  refine lv_topi (fun x1003 ex1003 => ?_)
  obtain rfl : x1003 = 2 := ex1003.trans (by decide)
  refine va_sld hx hb hX hbl hbA hS (i := 2) (show ¬ ((2 : Int32) < 0 ∨ 6 ≤ (2 : Int32).toNatClampNeg) by decide) d_La_law_108 ?_
  refine lv_topi (fun x1004 ex1004 => ?_)
  obtain rfl : v2 = x1004 := (ex1004.trans hv2).symm
  refine lv_aload_n hx hb d_La_law_109 rfl (lv_at hl 4 rfl) ?_
  refine lv_iload hx hb d_La_law_110 (lv_at hl 0 rfl) ?_
  refine lv_iconst (v := 3) hx hb d_La_law_112 (by decide) ?_
  refine lv_iadd hx hb d_La_law_113 ?_
  refine lv_topi (fun x1005 ex1005 => ?_)
  obtain rfl : x1005 = 3 := ex1005.trans (by decide)
  refine va_sld hx hb hX hbl hbA hS (i := 3) (show ¬ ((3 : Int32) < 0 ∨ 6 ≤ (3 : Int32).toNatClampNeg) by decide) d_La_law_114 ?_
  refine lv_topi (fun x1006 ex1006 => ?_)
  obtain rfl : v3 = x1006 := (ex1006.trans hv3).symm
  refine lv_aload_n hx hb d_La_law_115 rfl (lv_at hl 4 rfl) ?_
  refine lv_iload hx hb d_La_law_116 (lv_at hl 0 rfl) ?_
  refine lv_iconst (v := 4) hx hb d_La_law_118 (by decide) ?_
  refine lv_iadd hx hb d_La_law_119 ?_
  refine lv_topi (fun x1007 ex1007 => ?_)
  obtain rfl : x1007 = 4 := ex1007.trans (by decide)
  refine va_sld hx hb hX hbl hbA hS (i := 4) (show ¬ ((4 : Int32) < 0 ∨ 6 ≤ (4 : Int32).toNatClampNeg) by decide) d_La_law_120 ?_
  refine lv_topi (fun x1008 ex1008 => ?_)
  obtain rfl : v4 = x1008 := (ex1008.trans hv4).symm
  refine lv_aload_n hx hb d_La_law_121 rfl (lv_at hl 4 rfl) ?_
  refine lv_iload hx hb d_La_law_122 (lv_at hl 0 rfl) ?_
  refine lv_iconst (v := 5) hx hb d_La_law_124 (by decide) ?_
  refine lv_iadd hx hb d_La_law_125 ?_
  refine lv_topi (fun x1009 ex1009 => ?_)
  obtain rfl : x1009 = 5 := ex1009.trans (by decide)
  refine va_sld hx hb hX hbl hbA hS (i := 5) (show ¬ ((5 : Int32) < 0 ∨ 6 ≤ (5 : Int32).toNatClampNeg) by decide) d_La_law_126 ?_
  refine lv_topi (fun x1010 ex1010 => ?_)
  obtain rfl : v5 = x1010 := (ex1010.trans hv5).symm
  refine lv_aload_n hx hb d_La_law_127 rfl (lv_at hl 1 rfl) ?_
  have hhp : ∀ q, q < s.heap.size → H[q]? = s.heap[q]? := fun q hq => hS.2.1 q hq (fun h => absurd (hA2 q h) (by omega))
  have hPc := hP.sub (ws' := [(q1, .inr (0, [.ref q3, .int 0, .int 0, .ref q4, .ref q5, .ref q6, .ref q7, .ref q8, .ref q9, .ref q10, .ref q11, .ref q3, .int 0, .int 0])), (q3, .inl (cA25, 2000, .inl (fun _ => 0))), (q54, .inl (cA55, 1, .inr (.inl (fun _ => 0))))]) [0, 1, 10] rfl
  have hDc := hD.sub (ws' := [(q1, .inr (0, [.ref q3, .int 0, .int 0, .ref q4, .ref q5, .ref q6, .ref q7, .ref q8, .ref q9, .ref q10, .ref q11, .ref q3, .int 0, .int 0])), (q3, .inl (cA25, 2000, .inl (fun _ => 0))), (q54, .inl (cA55, 1, .inr (.inl (fun _ => 0))))]) [0, 1, 10] (by decide) rfl
  have hKc := hK.sub (tys' := [(cA25, .byte), (cA55, .long)]) [0, 3] rfl
  have hFc := va_free (wc := [(q1, .inr (0, [.ref q3, .int 0, .int 0, .ref q4, .ref q5, .ref q6, .ref q7, .ref q8, .ref q9, .ref q10, .ref q11, .ref q3, .int 0, .int 0])), (q3, .inl (cA25, 2000, .inl (fun _ => 0))), (q54, .inl (cA55, 1, .inr (.inl (fun _ => 0))))]) hD hS hA [0, 1, 10] rfl
  have hkc : 219 + 0 ≤ 600002 := (Nat.le_of_ble_eq_true rfl)
  refine va_calli (ux_runSW (n := 7) (As := [.ref q1, .int v1, .int v2, .int v3, .int v4, .int v5, .ref q54]) (rest := []) hfx (c_La_feed l dC dI q1 q54 q3 q4 q5 q6 q7 q8 q9 q10 q11 cA25 cA55 v1 v2 v3 v4 v5 H.size) hT tw_488 tw_486 tw_0 tw_487 rfl rfl (by decide +kernel) ⟨(Nat.le_of_ble_eq_true rfl), (Nat.le_of_ble_eq_true rfl)⟩ (ux_pre [.ref q1, .int v1, .int v2, .int v3, .int v4, .int v5, .ref q54] hT hPc hKc hDc) rfl rfl hl.1 rfl (lv_room (Nat.le_of_ble_eq_true rfl)) d_La_law_128 ⟨(Nat.le_of_ble_eq_true rfl), (Nat.le_of_ble_eq_true rfl)⟩) hS (fun q _ h => hFc q h) hFc (fun r1011 u t H1 locs ht hvm hw hB hz1 hk1 hS => ?_)
  obtain ⟨hP1, hK1, hD1⟩ := hB
  rw [ht] at hP1
  have hK1 := va_K.moved hvm.symm hK1
  obtain ⟨hP, hD⟩ := va_join (wr := [(q4, .inr (1, [.ref q12, .ref q13, .ref q14, .int 0, .int 0])), (q5, .inr (2, [.ref q4, .ref q15, .ref q16, .int 0, .int 0])), (q6, .inr (3, [.ref q17, .int 0])), (q8, .inr (6, [.ref q18, .ref q19, .ref q5, .int 0, .int 0])), (q9, .inr (10, [.ref q20, .ref q21, .ref q22, .ref q23, .ref q24, .int 0])), (q27, .inr (12, [.ref q29, .ref q30, .ref q31, .int 0, .int 0, .int 0, .int 0, .int 0, .ref q32, .ref q33, .ref q34, .ref q35, .ref q36, .int 0, .int 0, .ref q37, .ref q38, .ref q39, .ref q40, .ref q41, .ref q42, .ref q43, .ref q44, .int 0, .int 0, .ref q45, .ref q46, .ref q47, .ref q48, .ref q49, .int 0, .ref q50, .int 0, .int 0, .int 0, .int 0, .ref q51, .int 0, .int 0])), (q29, .inl (cA52, 2000, .inl (fun _ => 0))), (q30, .inl (cA53, 5718, .inl (fun _ => 0)))]) (w1 := [(q54, .inl (cA55, 1, .inr (.inl (vp_updL (fun _ => 0) (0 : Int32).toNatClampNeg 20))))]) hP hD [0, 1, 10] [2, 3, 4, 5, 6, 7, 8, 9] rfl rfl (by decide) (by decide) hk1 hFc hP1 hD1
  have hK := (hK.sub (tys' := [(cA25, .byte), (cA52, .byte), (cA53, .byte), (cA55, .long)]) [0, 1, 2, 3] rfl).app hK1
  generalize H1 = H at hP hS ⊢
  have hP : va_P (dC, dI) cls [(q4, .inr (1, [.ref q12, .ref q13, .ref q14, .int 0, .int 0])), (q5, .inr (2, [.ref q4, .ref q15, .ref q16, .int 0, .int 0])), (q6, .inr (3, [.ref q17, .int 0])), (q8, .inr (6, [.ref q18, .ref q19, .ref q5, .int 0, .int 0])), (q9, .inr (10, [.ref q20, .ref q21, .ref q22, .ref q23, .ref q24, .int 0])), (q27, .inr (12, [.ref q29, .ref q30, .ref q31, .int 0, .int 0, .int 0, .int 0, .int 0, .ref q32, .ref q33, .ref q34, .ref q35, .ref q36, .int 0, .int 0, .ref q37, .ref q38, .ref q39, .ref q40, .ref q41, .ref q42, .ref q43, .ref q44, .int 0, .int 0, .ref q45, .ref q46, .ref q47, .ref q48, .ref q49, .int 0, .ref q50, .int 0, .int 0, .int 0, .int 0, .ref q51, .int 0, .int 0])), (q29, .inl (cA52, 2000, .inl (fun _ => 0))), (q30, .inl (cA53, 5718, .inl (fun _ => 0))), (q54, .inl (cA55, 1, .inr (.inl (vp_updL (fun _ => 0) (0 : Int32).toNatClampNeg 20))))] H := hP
  have hD : va_D A [(q4, .inr (1, [.ref q12, .ref q13, .ref q14, .int 0, .int 0])), (q5, .inr (2, [.ref q4, .ref q15, .ref q16, .int 0, .int 0])), (q6, .inr (3, [.ref q17, .int 0])), (q8, .inr (6, [.ref q18, .ref q19, .ref q5, .int 0, .int 0])), (q9, .inr (10, [.ref q20, .ref q21, .ref q22, .ref q23, .ref q24, .int 0])), (q27, .inr (12, [.ref q29, .ref q30, .ref q31, .int 0, .int 0, .int 0, .int 0, .int 0, .ref q32, .ref q33, .ref q34, .ref q35, .ref q36, .int 0, .int 0, .ref q37, .ref q38, .ref q39, .ref q40, .ref q41, .ref q42, .ref q43, .ref q44, .int 0, .int 0, .ref q45, .ref q46, .ref q47, .ref q48, .ref q49, .int 0, .ref q50, .int 0, .int 0, .int 0, .int 0, .ref q51, .int 0, .int 0])), (q29, .inl (cA52, 2000, .inl (fun _ => 0))), (q30, .inl (cA53, 5718, .inl (fun _ => 0))), (q54, .inl (cA55, 1, .inr (.inl (vp_updL (fun _ => 0) (0 : Int32).toNatClampNeg 20))))] := hD
  have hK : va_K (dC, dI) cls [(cA25, .byte), (cA52, .byte), (cA53, .byte), (cA55, .long), (cA55, .long)] s := hK
  obtain rfl : r1011 = 0 := hw
  refine lv_istore hx hb d_La_law_131 hl (by decide) rfl (fun ls hl => ?_)
  have hl : lv_has ls 8 [(5, .int 0), (4, .int 0), (3, .ref q54), (2, .ref q27), (1, .ref q1), (0, .ref b)] := hl
  refine lv_aload_n hx hb d_La_law_133 rfl (lv_at hl 3 rfl) ?_
  refine lv_aload_n hx hb d_La_law_134 rfl (lv_at hl 5 rfl) ?_
  refine lv_iload hx hb d_La_law_135 (lv_at hl 1 rfl) ?_
  refine lv_iconst (v := 1) hx hb d_La_law_137 (by decide) ?_
  refine lv_iadd hx hb d_La_law_138 ?_
  refine lv_topi (fun x1012 ex1012 => ?_)
  obtain rfl : x1012 = 1 := ex1012.trans (by decide)
  refine va_sld hx hb hX hbl hbA hS (i := 1) (show ¬ ((1 : Int32) < 0 ∨ 6 ≤ (1 : Int32).toNatClampNeg) by decide) d_La_law_139 ?_
  refine lv_topi (fun x1013 ex1013 => ?_)
  obtain rfl : v1 = x1013 := (ex1013.trans hv1).symm
  refine lv_aload_n hx hb d_La_law_140 rfl (lv_at hl 5 rfl) ?_
  refine lv_iload hx hb d_La_law_141 (lv_at hl 1 rfl) ?_
  refine lv_iconst (v := 2) hx hb d_La_law_143 (by decide) ?_
  refine lv_iadd hx hb d_La_law_144 ?_
  refine lv_topi (fun x1014 ex1014 => ?_)
  obtain rfl : x1014 = 2 := ex1014.trans (by decide)
  refine va_sld hx hb hX hbl hbA hS (i := 2) (show ¬ ((2 : Int32) < 0 ∨ 6 ≤ (2 : Int32).toNatClampNeg) by decide) d_La_law_145 ?_
  refine lv_topi (fun x1015 ex1015 => ?_)
  obtain rfl : v2 = x1015 := (ex1015.trans hv2).symm
  refine lv_aload_n hx hb d_La_law_146 rfl (lv_at hl 5 rfl) ?_
  refine lv_iload hx hb d_La_law_147 (lv_at hl 1 rfl) ?_
  refine lv_iconst (v := 3) hx hb d_La_law_149 (by decide) ?_
  refine lv_iadd hx hb d_La_law_150 ?_
  refine lv_topi (fun x1016 ex1016 => ?_)
  obtain rfl : x1016 = 3 := ex1016.trans (by decide)
  refine va_sld hx hb hX hbl hbA hS (i := 3) (show ¬ ((3 : Int32) < 0 ∨ 6 ≤ (3 : Int32).toNatClampNeg) by decide) d_La_law_151 ?_
  refine lv_topi (fun x1017 ex1017 => ?_)
  obtain rfl : v3 = x1017 := (ex1017.trans hv3).symm
  refine lv_aload_n hx hb d_La_law_152 rfl (lv_at hl 5 rfl) ?_
  refine lv_iload hx hb d_La_law_153 (lv_at hl 1 rfl) ?_
  refine lv_iconst (v := 4) hx hb d_La_law_155 (by decide) ?_
  refine lv_iadd hx hb d_La_law_156 ?_
  refine lv_topi (fun x1018 ex1018 => ?_)
  obtain rfl : x1018 = 4 := ex1018.trans (by decide)
  refine va_sld hx hb hX hbl hbA hS (i := 4) (show ¬ ((4 : Int32) < 0 ∨ 6 ≤ (4 : Int32).toNatClampNeg) by decide) d_La_law_157 ?_
  refine lv_topi (fun x1019 ex1019 => ?_)
  obtain rfl : v4 = x1019 := (ex1019.trans hv4).symm
  refine lv_aload_n hx hb d_La_law_158 rfl (lv_at hl 5 rfl) ?_
  refine lv_iload hx hb d_La_law_159 (lv_at hl 1 rfl) ?_
  refine lv_iconst (v := 5) hx hb d_La_law_161 (by decide) ?_
  refine lv_iadd hx hb d_La_law_162 ?_
  refine lv_topi (fun x1020 ex1020 => ?_)
  obtain rfl : x1020 = 5 := ex1020.trans (by decide)
  refine va_sld hx hb hX hbl hbA hS (i := 5) (show ¬ ((5 : Int32) < 0 ∨ 6 ≤ (5 : Int32).toNatClampNeg) by decide) d_La_law_163 ?_
  refine lv_topi (fun x1021 ex1021 => ?_)
  obtain rfl : v5 = x1021 := (ex1021.trans hv5).symm
  have hhp : ∀ q, q < s.heap.size → H[q]? = s.heap[q]? := fun q hq => hS.2.1 q hq (fun h => absurd (hA2 q h) (by omega))
  have hPc := hP.sub (ws' := [(q27, .inr (12, [.ref q29, .ref q30, .ref q31, .int 0, .int 0, .int 0, .int 0, .int 0, .ref q32, .ref q33, .ref q34, .ref q35, .ref q36, .int 0, .int 0, .ref q37, .ref q38, .ref q39, .ref q40, .ref q41, .ref q42, .ref q43, .ref q44, .int 0, .int 0, .ref q45, .ref q46, .ref q47, .ref q48, .ref q49, .int 0, .ref q50, .int 0, .int 0, .int 0, .int 0, .ref q51, .int 0, .int 0])), (q29, .inl (cA52, 2000, .inl (fun _ => 0)))]) [5, 6] rfl
  have hDc := hD.sub (ws' := [(q27, .inr (12, [.ref q29, .ref q30, .ref q31, .int 0, .int 0, .int 0, .int 0, .int 0, .ref q32, .ref q33, .ref q34, .ref q35, .ref q36, .int 0, .int 0, .ref q37, .ref q38, .ref q39, .ref q40, .ref q41, .ref q42, .ref q43, .ref q44, .int 0, .int 0, .ref q45, .ref q46, .ref q47, .ref q48, .ref q49, .int 0, .ref q50, .int 0, .int 0, .int 0, .int 0, .ref q51, .int 0, .int 0])), (q29, .inl (cA52, 2000, .inl (fun _ => 0)))]) [5, 6] (by decide) rfl
  have hKc := hK.sub (tys' := [(cA52, .byte)]) [1] rfl
  have hFc := va_free (wc := [(q27, .inr (12, [.ref q29, .ref q30, .ref q31, .int 0, .int 0, .int 0, .int 0, .int 0, .ref q32, .ref q33, .ref q34, .ref q35, .ref q36, .int 0, .int 0, .ref q37, .ref q38, .ref q39, .ref q40, .ref q41, .ref q42, .ref q43, .ref q44, .int 0, .int 0, .ref q45, .ref q46, .ref q47, .ref q48, .ref q49, .int 0, .ref q50, .int 0, .int 0, .int 0, .int 0, .ref q51, .int 0, .int 0])), (q29, .inl (cA52, 2000, .inl (fun _ => 0)))]) hD hS hA [5, 6] rfl
  have hkc : 219 + 0 ≤ 600002 := (Nat.le_of_ble_eq_true rfl)
  refine va_calli (va_runV (As := [.int v1, .int v2, .int v3, .int v4, .int v5]) (rest := []) hfx (c_Mo_feed l dC dI q27 q29 q30 q31 q32 q33 q34 q35 q36 q37 q38 q39 q40 q41 q42 q43 q44 q45 q46 q47 q48 q49 q50 q51 cA52 v1 v2 v3 v4 v5 (fun _ => 0) H.size) ⟨(ux_cb 5 hT tw_1718 tw_1715 tw_13 rfl rfl (by decide +kernel) ⟨(Nat.le_of_ble_eq_true rfl), (Nat.le_of_ble_eq_true rfl)⟩), (ux_T_at hT tw_1716 rfl), (ux_T_at hT tw_1717 rfl)⟩ (ux_preV (r := (R_Mo, F_Mo, 39)) (ci := 12) (q0 := 0) [.int v1, .int v2, .int v3, .int v4, .int v5] hT hPc hKc hDc rfl rfl) rfl rfl hl.1 rfl (lv_room (Nat.le_of_ble_eq_true rfl)) d_La_law_164 ⟨(Nat.le_of_ble_eq_true rfl), (Nat.le_of_ble_eq_true rfl)⟩) hS (fun q _ h => hFc q h) hFc (fun r1022 u t H1 locs ht hvm hw hB hz1 hk1 hS => ?_)
  obtain ⟨hP1, hK1, hD1⟩ := hB
  rw [ht] at hP1
  have hK1 := va_K.moved hvm.symm hK1
  obtain ⟨hP, hD⟩ := va_join (wr := [(q4, .inr (1, [.ref q12, .ref q13, .ref q14, .int 0, .int 0])), (q5, .inr (2, [.ref q4, .ref q15, .ref q16, .int 0, .int 0])), (q6, .inr (3, [.ref q17, .int 0])), (q8, .inr (6, [.ref q18, .ref q19, .ref q5, .int 0, .int 0])), (q9, .inr (10, [.ref q20, .ref q21, .ref q22, .ref q23, .ref q24, .int 0])), (q30, .inl (cA53, 5718, .inl (fun _ => 0))), (q54, .inl (cA55, 1, .inr (.inl (vp_updL (fun _ => 0) (0 : Int32).toNatClampNeg 20))))]) (w1 := [(q27, .inr (12, [.ref q29, .ref q30, .ref q31, .int 20, .int 0, .int 0, .int 0, .int 0, .ref q32, .ref q33, .ref q34, .ref q35, .ref q36, .int 0, .int 0, .ref q37, .ref q38, .ref q39, .ref q40, .ref q41, .ref q42, .ref q43, .ref q44, .int 0, .int 0, .ref q45, .ref q46, .ref q47, .ref q48, .ref q49, .int 0, .ref q50, .int 0, .int 0, .int 0, .int 0, .ref q51, .int 0, .int 0]))]) hP hD [5, 6] [0, 1, 2, 3, 4, 7, 8] rfl rfl (by decide) (by decide) hk1 hFc hP1 hD1
  have hK := (hK.sub (tys' := [(cA25, .byte), (cA52, .byte), (cA53, .byte), (cA55, .long), (cA55, .long)]) [0, 1, 2, 3, 4] rfl).app hK1
  generalize H1 = H at hP hS ⊢
  have hP : va_P (dC, dI) cls [(q4, .inr (1, [.ref q12, .ref q13, .ref q14, .int 0, .int 0])), (q5, .inr (2, [.ref q4, .ref q15, .ref q16, .int 0, .int 0])), (q6, .inr (3, [.ref q17, .int 0])), (q8, .inr (6, [.ref q18, .ref q19, .ref q5, .int 0, .int 0])), (q9, .inr (10, [.ref q20, .ref q21, .ref q22, .ref q23, .ref q24, .int 0])), (q30, .inl (cA53, 5718, .inl (fun _ => 0))), (q54, .inl (cA55, 1, .inr (.inl (vp_updL (fun _ => 0) (0 : Int32).toNatClampNeg 20)))), (q27, .inr (12, [.ref q29, .ref q30, .ref q31, .int 20, .int 0, .int 0, .int 0, .int 0, .ref q32, .ref q33, .ref q34, .ref q35, .ref q36, .int 0, .int 0, .ref q37, .ref q38, .ref q39, .ref q40, .ref q41, .ref q42, .ref q43, .ref q44, .int 0, .int 0, .ref q45, .ref q46, .ref q47, .ref q48, .ref q49, .int 0, .ref q50, .int 0, .int 0, .int 0, .int 0, .ref q51, .int 0, .int 0]))] H := hP
  have hD : va_D A [(q4, .inr (1, [.ref q12, .ref q13, .ref q14, .int 0, .int 0])), (q5, .inr (2, [.ref q4, .ref q15, .ref q16, .int 0, .int 0])), (q6, .inr (3, [.ref q17, .int 0])), (q8, .inr (6, [.ref q18, .ref q19, .ref q5, .int 0, .int 0])), (q9, .inr (10, [.ref q20, .ref q21, .ref q22, .ref q23, .ref q24, .int 0])), (q30, .inl (cA53, 5718, .inl (fun _ => 0))), (q54, .inl (cA55, 1, .inr (.inl (vp_updL (fun _ => 0) (0 : Int32).toNatClampNeg 20)))), (q27, .inr (12, [.ref q29, .ref q30, .ref q31, .int 20, .int 0, .int 0, .int 0, .int 0, .ref q32, .ref q33, .ref q34, .ref q35, .ref q36, .int 0, .int 0, .ref q37, .ref q38, .ref q39, .ref q40, .ref q41, .ref q42, .ref q43, .ref q44, .int 0, .int 0, .ref q45, .ref q46, .ref q47, .ref q48, .ref q49, .int 0, .ref q50, .int 0, .int 0, .int 0, .int 0, .ref q51, .int 0, .int 0]))] := hD
  have hK : va_K (dC, dI) cls [(cA25, .byte), (cA52, .byte), (cA53, .byte), (cA55, .long), (cA55, .long)] s := hK
  obtain rfl : r1022 = 20 := hw
  refine lv_istore hx hb d_La_law_167 hl (by decide) rfl (fun ls hl => ?_)
  have hl : lv_has ls 8 [(6, .int 20), (5, .int 0), (4, .int 0), (3, .ref q54), (2, .ref q27), (1, .ref q1), (0, .ref b)] := hl
  refine lv_aload_n hx hb d_La_law_169 rfl (lv_at hl 4 rfl) ?_
  have hhp : ∀ q, q < s.heap.size → H[q]? = s.heap[q]? := fun q hq => hS.2.1 q hq (fun h => absurd (hA2 q h) (by omega))
  have hPc := hP.sub (ws' := [(q27, .inr (12, [.ref q29, .ref q30, .ref q31, .int 20, .int 0, .int 0, .int 0, .int 0, .ref q32, .ref q33, .ref q34, .ref q35, .ref q36, .int 0, .int 0, .ref q37, .ref q38, .ref q39, .ref q40, .ref q41, .ref q42, .ref q43, .ref q44, .int 0, .int 0, .ref q45, .ref q46, .ref q47, .ref q48, .ref q49, .int 0, .ref q50, .int 0, .int 0, .int 0, .int 0, .ref q51, .int 0, .int 0]))]) [7] rfl
  have hDc := hD.sub (ws' := [(q27, .inr (12, [.ref q29, .ref q30, .ref q31, .int 20, .int 0, .int 0, .int 0, .int 0, .ref q32, .ref q33, .ref q34, .ref q35, .ref q36, .int 0, .int 0, .ref q37, .ref q38, .ref q39, .ref q40, .ref q41, .ref q42, .ref q43, .ref q44, .int 0, .int 0, .ref q45, .ref q46, .ref q47, .ref q48, .ref q49, .int 0, .ref q50, .int 0, .int 0, .int 0, .int 0, .ref q51, .int 0, .int 0]))]) [7] (by decide) rfl
  have hKc := hK.sub (tys' := []) [] rfl
  have hFc := va_free (wc := [(q27, .inr (12, [.ref q29, .ref q30, .ref q31, .int 20, .int 0, .int 0, .int 0, .int 0, .ref q32, .ref q33, .ref q34, .ref q35, .ref q36, .int 0, .int 0, .ref q37, .ref q38, .ref q39, .ref q40, .ref q41, .ref q42, .ref q43, .ref q44, .int 0, .int 0, .ref q45, .ref q46, .ref q47, .ref q48, .ref q49, .int 0, .ref q50, .int 0, .int 0, .int 0, .int 0, .ref q51, .int 0, .int 0]))]) hD hS hA [7] rfl
  have hkc : 219 + 0 ≤ 600002 := (Nat.le_of_ble_eq_true rfl)
  refine va_calli (va_runV (As := []) (rest := []) hfx (c_Mo_thrown_0 l dC dI q27 q29 q30 q31 q32 q33 q34 q35 q36 q37 q38 q39 q40 q41 q42 q43 q44 q45 q46 q47 q48 q49 q50 q51 20 0 H.size) ⟨(ux_cb 0 hT tw_1714 tw_1711 tw_13 rfl rfl (by decide +kernel) ⟨(Nat.le_of_ble_eq_true rfl), (Nat.le_of_ble_eq_true rfl)⟩), (ux_T_at hT tw_1712 rfl), (ux_T_at hT tw_1713 rfl)⟩ (ux_preV (r := (R_Mo, F_Mo, 39)) (ci := 12) (q0 := 0) [] hT hPc hKc hDc rfl rfl) rfl rfl hl.1 rfl (lv_room (Nat.le_of_ble_eq_true rfl)) d_La_law_170 ⟨(Nat.le_of_ble_eq_true rfl), (Nat.le_of_ble_eq_true rfl)⟩) hS (fun q _ h => hFc q h) hFc (fun r1023 u t H1 locs ht hvm hw hB hz1 hk1 hS => ?_)
  obtain ⟨hP1, hK1, hD1⟩ := hB
  rw [ht] at hP1
  have hK1 := va_K.moved hvm.symm hK1
  obtain ⟨hP, hD⟩ := va_join (wr := [(q4, .inr (1, [.ref q12, .ref q13, .ref q14, .int 0, .int 0])), (q5, .inr (2, [.ref q4, .ref q15, .ref q16, .int 0, .int 0])), (q6, .inr (3, [.ref q17, .int 0])), (q8, .inr (6, [.ref q18, .ref q19, .ref q5, .int 0, .int 0])), (q9, .inr (10, [.ref q20, .ref q21, .ref q22, .ref q23, .ref q24, .int 0])), (q30, .inl (cA53, 5718, .inl (fun _ => 0))), (q54, .inl (cA55, 1, .inr (.inl (vp_updL (fun _ => 0) (0 : Int32).toNatClampNeg 20))))]) (w1 := [(q27, .inr (12, [.ref q29, .ref q30, .ref q31, .int 20, .int 0, .int 0, .int 0, .int 0, .ref q32, .ref q33, .ref q34, .ref q35, .ref q36, .int 0, .int 0, .ref q37, .ref q38, .ref q39, .ref q40, .ref q41, .ref q42, .ref q43, .ref q44, .int 0, .int 0, .ref q45, .ref q46, .ref q47, .ref q48, .ref q49, .int 0, .ref q50, .int 0, .int 0, .int 0, .int 0, .ref q51, .int 0, .int 0]))]) hP hD [7] [0, 1, 2, 3, 4, 5, 6] rfl rfl (by decide) (by decide) hk1 hFc hP1 hD1
  have hK := (hK.sub (tys' := [(cA25, .byte), (cA52, .byte), (cA53, .byte), (cA55, .long), (cA55, .long)]) [0, 1, 2, 3, 4] rfl).app hK1
  generalize H1 = H at hP hS ⊢
  have hP : va_P (dC, dI) cls [(q4, .inr (1, [.ref q12, .ref q13, .ref q14, .int 0, .int 0])), (q5, .inr (2, [.ref q4, .ref q15, .ref q16, .int 0, .int 0])), (q6, .inr (3, [.ref q17, .int 0])), (q8, .inr (6, [.ref q18, .ref q19, .ref q5, .int 0, .int 0])), (q9, .inr (10, [.ref q20, .ref q21, .ref q22, .ref q23, .ref q24, .int 0])), (q30, .inl (cA53, 5718, .inl (fun _ => 0))), (q54, .inl (cA55, 1, .inr (.inl (vp_updL (fun _ => 0) (0 : Int32).toNatClampNeg 20)))), (q27, .inr (12, [.ref q29, .ref q30, .ref q31, .int 20, .int 0, .int 0, .int 0, .int 0, .ref q32, .ref q33, .ref q34, .ref q35, .ref q36, .int 0, .int 0, .ref q37, .ref q38, .ref q39, .ref q40, .ref q41, .ref q42, .ref q43, .ref q44, .int 0, .int 0, .ref q45, .ref q46, .ref q47, .ref q48, .ref q49, .int 0, .ref q50, .int 0, .int 0, .int 0, .int 0, .ref q51, .int 0, .int 0]))] H := hP
  have hD : va_D A [(q4, .inr (1, [.ref q12, .ref q13, .ref q14, .int 0, .int 0])), (q5, .inr (2, [.ref q4, .ref q15, .ref q16, .int 0, .int 0])), (q6, .inr (3, [.ref q17, .int 0])), (q8, .inr (6, [.ref q18, .ref q19, .ref q5, .int 0, .int 0])), (q9, .inr (10, [.ref q20, .ref q21, .ref q22, .ref q23, .ref q24, .int 0])), (q30, .inl (cA53, 5718, .inl (fun _ => 0))), (q54, .inl (cA55, 1, .inr (.inl (vp_updL (fun _ => 0) (0 : Int32).toNatClampNeg 20)))), (q27, .inr (12, [.ref q29, .ref q30, .ref q31, .int 20, .int 0, .int 0, .int 0, .int 0, .ref q32, .ref q33, .ref q34, .ref q35, .ref q36, .int 0, .int 0, .ref q37, .ref q38, .ref q39, .ref q40, .ref q41, .ref q42, .ref q43, .ref q44, .int 0, .int 0, .ref q45, .ref q46, .ref q47, .ref q48, .ref q49, .int 0, .ref q50, .int 0, .int 0, .int 0, .int 0, .ref q51, .int 0, .int 0]))] := hD
  have hK : va_K (dC, dI) cls [(cA25, .byte), (cA52, .byte), (cA53, .byte), (cA55, .long), (cA55, .long)] s := hK
  obtain rfl : r1023 = 0 := hw
  refine lv_iload hx hb d_La_law_173 (lv_at hl 1 rfl) ?_
  refine lv_icmp_eq (tgt := 180) hx hb d_La_law_175 (by decide) (fun _ => ?_) (fun hc => absurd (by decide) hc)
  refine lv_iload hx hb d_La_law_180 (lv_at hl 1 rfl) ?_
  refine lv_if_ne (tgt := 197) hx hb d_La_law_182 (by decide) (fun hc => absurd (by decide) hc) (fun _ => ?_)
  refine lv_aload_n hx hb d_La_law_185 rfl (lv_at hl 3 rfl) ?_
  refine lv_iconst (v := 0) hx hb d_La_law_186 (by decide) ?_
  refine va_lald hx hb hK hP 6 3 rfl rfl (i := 0) (show ¬ ((0 : Int32) < 0 ∨ 1 ≤ (0 : Int32).toNatClampNeg) by decide) d_La_law_187 ?_
  refine lv_topl (fun x1024 ex1024 => ?_)
  obtain rfl : x1024 = 20 := ex1024.trans (by decide)
  refine lv_iload hx hb d_La_law_188 (lv_at hl 0 rfl) ?_
  refine lv_i2l (v := 20) hx hb d_La_law_190 (by decide) ?_
  refine W.lcmp hx hb d_La_law_191 ?_
  refine lv_topi (fun x1025 ex1025 => ?_)
  obtain rfl : x1025 = 0 := ex1025.trans (by decide)
  refine lv_if_eq (tgt := 197) hx hb d_La_law_192 (by decide) (fun _ => ?_) (fun hc => absurd (by decide) hc)
  refine lv_goto hx hb d_La_law_197 (tgt := 751) (by decide) ?_
  exact law_end l hA2 ⟨hx, hb, hr, hml, hown, hts, hX, hbl, hlocks, hgv⟩ (Nat.le_of_ble_eq_true rfl) (Nat.le_of_ble_eq_true rfl) hS (lv_sub hl [6, 2] rfl)
set_option maxHeartbeats 4000000 in
set_option maxRecDepth 100000 in
theorem law_1 {p : Program} {e : Env} {s : State} {m : MethodId} {below : List Frame} {meth : Method} {c : Code} (l : Launch) (hfl : l.flags = flags0) {b : Nat} {xs : Nat → Int32} {A : Nat → Prop} (hA : ∀ q, s.heap.size ≤ q → A q) (hA2 : ∀ q, A q → s.heap.size ≤ q) (C0 : lw_At p s m meth c b 6 xs) (hT : ux_T s) (hH : ux_H s) (dC : Nat → ClassId) (dI : Nat → Nat → Nat) (q1 : Nat) (q3 : Nat) (q4 : Nat) (q5 : Nat) (q6 : Nat) (q7 : Nat) (q8 : Nat) (q9 : Nat) (q10 : Nat) (q11 : Nat) (q12 : Nat) (q13 : Nat) (q14 : Nat) (q15 : Nat) (q16 : Nat) (q17 : Nat) (q18 : Nat) (q19 : Nat) (q20 : Nat) (q21 : Nat) (q22 : Nat) (q23 : Nat) (q24 : Nat) (q27 : Nat) (q29 : Nat) (q30 : Nat) (q31 : Nat) (q32 : Nat) (q33 : Nat) (q34 : Nat) (q35 : Nat) (q36 : Nat) (q37 : Nat) (q38 : Nat) (q39 : Nat) (q40 : Nat) (q41 : Nat) (q42 : Nat) (q43 : Nat) (q44 : Nat) (q45 : Nat) (q46 : Nat) (q47 : Nat) (q48 : Nat) (q49 : Nat) (q50 : Nat) (q51 : Nat) (q54 : Nat) (cA25 : ClassId) (cA52 : ClassId) (cA53 : ClassId) (cA55 : ClassId) {H : Heap} {locs : List Loc} {ls : Array Slot} (hK : va_K (dC, dI) cls [(cA25, .byte), (cA52, .byte), (cA53, .byte), (cA55, .long)] s) (hP : va_P (dC, dI) cls [(q1, .inr (0, [.ref q3, .int 0, .int 0, .ref q4, .ref q5, .ref q6, .ref q7, .ref q8, .ref q9, .ref q10, .ref q11, .ref q3, .int 0, .int 0])), (q3, .inl (cA25, 2000, .inl (fun _ => 0))), (q4, .inr (1, [.ref q12, .ref q13, .ref q14, .int 0, .int 0])), (q5, .inr (2, [.ref q4, .ref q15, .ref q16, .int 0, .int 0])), (q6, .inr (3, [.ref q17, .int 0])), (q8, .inr (6, [.ref q18, .ref q19, .ref q5, .int 0, .int 0])), (q9, .inr (10, [.ref q20, .ref q21, .ref q22, .ref q23, .ref q24, .int 0])), (q27, .inr (12, [.ref q29, .ref q30, .ref q31, .int 0, .int 0, .int 0, .int 0, .int 0, .ref q32, .ref q33, .ref q34, .ref q35, .ref q36, .int 0, .int 0, .ref q37, .ref q38, .ref q39, .ref q40, .ref q41, .ref q42, .ref q43, .ref q44, .int 0, .int 0, .ref q45, .ref q46, .ref q47, .ref q48, .ref q49, .int 0, .ref q50, .int 0, .int 0, .int 0, .int 0, .ref q51, .int 0, .int 0])), (q29, .inl (cA52, 2000, .inl (fun _ => 0))), (q30, .inl (cA53, 5718, .inl (fun _ => 0))), (q54, .inl (cA55, 1, .inr (.inl (fun _ => 0))))] H) (hD : va_D A [(q1, .inr (0, [.ref q3, .int 0, .int 0, .ref q4, .ref q5, .ref q6, .ref q7, .ref q8, .ref q9, .ref q10, .ref q11, .ref q3, .int 0, .int 0])), (q3, .inl (cA25, 2000, .inl (fun _ => 0))), (q4, .inr (1, [.ref q12, .ref q13, .ref q14, .int 0, .int 0])), (q5, .inr (2, [.ref q4, .ref q15, .ref q16, .int 0, .int 0])), (q6, .inr (3, [.ref q17, .int 0])), (q8, .inr (6, [.ref q18, .ref q19, .ref q5, .int 0, .int 0])), (q9, .inr (10, [.ref q20, .ref q21, .ref q22, .ref q23, .ref q24, .int 0])), (q27, .inr (12, [.ref q29, .ref q30, .ref q31, .int 0, .int 0, .int 0, .int 0, .int 0, .ref q32, .ref q33, .ref q34, .ref q35, .ref q36, .int 0, .int 0, .ref q37, .ref q38, .ref q39, .ref q40, .ref q41, .ref q42, .ref q43, .ref q44, .int 0, .int 0, .ref q45, .ref q46, .ref q47, .ref q48, .ref q49, .int 0, .ref q50, .int 0, .int 0, .int 0, .int 0, .ref q51, .int 0, .int 0])), (q29, .inl (cA52, 2000, .inl (fun _ => 0))), (q30, .inl (cA53, 5718, .inl (fun _ => 0))), (q54, .inl (cA55, 1, .inr (.inl (fun _ => 0))))]) (hS : va_S A s.heap H locs) (hl : lv_has ls 8 [(4, .int 0), (3, .ref q54), (2, .ref q27), (1, .ref q1), (0, .ref b)]) : W p l e room_1 s m #[Value.ref b] below meth c H locs 219 543617 (lw_Z below #[Value.ref b] s) (F0 m 200 ls []) := by
  obtain ⟨hx, hb, hr, hml, hown, hts, hX, hbl, hlocks, hgv⟩ := C0
  have hown : s.vm.findClass "UnikernelHttpLaw" = some m.cls := hown
  have hbA : ¬ A b := fun h => absurd (hA2 b h) (by omega)
  have hfx : CallFix p m c b_La_law 8 s #[Value.ref b] [] "UnikernelHttpLaw" := ⟨hx, hb, hml, hown, fun _ h => by cases h⟩
  obtain ⟨v1, hv1⟩ : ∃ v, xs (1 : Int32).toNatClampNeg = v := ⟨_, rfl⟩
  obtain ⟨v2, hv2⟩ : ∃ v, xs (2 : Int32).toNatClampNeg = v := ⟨_, rfl⟩
  obtain ⟨v3, hv3⟩ : ∃ v, xs (3 : Int32).toNatClampNeg = v := ⟨_, rfl⟩
  obtain ⟨v4, hv4⟩ : ∃ v, xs (4 : Int32).toNatClampNeg = v := ⟨_, rfl⟩
  obtain ⟨v5, hv5⟩ : ∃ v, xs (5 : Int32).toNatClampNeg = v := ⟨_, rfl⟩
  refine lv_aload_n hx hb d_La_law_200 rfl (lv_at hl 3 rfl) ?_
  refine lv_aload_n hx hb d_La_law_201 rfl (lv_at hl 4 rfl) ?_
  refine lv_iload hx hb d_La_law_202 (lv_at hl 0 rfl) ?_
  refine lv_iconst (v := 1) hx hb d_La_law_204 (by decide) ?_
  refine lv_iadd hx hb d_La_law_205 ?_
  refine lv_topi (fun x1001 ex1001 => ?_)
  obtain rfl : x1001 = 1 := ex1001.trans (by decide)
  refine va_sld hx hb hX hbl hbA hS (i := 1) (show ¬ ((1 : Int32) < 0 ∨ 6 ≤ (1 : Int32).toNatClampNeg) by decide) d_La_law_206 ?_
  refine lv_topi (fun x1002 ex1002 => ?_)
  obtain rfl : v1 = x1002 := (ex1002.trans hv1).symm
  refine lv_aload_n hx hb d_La_law_207 rfl (lv_at hl 1 rfl) ?_
  rcases ux_s0 v1 with hv | hn
  · obtain rfl : v1 = 0 := hv
    have hhp : ∀ q, q < s.heap.size → H[q]? = s.heap[q]? := fun q hq => hS.2.1 q hq (fun h => absurd (hA2 q h) (by omega))
    have hPc := hP.sub (ws' := [(q1, .inr (0, [.ref q3, .int 0, .int 0, .ref q4, .ref q5, .ref q6, .ref q7, .ref q8, .ref q9, .ref q10, .ref q11, .ref q3, .int 0, .int 0])), (q54, .inl (cA55, 1, .inr (.inl (fun _ => 0))))]) [0, 10] rfl
    have hDc := hD.sub (ws' := [(q1, .inr (0, [.ref q3, .int 0, .int 0, .ref q4, .ref q5, .ref q6, .ref q7, .ref q8, .ref q9, .ref q10, .ref q11, .ref q3, .int 0, .int 0])), (q54, .inl (cA55, 1, .inr (.inl (fun _ => 0))))]) [0, 10] (by decide) rfl
    have hKc := hK.sub (tys' := [(cA55, .long)]) [3] rfl
    have hFc := va_free (wc := [(q1, .inr (0, [.ref q3, .int 0, .int 0, .ref q4, .ref q5, .ref q6, .ref q7, .ref q8, .ref q9, .ref q10, .ref q11, .ref q3, .int 0, .int 0])), (q54, .inl (cA55, 1, .inr (.inl (fun _ => 0))))]) hD hS hA [0, 10] rfl
    have hkc : 219 + 0 ≤ 600002 := (Nat.le_of_ble_eq_true rfl)
    refine va_calli (ux_runSW (n := 3) (As := [.ref q1, .int 0, .ref q54]) (rest := []) hfx (c_La_cut_ok l dC dI q1 q54 q3 q4 q5 q6 q7 q8 q9 q10 q11 cA55 H.size) hT tw_565 tw_563 tw_0 tw_564 rfl rfl (by decide +kernel) ⟨(Nat.le_of_ble_eq_true rfl), (Nat.le_of_ble_eq_true rfl)⟩ (ux_pre [.ref q1, .int 0, .ref q54] hT hPc hKc hDc) rfl rfl hl.1 rfl (lv_room (Nat.le_of_ble_eq_true rfl)) d_La_law_208 ⟨(Nat.le_of_ble_eq_true rfl), (Nat.le_of_ble_eq_true rfl)⟩) hS (fun q _ h => hFc q h) hFc (fun r1003 u t H1 locs ht hvm hw hB hz1 hk1 hS => ?_)
    obtain ⟨hP1, hK1, hD1⟩ := hB
    rw [ht] at hP1
    have hK1 := va_K.moved hvm.symm hK1
    obtain ⟨hP, hD⟩ := va_join (wr := [(q3, .inl (cA25, 2000, .inl (fun _ => 0))), (q4, .inr (1, [.ref q12, .ref q13, .ref q14, .int 0, .int 0])), (q5, .inr (2, [.ref q4, .ref q15, .ref q16, .int 0, .int 0])), (q6, .inr (3, [.ref q17, .int 0])), (q8, .inr (6, [.ref q18, .ref q19, .ref q5, .int 0, .int 0])), (q9, .inr (10, [.ref q20, .ref q21, .ref q22, .ref q23, .ref q24, .int 0])), (q27, .inr (12, [.ref q29, .ref q30, .ref q31, .int 0, .int 0, .int 0, .int 0, .int 0, .ref q32, .ref q33, .ref q34, .ref q35, .ref q36, .int 0, .int 0, .ref q37, .ref q38, .ref q39, .ref q40, .ref q41, .ref q42, .ref q43, .ref q44, .int 0, .int 0, .ref q45, .ref q46, .ref q47, .ref q48, .ref q49, .int 0, .ref q50, .int 0, .int 0, .int 0, .int 0, .ref q51, .int 0, .int 0])), (q29, .inl (cA52, 2000, .inl (fun _ => 0))), (q30, .inl (cA53, 5718, .inl (fun _ => 0)))]) (w1 := [(q54, .inl (cA55, 1, .inr (.inl (vp_updL (fun _ => 0) (0 : Int32).toNatClampNeg 0))))]) hP hD [0, 10] [1, 2, 3, 4, 5, 6, 7, 8, 9] rfl rfl (by decide) (by decide) hk1 hFc hP1 hD1
    have hK := (hK.sub (tys' := [(cA25, .byte), (cA52, .byte), (cA53, .byte), (cA55, .long)]) [0, 1, 2, 3] rfl).app hK1
    generalize H1 = H at hP hS ⊢
    have hP : va_P (dC, dI) cls [(q3, .inl (cA25, 2000, .inl (fun _ => 0))), (q4, .inr (1, [.ref q12, .ref q13, .ref q14, .int 0, .int 0])), (q5, .inr (2, [.ref q4, .ref q15, .ref q16, .int 0, .int 0])), (q6, .inr (3, [.ref q17, .int 0])), (q8, .inr (6, [.ref q18, .ref q19, .ref q5, .int 0, .int 0])), (q9, .inr (10, [.ref q20, .ref q21, .ref q22, .ref q23, .ref q24, .int 0])), (q27, .inr (12, [.ref q29, .ref q30, .ref q31, .int 0, .int 0, .int 0, .int 0, .int 0, .ref q32, .ref q33, .ref q34, .ref q35, .ref q36, .int 0, .int 0, .ref q37, .ref q38, .ref q39, .ref q40, .ref q41, .ref q42, .ref q43, .ref q44, .int 0, .int 0, .ref q45, .ref q46, .ref q47, .ref q48, .ref q49, .int 0, .ref q50, .int 0, .int 0, .int 0, .int 0, .ref q51, .int 0, .int 0])), (q29, .inl (cA52, 2000, .inl (fun _ => 0))), (q30, .inl (cA53, 5718, .inl (fun _ => 0))), (q54, .inl (cA55, 1, .inr (.inl (vp_updL (fun _ => 0) (0 : Int32).toNatClampNeg 0))))] H := hP
    have hD : va_D A [(q3, .inl (cA25, 2000, .inl (fun _ => 0))), (q4, .inr (1, [.ref q12, .ref q13, .ref q14, .int 0, .int 0])), (q5, .inr (2, [.ref q4, .ref q15, .ref q16, .int 0, .int 0])), (q6, .inr (3, [.ref q17, .int 0])), (q8, .inr (6, [.ref q18, .ref q19, .ref q5, .int 0, .int 0])), (q9, .inr (10, [.ref q20, .ref q21, .ref q22, .ref q23, .ref q24, .int 0])), (q27, .inr (12, [.ref q29, .ref q30, .ref q31, .int 0, .int 0, .int 0, .int 0, .int 0, .ref q32, .ref q33, .ref q34, .ref q35, .ref q36, .int 0, .int 0, .ref q37, .ref q38, .ref q39, .ref q40, .ref q41, .ref q42, .ref q43, .ref q44, .int 0, .int 0, .ref q45, .ref q46, .ref q47, .ref q48, .ref q49, .int 0, .ref q50, .int 0, .int 0, .int 0, .int 0, .ref q51, .int 0, .int 0])), (q29, .inl (cA52, 2000, .inl (fun _ => 0))), (q30, .inl (cA53, 5718, .inl (fun _ => 0))), (q54, .inl (cA55, 1, .inr (.inl (vp_updL (fun _ => 0) (0 : Int32).toNatClampNeg 0))))] := hD
    have hK : va_K (dC, dI) cls [(cA25, .byte), (cA52, .byte), (cA53, .byte), (cA55, .long), (cA55, .long)] s := hK
    obtain rfl : r1003 = 0 := hw
    refine lv_istore hx hb d_La_law_211 hl (by decide) rfl (fun ls hl => ?_)
    have hl : lv_has ls 8 [(5, .int 0), (4, .int 0), (3, .ref q54), (2, .ref q27), (1, .ref q1), (0, .ref b)] := hl
    refine lv_aload_n hx hb d_La_law_213 rfl (lv_at hl 3 rfl) ?_
    refine lv_aload_n hx hb d_La_law_214 rfl (lv_at hl 5 rfl) ?_
    refine lv_iload hx hb d_La_law_215 (lv_at hl 1 rfl) ?_
    refine lv_iconst (v := 1) hx hb d_La_law_217 (by decide) ?_
    refine lv_iadd hx hb d_La_law_218 ?_
    refine lv_topi (fun x1004 ex1004 => ?_)
    obtain rfl : x1004 = 1 := ex1004.trans (by decide)
    refine va_sld hx hb hX hbl hbA hS (i := 1) (show ¬ ((1 : Int32) < 0 ∨ 6 ≤ (1 : Int32).toNatClampNeg) by decide) d_La_law_219 ?_
    refine lv_topi (fun x1005 ex1005 => ?_)
    obtain rfl : x1005 = 0 := ex1005.trans hv1
    have hhp : ∀ q, q < s.heap.size → H[q]? = s.heap[q]? := fun q hq => hS.2.1 q hq (fun h => absurd (hA2 q h) (by omega))
    have hPc := hP.sub (ws' := [(q27, .inr (12, [.ref q29, .ref q30, .ref q31, .int 0, .int 0, .int 0, .int 0, .int 0, .ref q32, .ref q33, .ref q34, .ref q35, .ref q36, .int 0, .int 0, .ref q37, .ref q38, .ref q39, .ref q40, .ref q41, .ref q42, .ref q43, .ref q44, .int 0, .int 0, .ref q45, .ref q46, .ref q47, .ref q48, .ref q49, .int 0, .ref q50, .int 0, .int 0, .int 0, .int 0, .ref q51, .int 0, .int 0]))]) [6] rfl
    have hDc := hD.sub (ws' := [(q27, .inr (12, [.ref q29, .ref q30, .ref q31, .int 0, .int 0, .int 0, .int 0, .int 0, .ref q32, .ref q33, .ref q34, .ref q35, .ref q36, .int 0, .int 0, .ref q37, .ref q38, .ref q39, .ref q40, .ref q41, .ref q42, .ref q43, .ref q44, .int 0, .int 0, .ref q45, .ref q46, .ref q47, .ref q48, .ref q49, .int 0, .ref q50, .int 0, .int 0, .int 0, .int 0, .ref q51, .int 0, .int 0]))]) [6] (by decide) rfl
    have hKc := hK.sub (tys' := []) [] rfl
    have hFc := va_free (wc := [(q27, .inr (12, [.ref q29, .ref q30, .ref q31, .int 0, .int 0, .int 0, .int 0, .int 0, .ref q32, .ref q33, .ref q34, .ref q35, .ref q36, .int 0, .int 0, .ref q37, .ref q38, .ref q39, .ref q40, .ref q41, .ref q42, .ref q43, .ref q44, .int 0, .int 0, .ref q45, .ref q46, .ref q47, .ref q48, .ref q49, .int 0, .ref q50, .int 0, .int 0, .int 0, .int 0, .ref q51, .int 0, .int 0]))]) hD hS hA [6] rfl
    have hkc : 219 + 0 ≤ 600002 := (Nat.le_of_ble_eq_true rfl)
    refine va_calli (va_runV (As := [.int 0]) (rest := []) hfx (c_Mo_cut_ok l dC dI q27 q29 q30 q31 q32 q33 q34 q35 q36 q37 q38 q39 q40 q41 q42 q43 q44 q45 q46 q47 q48 q49 q50 q51 H.size) ⟨(ux_cb 1 hT tw_1726 tw_1723 tw_13 rfl rfl (by decide +kernel) ⟨(Nat.le_of_ble_eq_true rfl), (Nat.le_of_ble_eq_true rfl)⟩), (ux_T_at hT tw_1724 rfl), (ux_T_at hT tw_1725 rfl)⟩ (ux_preV (r := (R_Mo, F_Mo, 39)) (ci := 12) (q0 := 0) [.int 0] hT hPc hKc hDc rfl rfl) rfl rfl hl.1 rfl (lv_room (Nat.le_of_ble_eq_true rfl)) d_La_law_220 ⟨(Nat.le_of_ble_eq_true rfl), (Nat.le_of_ble_eq_true rfl)⟩) hS (fun q _ h => hFc q h) hFc (fun r1006 u t H1 locs ht hvm hw hB hz1 hk1 hS => ?_)
    obtain ⟨hP1, hK1, hD1⟩ := hB
    rw [ht] at hP1
    have hK1 := va_K.moved hvm.symm hK1
    obtain ⟨hP, hD⟩ := va_join (wr := [(q3, .inl (cA25, 2000, .inl (fun _ => 0))), (q4, .inr (1, [.ref q12, .ref q13, .ref q14, .int 0, .int 0])), (q5, .inr (2, [.ref q4, .ref q15, .ref q16, .int 0, .int 0])), (q6, .inr (3, [.ref q17, .int 0])), (q8, .inr (6, [.ref q18, .ref q19, .ref q5, .int 0, .int 0])), (q9, .inr (10, [.ref q20, .ref q21, .ref q22, .ref q23, .ref q24, .int 0])), (q29, .inl (cA52, 2000, .inl (fun _ => 0))), (q30, .inl (cA53, 5718, .inl (fun _ => 0))), (q54, .inl (cA55, 1, .inr (.inl (vp_updL (fun _ => 0) (0 : Int32).toNatClampNeg 0))))]) (w1 := [(q27, .inr (12, [.ref q29, .ref q30, .ref q31, .int 0, .int 0, .int 0, .int 0, .int 0, .ref q32, .ref q33, .ref q34, .ref q35, .ref q36, .int 0, .int 0, .ref q37, .ref q38, .ref q39, .ref q40, .ref q41, .ref q42, .ref q43, .ref q44, .int 0, .int 0, .ref q45, .ref q46, .ref q47, .ref q48, .ref q49, .int 0, .ref q50, .int 0, .int 0, .int 0, .int 0, .ref q51, .int 0, .int 0]))]) hP hD [6] [0, 1, 2, 3, 4, 5, 7, 8, 9] rfl rfl (by decide) (by decide) hk1 hFc hP1 hD1
    have hK := (hK.sub (tys' := [(cA25, .byte), (cA52, .byte), (cA53, .byte), (cA55, .long), (cA55, .long)]) [0, 1, 2, 3, 4] rfl).app hK1
    generalize H1 = H at hP hS ⊢
    have hP : va_P (dC, dI) cls [(q3, .inl (cA25, 2000, .inl (fun _ => 0))), (q4, .inr (1, [.ref q12, .ref q13, .ref q14, .int 0, .int 0])), (q5, .inr (2, [.ref q4, .ref q15, .ref q16, .int 0, .int 0])), (q6, .inr (3, [.ref q17, .int 0])), (q8, .inr (6, [.ref q18, .ref q19, .ref q5, .int 0, .int 0])), (q9, .inr (10, [.ref q20, .ref q21, .ref q22, .ref q23, .ref q24, .int 0])), (q29, .inl (cA52, 2000, .inl (fun _ => 0))), (q30, .inl (cA53, 5718, .inl (fun _ => 0))), (q54, .inl (cA55, 1, .inr (.inl (vp_updL (fun _ => 0) (0 : Int32).toNatClampNeg 0)))), (q27, .inr (12, [.ref q29, .ref q30, .ref q31, .int 0, .int 0, .int 0, .int 0, .int 0, .ref q32, .ref q33, .ref q34, .ref q35, .ref q36, .int 0, .int 0, .ref q37, .ref q38, .ref q39, .ref q40, .ref q41, .ref q42, .ref q43, .ref q44, .int 0, .int 0, .ref q45, .ref q46, .ref q47, .ref q48, .ref q49, .int 0, .ref q50, .int 0, .int 0, .int 0, .int 0, .ref q51, .int 0, .int 0]))] H := hP
    have hD : va_D A [(q3, .inl (cA25, 2000, .inl (fun _ => 0))), (q4, .inr (1, [.ref q12, .ref q13, .ref q14, .int 0, .int 0])), (q5, .inr (2, [.ref q4, .ref q15, .ref q16, .int 0, .int 0])), (q6, .inr (3, [.ref q17, .int 0])), (q8, .inr (6, [.ref q18, .ref q19, .ref q5, .int 0, .int 0])), (q9, .inr (10, [.ref q20, .ref q21, .ref q22, .ref q23, .ref q24, .int 0])), (q29, .inl (cA52, 2000, .inl (fun _ => 0))), (q30, .inl (cA53, 5718, .inl (fun _ => 0))), (q54, .inl (cA55, 1, .inr (.inl (vp_updL (fun _ => 0) (0 : Int32).toNatClampNeg 0)))), (q27, .inr (12, [.ref q29, .ref q30, .ref q31, .int 0, .int 0, .int 0, .int 0, .int 0, .ref q32, .ref q33, .ref q34, .ref q35, .ref q36, .int 0, .int 0, .ref q37, .ref q38, .ref q39, .ref q40, .ref q41, .ref q42, .ref q43, .ref q44, .int 0, .int 0, .ref q45, .ref q46, .ref q47, .ref q48, .ref q49, .int 0, .ref q50, .int 0, .int 0, .int 0, .int 0, .ref q51, .int 0, .int 0]))] := hD
    have hK : va_K (dC, dI) cls [(cA25, .byte), (cA52, .byte), (cA53, .byte), (cA55, .long), (cA55, .long)] s := hK
    obtain rfl : r1006 = 0 := hw
    refine lv_istore hx hb d_La_law_223 hl (by decide) rfl (fun ls hl => ?_)
    have hl : lv_has ls 8 [(6, .int 0), (5, .int 0), (4, .int 0), (3, .ref q54), (2, .ref q27), (1, .ref q1), (0, .ref b)] := hl
    refine lv_aload_n hx hb d_La_law_225 rfl (lv_at hl 4 rfl) ?_
    have hhp : ∀ q, q < s.heap.size → H[q]? = s.heap[q]? := fun q hq => hS.2.1 q hq (fun h => absurd (hA2 q h) (by omega))
    have hPc := hP.sub (ws' := [(q27, .inr (12, [.ref q29, .ref q30, .ref q31, .int 0, .int 0, .int 0, .int 0, .int 0, .ref q32, .ref q33, .ref q34, .ref q35, .ref q36, .int 0, .int 0, .ref q37, .ref q38, .ref q39, .ref q40, .ref q41, .ref q42, .ref q43, .ref q44, .int 0, .int 0, .ref q45, .ref q46, .ref q47, .ref q48, .ref q49, .int 0, .ref q50, .int 0, .int 0, .int 0, .int 0, .ref q51, .int 0, .int 0]))]) [9] rfl
    have hDc := hD.sub (ws' := [(q27, .inr (12, [.ref q29, .ref q30, .ref q31, .int 0, .int 0, .int 0, .int 0, .int 0, .ref q32, .ref q33, .ref q34, .ref q35, .ref q36, .int 0, .int 0, .ref q37, .ref q38, .ref q39, .ref q40, .ref q41, .ref q42, .ref q43, .ref q44, .int 0, .int 0, .ref q45, .ref q46, .ref q47, .ref q48, .ref q49, .int 0, .ref q50, .int 0, .int 0, .int 0, .int 0, .ref q51, .int 0, .int 0]))]) [9] (by decide) rfl
    have hKc := hK.sub (tys' := []) [] rfl
    have hFc := va_free (wc := [(q27, .inr (12, [.ref q29, .ref q30, .ref q31, .int 0, .int 0, .int 0, .int 0, .int 0, .ref q32, .ref q33, .ref q34, .ref q35, .ref q36, .int 0, .int 0, .ref q37, .ref q38, .ref q39, .ref q40, .ref q41, .ref q42, .ref q43, .ref q44, .int 0, .int 0, .ref q45, .ref q46, .ref q47, .ref q48, .ref q49, .int 0, .ref q50, .int 0, .int 0, .int 0, .int 0, .ref q51, .int 0, .int 0]))]) hD hS hA [9] rfl
    have hkc : 219 + 0 ≤ 600002 := (Nat.le_of_ble_eq_true rfl)
    refine va_calli (va_runV (As := []) (rest := []) hfx (c_Mo_thrown_0 l dC dI q27 q29 q30 q31 q32 q33 q34 q35 q36 q37 q38 q39 q40 q41 q42 q43 q44 q45 q46 q47 q48 q49 q50 q51 0 0 H.size) ⟨(ux_cb 0 hT tw_1714 tw_1711 tw_13 rfl rfl (by decide +kernel) ⟨(Nat.le_of_ble_eq_true rfl), (Nat.le_of_ble_eq_true rfl)⟩), (ux_T_at hT tw_1712 rfl), (ux_T_at hT tw_1713 rfl)⟩ (ux_preV (r := (R_Mo, F_Mo, 39)) (ci := 12) (q0 := 0) [] hT hPc hKc hDc rfl rfl) rfl rfl hl.1 rfl (lv_room (Nat.le_of_ble_eq_true rfl)) d_La_law_226 ⟨(Nat.le_of_ble_eq_true rfl), (Nat.le_of_ble_eq_true rfl)⟩) hS (fun q _ h => hFc q h) hFc (fun r1007 u t H1 locs ht hvm hw hB hz1 hk1 hS => ?_)
    obtain ⟨hP1, hK1, hD1⟩ := hB
    rw [ht] at hP1
    have hK1 := va_K.moved hvm.symm hK1
    obtain ⟨hP, hD⟩ := va_join (wr := [(q3, .inl (cA25, 2000, .inl (fun _ => 0))), (q4, .inr (1, [.ref q12, .ref q13, .ref q14, .int 0, .int 0])), (q5, .inr (2, [.ref q4, .ref q15, .ref q16, .int 0, .int 0])), (q6, .inr (3, [.ref q17, .int 0])), (q8, .inr (6, [.ref q18, .ref q19, .ref q5, .int 0, .int 0])), (q9, .inr (10, [.ref q20, .ref q21, .ref q22, .ref q23, .ref q24, .int 0])), (q29, .inl (cA52, 2000, .inl (fun _ => 0))), (q30, .inl (cA53, 5718, .inl (fun _ => 0))), (q54, .inl (cA55, 1, .inr (.inl (vp_updL (fun _ => 0) (0 : Int32).toNatClampNeg 0))))]) (w1 := [(q27, .inr (12, [.ref q29, .ref q30, .ref q31, .int 0, .int 0, .int 0, .int 0, .int 0, .ref q32, .ref q33, .ref q34, .ref q35, .ref q36, .int 0, .int 0, .ref q37, .ref q38, .ref q39, .ref q40, .ref q41, .ref q42, .ref q43, .ref q44, .int 0, .int 0, .ref q45, .ref q46, .ref q47, .ref q48, .ref q49, .int 0, .ref q50, .int 0, .int 0, .int 0, .int 0, .ref q51, .int 0, .int 0]))]) hP hD [9] [0, 1, 2, 3, 4, 5, 6, 7, 8] rfl rfl (by decide) (by decide) hk1 hFc hP1 hD1
    have hK := (hK.sub (tys' := [(cA25, .byte), (cA52, .byte), (cA53, .byte), (cA55, .long), (cA55, .long)]) [0, 1, 2, 3, 4] rfl).app hK1
    generalize H1 = H at hP hS ⊢
    have hP : va_P (dC, dI) cls [(q3, .inl (cA25, 2000, .inl (fun _ => 0))), (q4, .inr (1, [.ref q12, .ref q13, .ref q14, .int 0, .int 0])), (q5, .inr (2, [.ref q4, .ref q15, .ref q16, .int 0, .int 0])), (q6, .inr (3, [.ref q17, .int 0])), (q8, .inr (6, [.ref q18, .ref q19, .ref q5, .int 0, .int 0])), (q9, .inr (10, [.ref q20, .ref q21, .ref q22, .ref q23, .ref q24, .int 0])), (q29, .inl (cA52, 2000, .inl (fun _ => 0))), (q30, .inl (cA53, 5718, .inl (fun _ => 0))), (q54, .inl (cA55, 1, .inr (.inl (vp_updL (fun _ => 0) (0 : Int32).toNatClampNeg 0)))), (q27, .inr (12, [.ref q29, .ref q30, .ref q31, .int 0, .int 0, .int 0, .int 0, .int 0, .ref q32, .ref q33, .ref q34, .ref q35, .ref q36, .int 0, .int 0, .ref q37, .ref q38, .ref q39, .ref q40, .ref q41, .ref q42, .ref q43, .ref q44, .int 0, .int 0, .ref q45, .ref q46, .ref q47, .ref q48, .ref q49, .int 0, .ref q50, .int 0, .int 0, .int 0, .int 0, .ref q51, .int 0, .int 0]))] H := hP
    have hD : va_D A [(q3, .inl (cA25, 2000, .inl (fun _ => 0))), (q4, .inr (1, [.ref q12, .ref q13, .ref q14, .int 0, .int 0])), (q5, .inr (2, [.ref q4, .ref q15, .ref q16, .int 0, .int 0])), (q6, .inr (3, [.ref q17, .int 0])), (q8, .inr (6, [.ref q18, .ref q19, .ref q5, .int 0, .int 0])), (q9, .inr (10, [.ref q20, .ref q21, .ref q22, .ref q23, .ref q24, .int 0])), (q29, .inl (cA52, 2000, .inl (fun _ => 0))), (q30, .inl (cA53, 5718, .inl (fun _ => 0))), (q54, .inl (cA55, 1, .inr (.inl (vp_updL (fun _ => 0) (0 : Int32).toNatClampNeg 0)))), (q27, .inr (12, [.ref q29, .ref q30, .ref q31, .int 0, .int 0, .int 0, .int 0, .int 0, .ref q32, .ref q33, .ref q34, .ref q35, .ref q36, .int 0, .int 0, .ref q37, .ref q38, .ref q39, .ref q40, .ref q41, .ref q42, .ref q43, .ref q44, .int 0, .int 0, .ref q45, .ref q46, .ref q47, .ref q48, .ref q49, .int 0, .ref q50, .int 0, .int 0, .int 0, .int 0, .ref q51, .int 0, .int 0]))] := hD
    have hK : va_K (dC, dI) cls [(cA25, .byte), (cA52, .byte), (cA53, .byte), (cA55, .long), (cA55, .long)] s := hK
    obtain rfl : r1007 = 0 := hw
    refine lv_iload hx hb d_La_law_229 (lv_at hl 1 rfl) ?_
    refine lv_icmp_eq (tgt := 236) hx hb d_La_law_231 (by decide) (fun _ => ?_) (fun hc => absurd (by decide) hc)
    refine lv_iload hx hb d_La_law_236 (lv_at hl 1 rfl) ?_
    refine lv_if_ne (tgt := 253) hx hb d_La_law_238 (by decide) (fun hc => absurd (by decide) hc) (fun _ => ?_)
    refine lv_aload_n hx hb d_La_law_241 rfl (lv_at hl 3 rfl) ?_
    refine lv_iconst (v := 0) hx hb d_La_law_242 (by decide) ?_
    refine va_lald hx hb hK hP 8 3 rfl rfl (i := 0) (show ¬ ((0 : Int32) < 0 ∨ 1 ≤ (0 : Int32).toNatClampNeg) by decide) d_La_law_243 ?_
    refine lv_topl (fun x1008 ex1008 => ?_)
    obtain rfl : x1008 = 0 := ex1008.trans (by decide)
    refine lv_iload hx hb d_La_law_244 (lv_at hl 0 rfl) ?_
    refine lv_i2l (v := 0) hx hb d_La_law_246 (by decide) ?_
    refine W.lcmp hx hb d_La_law_247 ?_
    refine lv_topi (fun x1009 ex1009 => ?_)
    obtain rfl : x1009 = 0 := ex1009.trans (by decide)
    refine lv_if_eq (tgt := 253) hx hb d_La_law_248 (by decide) (fun _ => ?_) (fun hc => absurd (by decide) hc)
    refine lv_goto hx hb d_La_law_253 (tgt := 751) (by decide) ?_
    exact law_end l hA2 ⟨hx, hb, hr, hml, hown, hts, hX, hbl, hlocks, hgv⟩ (Nat.le_of_ble_eq_true rfl) (Nat.le_of_ble_eq_true rfl) hS (lv_sub hl [6, 2] rfl)
  · have hhp : ∀ q, q < s.heap.size → H[q]? = s.heap[q]? := fun q hq => hS.2.1 q hq (fun h => absurd (hA2 q h) (by omega))
    have hPc := hP.sub (ws' := [(q1, .inr (0, [.ref q3, .int 0, .int 0, .ref q4, .ref q5, .ref q6, .ref q7, .ref q8, .ref q9, .ref q10, .ref q11, .ref q3, .int 0, .int 0])), (q54, .inl (cA55, 1, .inr (.inl (fun _ => 0))))]) [0, 10] rfl
    have hDc := hD.sub (ws' := [(q1, .inr (0, [.ref q3, .int 0, .int 0, .ref q4, .ref q5, .ref q6, .ref q7, .ref q8, .ref q9, .ref q10, .ref q11, .ref q3, .int 0, .int 0])), (q54, .inl (cA55, 1, .inr (.inl (fun _ => 0))))]) [0, 10] (by decide) rfl
    have hKc := hK.sub (tys' := [(cA55, .long)]) [3] rfl
    have hFc := va_free (wc := [(q1, .inr (0, [.ref q3, .int 0, .int 0, .ref q4, .ref q5, .ref q6, .ref q7, .ref q8, .ref q9, .ref q10, .ref q11, .ref q3, .int 0, .int 0])), (q54, .inl (cA55, 1, .inr (.inl (fun _ => 0))))]) hD hS hA [0, 10] rfl
    have hkc : 219 + 1 ≤ 600002 := (Nat.le_of_ble_eq_true rfl)
    refine va_calli (ux_runSW (n := 3) (As := [.ref q1, .int v1, .ref q54]) (rest := []) hfx (c_La_cut_no l hfl dC dI q1 q54 q3 q4 q5 q6 q7 q8 q9 q10 q11 cA55 v1 hn H.size) hT tw_565 tw_563 tw_0 tw_564 rfl rfl (by decide +kernel) ⟨(Nat.le_of_ble_eq_true rfl), (Nat.le_of_ble_eq_true rfl)⟩ (ux_preH [.ref q1, .int v1, .ref q54] hT hH hhp hPc hKc hDc) rfl rfl hl.1 rfl (lv_room (Nat.le_of_ble_eq_true rfl)) d_La_law_208 ⟨(Nat.le_of_ble_eq_true rfl), (Nat.le_of_ble_eq_true rfl)⟩) hS (fun q _ h => hFc q h) hFc (fun r1010 u t H1 locs ht hvm hw hB hz1 hk1 hS => ?_)
    obtain ⟨hP1, hK1, hD1⟩ := hB
    rw [ht] at hP1
    have hK1 := va_K.moved hvm.symm hK1
    obtain ⟨hP, hD⟩ := va_join (wr := [(q3, .inl (cA25, 2000, .inl (fun _ => 0))), (q4, .inr (1, [.ref q12, .ref q13, .ref q14, .int 0, .int 0])), (q5, .inr (2, [.ref q4, .ref q15, .ref q16, .int 0, .int 0])), (q6, .inr (3, [.ref q17, .int 0])), (q8, .inr (6, [.ref q18, .ref q19, .ref q5, .int 0, .int 0])), (q9, .inr (10, [.ref q20, .ref q21, .ref q22, .ref q23, .ref q24, .int 0])), (q27, .inr (12, [.ref q29, .ref q30, .ref q31, .int 0, .int 0, .int 0, .int 0, .int 0, .ref q32, .ref q33, .ref q34, .ref q35, .ref q36, .int 0, .int 0, .ref q37, .ref q38, .ref q39, .ref q40, .ref q41, .ref q42, .ref q43, .ref q44, .int 0, .int 0, .ref q45, .ref q46, .ref q47, .ref q48, .ref q49, .int 0, .ref q50, .int 0, .int 0, .int 0, .int 0, .ref q51, .int 0, .int 0])), (q29, .inl (cA52, 2000, .inl (fun _ => 0))), (q30, .inl (cA53, 5718, .inl (fun _ => 0)))]) (w1 := [(q54, .inl (cA55, 1, .inr (.inl (fun _ => 0))))]) hP hD [0, 10] [1, 2, 3, 4, 5, 6, 7, 8, 9] rfl rfl (by decide) (by decide) hk1 hFc hP1 hD1
    have hK := (hK.sub (tys' := [(cA25, .byte), (cA52, .byte), (cA53, .byte), (cA55, .long)]) [0, 1, 2, 3] rfl).app hK1
    generalize H1 = H at hP hS ⊢
    have hP : va_P (dC, dI) cls [(q3, .inl (cA25, 2000, .inl (fun _ => 0))), (q4, .inr (1, [.ref q12, .ref q13, .ref q14, .int 0, .int 0])), (q5, .inr (2, [.ref q4, .ref q15, .ref q16, .int 0, .int 0])), (q6, .inr (3, [.ref q17, .int 0])), (q8, .inr (6, [.ref q18, .ref q19, .ref q5, .int 0, .int 0])), (q9, .inr (10, [.ref q20, .ref q21, .ref q22, .ref q23, .ref q24, .int 0])), (q27, .inr (12, [.ref q29, .ref q30, .ref q31, .int 0, .int 0, .int 0, .int 0, .int 0, .ref q32, .ref q33, .ref q34, .ref q35, .ref q36, .int 0, .int 0, .ref q37, .ref q38, .ref q39, .ref q40, .ref q41, .ref q42, .ref q43, .ref q44, .int 0, .int 0, .ref q45, .ref q46, .ref q47, .ref q48, .ref q49, .int 0, .ref q50, .int 0, .int 0, .int 0, .int 0, .ref q51, .int 0, .int 0])), (q29, .inl (cA52, 2000, .inl (fun _ => 0))), (q30, .inl (cA53, 5718, .inl (fun _ => 0))), (q54, .inl (cA55, 1, .inr (.inl (fun _ => 0))))] H := hP
    have hD : va_D A [(q3, .inl (cA25, 2000, .inl (fun _ => 0))), (q4, .inr (1, [.ref q12, .ref q13, .ref q14, .int 0, .int 0])), (q5, .inr (2, [.ref q4, .ref q15, .ref q16, .int 0, .int 0])), (q6, .inr (3, [.ref q17, .int 0])), (q8, .inr (6, [.ref q18, .ref q19, .ref q5, .int 0, .int 0])), (q9, .inr (10, [.ref q20, .ref q21, .ref q22, .ref q23, .ref q24, .int 0])), (q27, .inr (12, [.ref q29, .ref q30, .ref q31, .int 0, .int 0, .int 0, .int 0, .int 0, .ref q32, .ref q33, .ref q34, .ref q35, .ref q36, .int 0, .int 0, .ref q37, .ref q38, .ref q39, .ref q40, .ref q41, .ref q42, .ref q43, .ref q44, .int 0, .int 0, .ref q45, .ref q46, .ref q47, .ref q48, .ref q49, .int 0, .ref q50, .int 0, .int 0, .int 0, .int 0, .ref q51, .int 0, .int 0])), (q29, .inl (cA52, 2000, .inl (fun _ => 0))), (q30, .inl (cA53, 5718, .inl (fun _ => 0))), (q54, .inl (cA55, 1, .inr (.inl (fun _ => 0))))] := hD
    have hK : va_K (dC, dI) cls [(cA25, .byte), (cA52, .byte), (cA53, .byte), (cA55, .long), (cA55, .long)] s := hK
    obtain rfl : r1010 = 1 := hw
    refine lv_istore hx hb d_La_law_211 hl (by decide) rfl (fun ls hl => ?_)
    have hl : lv_has ls 8 [(5, .int 1), (4, .int 0), (3, .ref q54), (2, .ref q27), (1, .ref q1), (0, .ref b)] := hl
    refine lv_aload_n hx hb d_La_law_213 rfl (lv_at hl 3 rfl) ?_
    refine lv_aload_n hx hb d_La_law_214 rfl (lv_at hl 5 rfl) ?_
    refine lv_iload hx hb d_La_law_215 (lv_at hl 1 rfl) ?_
    refine lv_iconst (v := 1) hx hb d_La_law_217 (by decide) ?_
    refine lv_iadd hx hb d_La_law_218 ?_
    refine lv_topi (fun x1011 ex1011 => ?_)
    obtain rfl : x1011 = 1 := ex1011.trans (by decide)
    refine va_sld hx hb hX hbl hbA hS (i := 1) (show ¬ ((1 : Int32) < 0 ∨ 6 ≤ (1 : Int32).toNatClampNeg) by decide) d_La_law_219 ?_
    refine lv_topi (fun x1012 ex1012 => ?_)
    obtain rfl : v1 = x1012 := (ex1012.trans hv1).symm
    have hhp : ∀ q, q < s.heap.size → H[q]? = s.heap[q]? := fun q hq => hS.2.1 q hq (fun h => absurd (hA2 q h) (by omega))
    have hPc := hP.sub (ws' := [(q27, .inr (12, [.ref q29, .ref q30, .ref q31, .int 0, .int 0, .int 0, .int 0, .int 0, .ref q32, .ref q33, .ref q34, .ref q35, .ref q36, .int 0, .int 0, .ref q37, .ref q38, .ref q39, .ref q40, .ref q41, .ref q42, .ref q43, .ref q44, .int 0, .int 0, .ref q45, .ref q46, .ref q47, .ref q48, .ref q49, .int 0, .ref q50, .int 0, .int 0, .int 0, .int 0, .ref q51, .int 0, .int 0]))]) [6] rfl
    have hDc := hD.sub (ws' := [(q27, .inr (12, [.ref q29, .ref q30, .ref q31, .int 0, .int 0, .int 0, .int 0, .int 0, .ref q32, .ref q33, .ref q34, .ref q35, .ref q36, .int 0, .int 0, .ref q37, .ref q38, .ref q39, .ref q40, .ref q41, .ref q42, .ref q43, .ref q44, .int 0, .int 0, .ref q45, .ref q46, .ref q47, .ref q48, .ref q49, .int 0, .ref q50, .int 0, .int 0, .int 0, .int 0, .ref q51, .int 0, .int 0]))]) [6] (by decide) rfl
    have hKc := hK.sub (tys' := []) [] rfl
    have hFc := va_free (wc := [(q27, .inr (12, [.ref q29, .ref q30, .ref q31, .int 0, .int 0, .int 0, .int 0, .int 0, .ref q32, .ref q33, .ref q34, .ref q35, .ref q36, .int 0, .int 0, .ref q37, .ref q38, .ref q39, .ref q40, .ref q41, .ref q42, .ref q43, .ref q44, .int 0, .int 0, .ref q45, .ref q46, .ref q47, .ref q48, .ref q49, .int 0, .ref q50, .int 0, .int 0, .int 0, .int 0, .ref q51, .int 0, .int 0]))]) hD hS hA [6] rfl
    have hkc : 220 + 0 ≤ 600002 := (Nat.le_of_ble_eq_true rfl)
    refine va_calli (va_runV (As := [.int v1]) (rest := []) hfx (c_Mo_cut_no l dC dI q27 q29 q30 q31 q32 q33 q34 q35 q36 q37 q38 q39 q40 q41 q42 q43 q44 q45 q46 q47 q48 q49 q50 q51 v1 hn H.size) ⟨(ux_cb 1 hT tw_1726 tw_1723 tw_13 rfl rfl (by decide +kernel) ⟨(Nat.le_of_ble_eq_true rfl), (Nat.le_of_ble_eq_true rfl)⟩), (ux_T_at hT tw_1724 rfl), (ux_T_at hT tw_1725 rfl)⟩ (ux_preV (r := (R_Mo, F_Mo, 39)) (ci := 12) (q0 := 0) [.int v1] hT hPc hKc hDc rfl rfl) rfl rfl hl.1 rfl (lv_room (Nat.le_of_ble_eq_true rfl)) d_La_law_220 ⟨(Nat.le_of_ble_eq_true rfl), (Nat.le_of_ble_eq_true rfl)⟩) hS (fun q _ h => hFc q h) hFc (fun r1013 u t H1 locs ht hvm hw hB hz1 hk1 hS => ?_)
    obtain ⟨hP1, hK1, hD1⟩ := hB
    rw [ht] at hP1
    have hK1 := va_K.moved hvm.symm hK1
    obtain ⟨hP, hD⟩ := va_join (wr := [(q3, .inl (cA25, 2000, .inl (fun _ => 0))), (q4, .inr (1, [.ref q12, .ref q13, .ref q14, .int 0, .int 0])), (q5, .inr (2, [.ref q4, .ref q15, .ref q16, .int 0, .int 0])), (q6, .inr (3, [.ref q17, .int 0])), (q8, .inr (6, [.ref q18, .ref q19, .ref q5, .int 0, .int 0])), (q9, .inr (10, [.ref q20, .ref q21, .ref q22, .ref q23, .ref q24, .int 0])), (q29, .inl (cA52, 2000, .inl (fun _ => 0))), (q30, .inl (cA53, 5718, .inl (fun _ => 0))), (q54, .inl (cA55, 1, .inr (.inl (fun _ => 0))))]) (w1 := [(q27, .inr (12, [.ref q29, .ref q30, .ref q31, .int 0, .int 1, .int 0, .int 0, .int 0, .ref q32, .ref q33, .ref q34, .ref q35, .ref q36, .int 0, .int 0, .ref q37, .ref q38, .ref q39, .ref q40, .ref q41, .ref q42, .ref q43, .ref q44, .int 0, .int 0, .ref q45, .ref q46, .ref q47, .ref q48, .ref q49, .int 0, .ref q50, .int 0, .int 0, .int 0, .int 0, .ref q51, .int 0, .int 0]))]) hP hD [6] [0, 1, 2, 3, 4, 5, 7, 8, 9] rfl rfl (by decide) (by decide) hk1 hFc hP1 hD1
    have hK := (hK.sub (tys' := [(cA25, .byte), (cA52, .byte), (cA53, .byte), (cA55, .long), (cA55, .long)]) [0, 1, 2, 3, 4] rfl).app hK1
    generalize H1 = H at hP hS ⊢
    have hP : va_P (dC, dI) cls [(q3, .inl (cA25, 2000, .inl (fun _ => 0))), (q4, .inr (1, [.ref q12, .ref q13, .ref q14, .int 0, .int 0])), (q5, .inr (2, [.ref q4, .ref q15, .ref q16, .int 0, .int 0])), (q6, .inr (3, [.ref q17, .int 0])), (q8, .inr (6, [.ref q18, .ref q19, .ref q5, .int 0, .int 0])), (q9, .inr (10, [.ref q20, .ref q21, .ref q22, .ref q23, .ref q24, .int 0])), (q29, .inl (cA52, 2000, .inl (fun _ => 0))), (q30, .inl (cA53, 5718, .inl (fun _ => 0))), (q54, .inl (cA55, 1, .inr (.inl (fun _ => 0)))), (q27, .inr (12, [.ref q29, .ref q30, .ref q31, .int 0, .int 1, .int 0, .int 0, .int 0, .ref q32, .ref q33, .ref q34, .ref q35, .ref q36, .int 0, .int 0, .ref q37, .ref q38, .ref q39, .ref q40, .ref q41, .ref q42, .ref q43, .ref q44, .int 0, .int 0, .ref q45, .ref q46, .ref q47, .ref q48, .ref q49, .int 0, .ref q50, .int 0, .int 0, .int 0, .int 0, .ref q51, .int 0, .int 0]))] H := hP
    have hD : va_D A [(q3, .inl (cA25, 2000, .inl (fun _ => 0))), (q4, .inr (1, [.ref q12, .ref q13, .ref q14, .int 0, .int 0])), (q5, .inr (2, [.ref q4, .ref q15, .ref q16, .int 0, .int 0])), (q6, .inr (3, [.ref q17, .int 0])), (q8, .inr (6, [.ref q18, .ref q19, .ref q5, .int 0, .int 0])), (q9, .inr (10, [.ref q20, .ref q21, .ref q22, .ref q23, .ref q24, .int 0])), (q29, .inl (cA52, 2000, .inl (fun _ => 0))), (q30, .inl (cA53, 5718, .inl (fun _ => 0))), (q54, .inl (cA55, 1, .inr (.inl (fun _ => 0)))), (q27, .inr (12, [.ref q29, .ref q30, .ref q31, .int 0, .int 1, .int 0, .int 0, .int 0, .ref q32, .ref q33, .ref q34, .ref q35, .ref q36, .int 0, .int 0, .ref q37, .ref q38, .ref q39, .ref q40, .ref q41, .ref q42, .ref q43, .ref q44, .int 0, .int 0, .ref q45, .ref q46, .ref q47, .ref q48, .ref q49, .int 0, .ref q50, .int 0, .int 0, .int 0, .int 0, .ref q51, .int 0, .int 0]))] := hD
    have hK : va_K (dC, dI) cls [(cA25, .byte), (cA52, .byte), (cA53, .byte), (cA55, .long), (cA55, .long)] s := hK
    obtain rfl : r1013 = 0 := hw
    refine lv_istore hx hb d_La_law_223 hl (by decide) rfl (fun ls hl => ?_)
    have hl : lv_has ls 8 [(6, .int 0), (5, .int 1), (4, .int 0), (3, .ref q54), (2, .ref q27), (1, .ref q1), (0, .ref b)] := hl
    refine lv_aload_n hx hb d_La_law_225 rfl (lv_at hl 4 rfl) ?_
    have hhp : ∀ q, q < s.heap.size → H[q]? = s.heap[q]? := fun q hq => hS.2.1 q hq (fun h => absurd (hA2 q h) (by omega))
    have hPc := hP.sub (ws' := [(q27, .inr (12, [.ref q29, .ref q30, .ref q31, .int 0, .int 1, .int 0, .int 0, .int 0, .ref q32, .ref q33, .ref q34, .ref q35, .ref q36, .int 0, .int 0, .ref q37, .ref q38, .ref q39, .ref q40, .ref q41, .ref q42, .ref q43, .ref q44, .int 0, .int 0, .ref q45, .ref q46, .ref q47, .ref q48, .ref q49, .int 0, .ref q50, .int 0, .int 0, .int 0, .int 0, .ref q51, .int 0, .int 0]))]) [9] rfl
    have hDc := hD.sub (ws' := [(q27, .inr (12, [.ref q29, .ref q30, .ref q31, .int 0, .int 1, .int 0, .int 0, .int 0, .ref q32, .ref q33, .ref q34, .ref q35, .ref q36, .int 0, .int 0, .ref q37, .ref q38, .ref q39, .ref q40, .ref q41, .ref q42, .ref q43, .ref q44, .int 0, .int 0, .ref q45, .ref q46, .ref q47, .ref q48, .ref q49, .int 0, .ref q50, .int 0, .int 0, .int 0, .int 0, .ref q51, .int 0, .int 0]))]) [9] (by decide) rfl
    have hKc := hK.sub (tys' := []) [] rfl
    have hFc := va_free (wc := [(q27, .inr (12, [.ref q29, .ref q30, .ref q31, .int 0, .int 1, .int 0, .int 0, .int 0, .ref q32, .ref q33, .ref q34, .ref q35, .ref q36, .int 0, .int 0, .ref q37, .ref q38, .ref q39, .ref q40, .ref q41, .ref q42, .ref q43, .ref q44, .int 0, .int 0, .ref q45, .ref q46, .ref q47, .ref q48, .ref q49, .int 0, .ref q50, .int 0, .int 0, .int 0, .int 0, .ref q51, .int 0, .int 0]))]) hD hS hA [9] rfl
    have hkc : 220 + 0 ≤ 600002 := (Nat.le_of_ble_eq_true rfl)
    refine va_calli (va_runV (As := []) (rest := []) hfx (c_Mo_thrown_1 l dC dI q27 q29 q30 q31 q32 q33 q34 q35 q36 q37 q38 q39 q40 q41 q42 q43 q44 q45 q46 q47 q48 q49 q50 q51 0 0 H.size) ⟨(ux_cb 0 hT tw_1714 tw_1711 tw_13 rfl rfl (by decide +kernel) ⟨(Nat.le_of_ble_eq_true rfl), (Nat.le_of_ble_eq_true rfl)⟩), (ux_T_at hT tw_1712 rfl), (ux_T_at hT tw_1713 rfl)⟩ (ux_preV (r := (R_Mo, F_Mo, 39)) (ci := 12) (q0 := 0) [] hT hPc hKc hDc rfl rfl) rfl rfl hl.1 rfl (lv_room (Nat.le_of_ble_eq_true rfl)) d_La_law_226 ⟨(Nat.le_of_ble_eq_true rfl), (Nat.le_of_ble_eq_true rfl)⟩) hS (fun q _ h => hFc q h) hFc (fun r1014 u t H1 locs ht hvm hw hB hz1 hk1 hS => ?_)
    obtain ⟨hP1, hK1, hD1⟩ := hB
    rw [ht] at hP1
    have hK1 := va_K.moved hvm.symm hK1
    obtain ⟨hP, hD⟩ := va_join (wr := [(q3, .inl (cA25, 2000, .inl (fun _ => 0))), (q4, .inr (1, [.ref q12, .ref q13, .ref q14, .int 0, .int 0])), (q5, .inr (2, [.ref q4, .ref q15, .ref q16, .int 0, .int 0])), (q6, .inr (3, [.ref q17, .int 0])), (q8, .inr (6, [.ref q18, .ref q19, .ref q5, .int 0, .int 0])), (q9, .inr (10, [.ref q20, .ref q21, .ref q22, .ref q23, .ref q24, .int 0])), (q29, .inl (cA52, 2000, .inl (fun _ => 0))), (q30, .inl (cA53, 5718, .inl (fun _ => 0))), (q54, .inl (cA55, 1, .inr (.inl (fun _ => 0))))]) (w1 := [(q27, .inr (12, [.ref q29, .ref q30, .ref q31, .int 0, .int 1, .int 0, .int 0, .int 0, .ref q32, .ref q33, .ref q34, .ref q35, .ref q36, .int 0, .int 0, .ref q37, .ref q38, .ref q39, .ref q40, .ref q41, .ref q42, .ref q43, .ref q44, .int 0, .int 0, .ref q45, .ref q46, .ref q47, .ref q48, .ref q49, .int 0, .ref q50, .int 0, .int 0, .int 0, .int 0, .ref q51, .int 0, .int 0]))]) hP hD [9] [0, 1, 2, 3, 4, 5, 6, 7, 8] rfl rfl (by decide) (by decide) hk1 hFc hP1 hD1
    have hK := (hK.sub (tys' := [(cA25, .byte), (cA52, .byte), (cA53, .byte), (cA55, .long), (cA55, .long)]) [0, 1, 2, 3, 4] rfl).app hK1
    generalize H1 = H at hP hS ⊢
    have hP : va_P (dC, dI) cls [(q3, .inl (cA25, 2000, .inl (fun _ => 0))), (q4, .inr (1, [.ref q12, .ref q13, .ref q14, .int 0, .int 0])), (q5, .inr (2, [.ref q4, .ref q15, .ref q16, .int 0, .int 0])), (q6, .inr (3, [.ref q17, .int 0])), (q8, .inr (6, [.ref q18, .ref q19, .ref q5, .int 0, .int 0])), (q9, .inr (10, [.ref q20, .ref q21, .ref q22, .ref q23, .ref q24, .int 0])), (q29, .inl (cA52, 2000, .inl (fun _ => 0))), (q30, .inl (cA53, 5718, .inl (fun _ => 0))), (q54, .inl (cA55, 1, .inr (.inl (fun _ => 0)))), (q27, .inr (12, [.ref q29, .ref q30, .ref q31, .int 0, .int 1, .int 0, .int 0, .int 0, .ref q32, .ref q33, .ref q34, .ref q35, .ref q36, .int 0, .int 0, .ref q37, .ref q38, .ref q39, .ref q40, .ref q41, .ref q42, .ref q43, .ref q44, .int 0, .int 0, .ref q45, .ref q46, .ref q47, .ref q48, .ref q49, .int 0, .ref q50, .int 0, .int 0, .int 0, .int 0, .ref q51, .int 0, .int 0]))] H := hP
    have hD : va_D A [(q3, .inl (cA25, 2000, .inl (fun _ => 0))), (q4, .inr (1, [.ref q12, .ref q13, .ref q14, .int 0, .int 0])), (q5, .inr (2, [.ref q4, .ref q15, .ref q16, .int 0, .int 0])), (q6, .inr (3, [.ref q17, .int 0])), (q8, .inr (6, [.ref q18, .ref q19, .ref q5, .int 0, .int 0])), (q9, .inr (10, [.ref q20, .ref q21, .ref q22, .ref q23, .ref q24, .int 0])), (q29, .inl (cA52, 2000, .inl (fun _ => 0))), (q30, .inl (cA53, 5718, .inl (fun _ => 0))), (q54, .inl (cA55, 1, .inr (.inl (fun _ => 0)))), (q27, .inr (12, [.ref q29, .ref q30, .ref q31, .int 0, .int 1, .int 0, .int 0, .int 0, .ref q32, .ref q33, .ref q34, .ref q35, .ref q36, .int 0, .int 0, .ref q37, .ref q38, .ref q39, .ref q40, .ref q41, .ref q42, .ref q43, .ref q44, .int 0, .int 0, .ref q45, .ref q46, .ref q47, .ref q48, .ref q49, .int 0, .ref q50, .int 0, .int 0, .int 0, .int 0, .ref q51, .int 0, .int 0]))] := hD
    have hK : va_K (dC, dI) cls [(cA25, .byte), (cA52, .byte), (cA53, .byte), (cA55, .long), (cA55, .long)] s := hK
    obtain rfl : r1014 = 1 := hw
    refine lv_iload hx hb d_La_law_229 (lv_at hl 1 rfl) ?_
    refine lv_icmp_eq (tgt := 236) hx hb d_La_law_231 (by decide) (fun _ => ?_) (fun hc => absurd (by decide) hc)
    refine lv_iload hx hb d_La_law_236 (lv_at hl 1 rfl) ?_
    refine lv_if_ne (tgt := 253) hx hb d_La_law_238 (by decide) (fun _ => ?_) (fun hc => absurd hc (by decide))
    refine lv_goto hx hb d_La_law_253 (tgt := 751) (by decide) ?_
    exact law_end l hA2 ⟨hx, hb, hr, hml, hown, hts, hX, hbl, hlocks, hgv⟩ (Nat.le_of_ble_eq_true rfl) (Nat.le_of_ble_eq_true rfl) hS (lv_sub hl [6, 2] rfl)
set_option maxHeartbeats 4000000 in
set_option maxRecDepth 100000 in
theorem law_2 {p : Program} {e : Env} {s : State} {m : MethodId} {below : List Frame} {meth : Method} {c : Code} (l : Launch) (hfl : l.flags = flags0) {b : Nat} {xs : Nat → Int32} {A : Nat → Prop} (hA : ∀ q, s.heap.size ≤ q → A q) (hA2 : ∀ q, A q → s.heap.size ≤ q) (C0 : lw_At p s m meth c b 6 xs) (hT : ux_T s) (hH : ux_H s) (dC : Nat → ClassId) (dI : Nat → Nat → Nat) (q1 : Nat) (q3 : Nat) (q4 : Nat) (q5 : Nat) (q6 : Nat) (q7 : Nat) (q8 : Nat) (q9 : Nat) (q10 : Nat) (q11 : Nat) (q12 : Nat) (q13 : Nat) (q14 : Nat) (q15 : Nat) (q16 : Nat) (q17 : Nat) (q18 : Nat) (q19 : Nat) (q20 : Nat) (q21 : Nat) (q22 : Nat) (q23 : Nat) (q24 : Nat) (q27 : Nat) (q29 : Nat) (q30 : Nat) (q31 : Nat) (q32 : Nat) (q33 : Nat) (q34 : Nat) (q35 : Nat) (q36 : Nat) (q37 : Nat) (q38 : Nat) (q39 : Nat) (q40 : Nat) (q41 : Nat) (q42 : Nat) (q43 : Nat) (q44 : Nat) (q45 : Nat) (q46 : Nat) (q47 : Nat) (q48 : Nat) (q49 : Nat) (q50 : Nat) (q51 : Nat) (q54 : Nat) (cA25 : ClassId) (cA52 : ClassId) (cA53 : ClassId) (cA55 : ClassId) {H : Heap} {locs : List Loc} {ls : Array Slot} (hK : va_K (dC, dI) cls [(cA25, .byte), (cA52, .byte), (cA53, .byte), (cA55, .long)] s) (hP : va_P (dC, dI) cls [(q1, .inr (0, [.ref q3, .int 0, .int 0, .ref q4, .ref q5, .ref q6, .ref q7, .ref q8, .ref q9, .ref q10, .ref q11, .ref q3, .int 0, .int 0])), (q3, .inl (cA25, 2000, .inl (fun _ => 0))), (q4, .inr (1, [.ref q12, .ref q13, .ref q14, .int 0, .int 0])), (q5, .inr (2, [.ref q4, .ref q15, .ref q16, .int 0, .int 0])), (q6, .inr (3, [.ref q17, .int 0])), (q8, .inr (6, [.ref q18, .ref q19, .ref q5, .int 0, .int 0])), (q9, .inr (10, [.ref q20, .ref q21, .ref q22, .ref q23, .ref q24, .int 0])), (q27, .inr (12, [.ref q29, .ref q30, .ref q31, .int 0, .int 0, .int 0, .int 0, .int 0, .ref q32, .ref q33, .ref q34, .ref q35, .ref q36, .int 0, .int 0, .ref q37, .ref q38, .ref q39, .ref q40, .ref q41, .ref q42, .ref q43, .ref q44, .int 0, .int 0, .ref q45, .ref q46, .ref q47, .ref q48, .ref q49, .int 0, .ref q50, .int 0, .int 0, .int 0, .int 0, .ref q51, .int 0, .int 0])), (q29, .inl (cA52, 2000, .inl (fun _ => 0))), (q30, .inl (cA53, 5718, .inl (fun _ => 0))), (q54, .inl (cA55, 1, .inr (.inl (fun _ => 0))))] H) (hD : va_D A [(q1, .inr (0, [.ref q3, .int 0, .int 0, .ref q4, .ref q5, .ref q6, .ref q7, .ref q8, .ref q9, .ref q10, .ref q11, .ref q3, .int 0, .int 0])), (q3, .inl (cA25, 2000, .inl (fun _ => 0))), (q4, .inr (1, [.ref q12, .ref q13, .ref q14, .int 0, .int 0])), (q5, .inr (2, [.ref q4, .ref q15, .ref q16, .int 0, .int 0])), (q6, .inr (3, [.ref q17, .int 0])), (q8, .inr (6, [.ref q18, .ref q19, .ref q5, .int 0, .int 0])), (q9, .inr (10, [.ref q20, .ref q21, .ref q22, .ref q23, .ref q24, .int 0])), (q27, .inr (12, [.ref q29, .ref q30, .ref q31, .int 0, .int 0, .int 0, .int 0, .int 0, .ref q32, .ref q33, .ref q34, .ref q35, .ref q36, .int 0, .int 0, .ref q37, .ref q38, .ref q39, .ref q40, .ref q41, .ref q42, .ref q43, .ref q44, .int 0, .int 0, .ref q45, .ref q46, .ref q47, .ref q48, .ref q49, .int 0, .ref q50, .int 0, .int 0, .int 0, .int 0, .ref q51, .int 0, .int 0])), (q29, .inl (cA52, 2000, .inl (fun _ => 0))), (q30, .inl (cA53, 5718, .inl (fun _ => 0))), (q54, .inl (cA55, 1, .inr (.inl (fun _ => 0))))]) (hS : va_S A s.heap H locs) (hl : lv_has ls 8 [(4, .int 0), (3, .ref q54), (2, .ref q27), (1, .ref q1), (0, .ref b)]) : W p l e room_1 s m #[Value.ref b] below meth c H locs 219 543617 (lw_Z below #[Value.ref b] s) (F0 m 256 ls []) := by
  obtain ⟨hx, hb, hr, hml, hown, hts, hX, hbl, hlocks, hgv⟩ := C0
  have hown : s.vm.findClass "UnikernelHttpLaw" = some m.cls := hown
  have hbA : ¬ A b := fun h => absurd (hA2 b h) (by omega)
  have hfx : CallFix p m c b_La_law 8 s #[Value.ref b] [] "UnikernelHttpLaw" := ⟨hx, hb, hml, hown, fun _ h => by cases h⟩
  obtain ⟨v1, hv1⟩ : ∃ v, xs (1 : Int32).toNatClampNeg = v := ⟨_, rfl⟩
  obtain ⟨v2, hv2⟩ : ∃ v, xs (2 : Int32).toNatClampNeg = v := ⟨_, rfl⟩
  obtain ⟨v3, hv3⟩ : ∃ v, xs (3 : Int32).toNatClampNeg = v := ⟨_, rfl⟩
  obtain ⟨v4, hv4⟩ : ∃ v, xs (4 : Int32).toNatClampNeg = v := ⟨_, rfl⟩
  obtain ⟨v5, hv5⟩ : ∃ v, xs (5 : Int32).toNatClampNeg = v := ⟨_, rfl⟩
  refine lv_aload_n hx hb d_La_law_256 rfl (lv_at hl 3 rfl) ?_
  refine lv_aload_n hx hb d_La_law_257 rfl (lv_at hl 1 rfl) ?_
  have hhp : ∀ q, q < s.heap.size → H[q]? = s.heap[q]? := fun q hq => hS.2.1 q hq (fun h => absurd (hA2 q h) (by omega))
  have hPc := hP.sub (ws' := [(q1, .inr (0, [.ref q3, .int 0, .int 0, .ref q4, .ref q5, .ref q6, .ref q7, .ref q8, .ref q9, .ref q10, .ref q11, .ref q3, .int 0, .int 0])), (q5, .inr (2, [.ref q4, .ref q15, .ref q16, .int 0, .int 0])), (q54, .inl (cA55, 1, .inr (.inl (fun _ => 0))))]) [0, 3, 10] rfl
  have hDc := hD.sub (ws' := [(q1, .inr (0, [.ref q3, .int 0, .int 0, .ref q4, .ref q5, .ref q6, .ref q7, .ref q8, .ref q9, .ref q10, .ref q11, .ref q3, .int 0, .int 0])), (q5, .inr (2, [.ref q4, .ref q15, .ref q16, .int 0, .int 0])), (q54, .inl (cA55, 1, .inr (.inl (fun _ => 0))))]) [0, 3, 10] (by decide) rfl
  have hKc := hK.sub (tys' := [(cA55, .long)]) [3] rfl
  have hFc := va_free (wc := [(q1, .inr (0, [.ref q3, .int 0, .int 0, .ref q4, .ref q5, .ref q6, .ref q7, .ref q8, .ref q9, .ref q10, .ref q11, .ref q3, .int 0, .int 0])), (q5, .inr (2, [.ref q4, .ref q15, .ref q16, .int 0, .int 0])), (q54, .inl (cA55, 1, .inr (.inl (fun _ => 0))))]) hD hS hA [0, 3, 10] rfl
  have hkc : 219 + 0 ≤ 600002 := (Nat.le_of_ble_eq_true rfl)
  refine va_calli (ux_runSW (n := 2) (As := [.ref q1, .ref q54]) (rest := []) hfx (c_La_arrive l dC dI q1 q54 q3 q4 q5 q6 q7 q8 q9 q10 q11 q15 q16 cA55 H.size) hT tw_588 tw_586 tw_0 tw_587 rfl rfl (by decide +kernel) ⟨(Nat.le_of_ble_eq_true rfl), (Nat.le_of_ble_eq_true rfl)⟩ (ux_pre [.ref q1, .ref q54] hT hPc hKc hDc) rfl rfl hl.1 rfl (lv_room (Nat.le_of_ble_eq_true rfl)) d_La_law_258 ⟨(Nat.le_of_ble_eq_true rfl), (Nat.le_of_ble_eq_true rfl)⟩) hS (fun q _ h => hFc q h) hFc (fun r1001 u t H1 locs ht hvm hw hB hz1 hk1 hS => ?_)
  obtain ⟨hP1, hK1, hD1⟩ := hB
  rw [ht] at hP1
  have hK1 := va_K.moved hvm.symm hK1
  obtain ⟨hP, hD⟩ := va_join (wr := [(q3, .inl (cA25, 2000, .inl (fun _ => 0))), (q4, .inr (1, [.ref q12, .ref q13, .ref q14, .int 0, .int 0])), (q6, .inr (3, [.ref q17, .int 0])), (q8, .inr (6, [.ref q18, .ref q19, .ref q5, .int 0, .int 0])), (q9, .inr (10, [.ref q20, .ref q21, .ref q22, .ref q23, .ref q24, .int 0])), (q27, .inr (12, [.ref q29, .ref q30, .ref q31, .int 0, .int 0, .int 0, .int 0, .int 0, .ref q32, .ref q33, .ref q34, .ref q35, .ref q36, .int 0, .int 0, .ref q37, .ref q38, .ref q39, .ref q40, .ref q41, .ref q42, .ref q43, .ref q44, .int 0, .int 0, .ref q45, .ref q46, .ref q47, .ref q48, .ref q49, .int 0, .ref q50, .int 0, .int 0, .int 0, .int 0, .ref q51, .int 0, .int 0])), (q29, .inl (cA52, 2000, .inl (fun _ => 0))), (q30, .inl (cA53, 5718, .inl (fun _ => 0)))]) (w1 := [(q54, .inl (cA55, 1, .inr (.inl (vp_updL (fun _ => 0) (0 : Int32).toNatClampNeg 0))))]) hP hD [0, 3, 10] [1, 2, 4, 5, 6, 7, 8, 9] rfl rfl (by decide) (by decide) hk1 hFc hP1 hD1
  have hK := (hK.sub (tys' := [(cA25, .byte), (cA52, .byte), (cA53, .byte), (cA55, .long)]) [0, 1, 2, 3] rfl).app hK1
  generalize H1 = H at hP hS ⊢
  have hP : va_P (dC, dI) cls [(q3, .inl (cA25, 2000, .inl (fun _ => 0))), (q4, .inr (1, [.ref q12, .ref q13, .ref q14, .int 0, .int 0])), (q6, .inr (3, [.ref q17, .int 0])), (q8, .inr (6, [.ref q18, .ref q19, .ref q5, .int 0, .int 0])), (q9, .inr (10, [.ref q20, .ref q21, .ref q22, .ref q23, .ref q24, .int 0])), (q27, .inr (12, [.ref q29, .ref q30, .ref q31, .int 0, .int 0, .int 0, .int 0, .int 0, .ref q32, .ref q33, .ref q34, .ref q35, .ref q36, .int 0, .int 0, .ref q37, .ref q38, .ref q39, .ref q40, .ref q41, .ref q42, .ref q43, .ref q44, .int 0, .int 0, .ref q45, .ref q46, .ref q47, .ref q48, .ref q49, .int 0, .ref q50, .int 0, .int 0, .int 0, .int 0, .ref q51, .int 0, .int 0])), (q29, .inl (cA52, 2000, .inl (fun _ => 0))), (q30, .inl (cA53, 5718, .inl (fun _ => 0))), (q54, .inl (cA55, 1, .inr (.inl (vp_updL (fun _ => 0) (0 : Int32).toNatClampNeg 0))))] H := hP
  have hD : va_D A [(q3, .inl (cA25, 2000, .inl (fun _ => 0))), (q4, .inr (1, [.ref q12, .ref q13, .ref q14, .int 0, .int 0])), (q6, .inr (3, [.ref q17, .int 0])), (q8, .inr (6, [.ref q18, .ref q19, .ref q5, .int 0, .int 0])), (q9, .inr (10, [.ref q20, .ref q21, .ref q22, .ref q23, .ref q24, .int 0])), (q27, .inr (12, [.ref q29, .ref q30, .ref q31, .int 0, .int 0, .int 0, .int 0, .int 0, .ref q32, .ref q33, .ref q34, .ref q35, .ref q36, .int 0, .int 0, .ref q37, .ref q38, .ref q39, .ref q40, .ref q41, .ref q42, .ref q43, .ref q44, .int 0, .int 0, .ref q45, .ref q46, .ref q47, .ref q48, .ref q49, .int 0, .ref q50, .int 0, .int 0, .int 0, .int 0, .ref q51, .int 0, .int 0])), (q29, .inl (cA52, 2000, .inl (fun _ => 0))), (q30, .inl (cA53, 5718, .inl (fun _ => 0))), (q54, .inl (cA55, 1, .inr (.inl (vp_updL (fun _ => 0) (0 : Int32).toNatClampNeg 0))))] := hD
  have hK : va_K (dC, dI) cls [(cA25, .byte), (cA52, .byte), (cA53, .byte), (cA55, .long), (cA55, .long)] s := hK
  obtain rfl : r1001 = 0 := hw
  refine lv_istore hx hb d_La_law_261 hl (by decide) rfl (fun ls hl => ?_)
  have hl : lv_has ls 8 [(5, .int 0), (4, .int 0), (3, .ref q54), (2, .ref q27), (1, .ref q1), (0, .ref b)] := hl
  refine lv_aload_n hx hb d_La_law_263 rfl (lv_at hl 3 rfl) ?_
  have hhp : ∀ q, q < s.heap.size → H[q]? = s.heap[q]? := fun q hq => hS.2.1 q hq (fun h => absurd (hA2 q h) (by omega))
  have hPc := hP.sub (ws' := [(q27, .inr (12, [.ref q29, .ref q30, .ref q31, .int 0, .int 0, .int 0, .int 0, .int 0, .ref q32, .ref q33, .ref q34, .ref q35, .ref q36, .int 0, .int 0, .ref q37, .ref q38, .ref q39, .ref q40, .ref q41, .ref q42, .ref q43, .ref q44, .int 0, .int 0, .ref q45, .ref q46, .ref q47, .ref q48, .ref q49, .int 0, .ref q50, .int 0, .int 0, .int 0, .int 0, .ref q51, .int 0, .int 0])), (q29, .inl (cA52, 2000, .inl (fun _ => 0))), (q30, .inl (cA53, 5718, .inl (fun _ => 0)))]) [5, 6, 7] rfl
  have hDc := hD.sub (ws' := [(q27, .inr (12, [.ref q29, .ref q30, .ref q31, .int 0, .int 0, .int 0, .int 0, .int 0, .ref q32, .ref q33, .ref q34, .ref q35, .ref q36, .int 0, .int 0, .ref q37, .ref q38, .ref q39, .ref q40, .ref q41, .ref q42, .ref q43, .ref q44, .int 0, .int 0, .ref q45, .ref q46, .ref q47, .ref q48, .ref q49, .int 0, .ref q50, .int 0, .int 0, .int 0, .int 0, .ref q51, .int 0, .int 0])), (q29, .inl (cA52, 2000, .inl (fun _ => 0))), (q30, .inl (cA53, 5718, .inl (fun _ => 0)))]) [5, 6, 7] (by decide) rfl
  have hKc := hK.sub (tys' := [(cA52, .byte), (cA53, .byte)]) [1, 2] rfl
  have hFc := va_free (wc := [(q27, .inr (12, [.ref q29, .ref q30, .ref q31, .int 0, .int 0, .int 0, .int 0, .int 0, .ref q32, .ref q33, .ref q34, .ref q35, .ref q36, .int 0, .int 0, .ref q37, .ref q38, .ref q39, .ref q40, .ref q41, .ref q42, .ref q43, .ref q44, .int 0, .int 0, .ref q45, .ref q46, .ref q47, .ref q48, .ref q49, .int 0, .ref q50, .int 0, .int 0, .int 0, .int 0, .ref q51, .int 0, .int 0])), (q29, .inl (cA52, 2000, .inl (fun _ => 0))), (q30, .inl (cA53, 5718, .inl (fun _ => 0)))]) hD hS hA [5, 6, 7] rfl
  have hkc : 219 + 0 ≤ 600002 := (Nat.le_of_ble_eq_true rfl)
  refine va_calli (va_runV (As := []) (rest := []) hfx (c_Mo_arrive l dC dI q27 q29 q30 q31 q32 q33 q34 q35 q36 q37 q38 q39 q40 q41 q42 q43 q44 q45 q46 q47 q48 q49 q50 q51 cA52 cA53 (fun _ => 0) (fun _ => 0) H.size) ⟨(ux_cb 0 hT tw_1730 tw_1727 tw_13 rfl rfl (by decide +kernel) ⟨(Nat.le_of_ble_eq_true rfl), (Nat.le_of_ble_eq_true rfl)⟩), (ux_T_at hT tw_1728 rfl), (ux_T_at hT tw_1729 rfl)⟩ (ux_preV (r := (R_Mo, F_Mo, 39)) (ci := 12) (q0 := 0) [] hT hPc hKc hDc rfl rfl) rfl rfl hl.1 rfl (lv_room (Nat.le_of_ble_eq_true rfl)) d_La_law_264 ⟨(Nat.le_of_ble_eq_true rfl), (Nat.le_of_ble_eq_true rfl)⟩) hS (fun q _ h => hFc q h) hFc (fun r1002 u t H1 locs ht hvm hw hB hz1 hk1 hS => ?_)
  obtain ⟨hP1, hK1, hD1⟩ := hB
  rw [ht] at hP1
  have hK1 := va_K.moved hvm.symm hK1
  obtain ⟨hP, hD⟩ := va_join (wr := [(q3, .inl (cA25, 2000, .inl (fun _ => 0))), (q4, .inr (1, [.ref q12, .ref q13, .ref q14, .int 0, .int 0])), (q6, .inr (3, [.ref q17, .int 0])), (q8, .inr (6, [.ref q18, .ref q19, .ref q5, .int 0, .int 0])), (q9, .inr (10, [.ref q20, .ref q21, .ref q22, .ref q23, .ref q24, .int 0])), (q54, .inl (cA55, 1, .inr (.inl (vp_updL (fun _ => 0) (0 : Int32).toNatClampNeg 0))))]) (w1 := [(q27, .inr (12, [.ref q29, .ref q30, .ref q31, .int 0, .int 0, .int 0, .int 0, .int 0, .ref q32, .ref q33, .ref q34, .ref q35, .ref q36, .int 0, .int 0, .ref q37, .ref q38, .ref q39, .ref q40, .ref q41, .ref q42, .ref q43, .ref q44, .int 0, .int 0, .ref q45, .ref q46, .ref q47, .ref q48, .ref q49, .int 0, .ref q50, .int 0, .int 0, .int 0, .int 0, .ref q51, .int 0, .int 0]))]) hP hD [5, 6, 7] [0, 1, 2, 3, 4, 8] rfl rfl (by decide) (by decide) hk1 hFc hP1 hD1
  have hK := (hK.sub (tys' := [(cA25, .byte), (cA52, .byte), (cA53, .byte), (cA55, .long), (cA55, .long)]) [0, 1, 2, 3, 4] rfl).app hK1
  generalize H1 = H at hP hS ⊢
  have hP : va_P (dC, dI) cls [(q3, .inl (cA25, 2000, .inl (fun _ => 0))), (q4, .inr (1, [.ref q12, .ref q13, .ref q14, .int 0, .int 0])), (q6, .inr (3, [.ref q17, .int 0])), (q8, .inr (6, [.ref q18, .ref q19, .ref q5, .int 0, .int 0])), (q9, .inr (10, [.ref q20, .ref q21, .ref q22, .ref q23, .ref q24, .int 0])), (q54, .inl (cA55, 1, .inr (.inl (vp_updL (fun _ => 0) (0 : Int32).toNatClampNeg 0)))), (q27, .inr (12, [.ref q29, .ref q30, .ref q31, .int 0, .int 0, .int 0, .int 0, .int 0, .ref q32, .ref q33, .ref q34, .ref q35, .ref q36, .int 0, .int 0, .ref q37, .ref q38, .ref q39, .ref q40, .ref q41, .ref q42, .ref q43, .ref q44, .int 0, .int 0, .ref q45, .ref q46, .ref q47, .ref q48, .ref q49, .int 0, .ref q50, .int 0, .int 0, .int 0, .int 0, .ref q51, .int 0, .int 0]))] H := hP
  have hD : va_D A [(q3, .inl (cA25, 2000, .inl (fun _ => 0))), (q4, .inr (1, [.ref q12, .ref q13, .ref q14, .int 0, .int 0])), (q6, .inr (3, [.ref q17, .int 0])), (q8, .inr (6, [.ref q18, .ref q19, .ref q5, .int 0, .int 0])), (q9, .inr (10, [.ref q20, .ref q21, .ref q22, .ref q23, .ref q24, .int 0])), (q54, .inl (cA55, 1, .inr (.inl (vp_updL (fun _ => 0) (0 : Int32).toNatClampNeg 0)))), (q27, .inr (12, [.ref q29, .ref q30, .ref q31, .int 0, .int 0, .int 0, .int 0, .int 0, .ref q32, .ref q33, .ref q34, .ref q35, .ref q36, .int 0, .int 0, .ref q37, .ref q38, .ref q39, .ref q40, .ref q41, .ref q42, .ref q43, .ref q44, .int 0, .int 0, .ref q45, .ref q46, .ref q47, .ref q48, .ref q49, .int 0, .ref q50, .int 0, .int 0, .int 0, .int 0, .ref q51, .int 0, .int 0]))] := hD
  have hK : va_K (dC, dI) cls [(cA25, .byte), (cA52, .byte), (cA53, .byte), (cA55, .long), (cA55, .long)] s := hK
  obtain rfl : r1002 = 0 := hw
  refine lv_istore hx hb d_La_law_267 hl (by decide) rfl (fun ls hl => ?_)
  have hl : lv_has ls 8 [(6, .int 0), (5, .int 0), (4, .int 0), (3, .ref q54), (2, .ref q27), (1, .ref q1), (0, .ref b)] := hl
  refine lv_aload_n hx hb d_La_law_269 rfl (lv_at hl 4 rfl) ?_
  have hhp : ∀ q, q < s.heap.size → H[q]? = s.heap[q]? := fun q hq => hS.2.1 q hq (fun h => absurd (hA2 q h) (by omega))
  have hPc := hP.sub (ws' := [(q27, .inr (12, [.ref q29, .ref q30, .ref q31, .int 0, .int 0, .int 0, .int 0, .int 0, .ref q32, .ref q33, .ref q34, .ref q35, .ref q36, .int 0, .int 0, .ref q37, .ref q38, .ref q39, .ref q40, .ref q41, .ref q42, .ref q43, .ref q44, .int 0, .int 0, .ref q45, .ref q46, .ref q47, .ref q48, .ref q49, .int 0, .ref q50, .int 0, .int 0, .int 0, .int 0, .ref q51, .int 0, .int 0]))]) [6] rfl
  have hDc := hD.sub (ws' := [(q27, .inr (12, [.ref q29, .ref q30, .ref q31, .int 0, .int 0, .int 0, .int 0, .int 0, .ref q32, .ref q33, .ref q34, .ref q35, .ref q36, .int 0, .int 0, .ref q37, .ref q38, .ref q39, .ref q40, .ref q41, .ref q42, .ref q43, .ref q44, .int 0, .int 0, .ref q45, .ref q46, .ref q47, .ref q48, .ref q49, .int 0, .ref q50, .int 0, .int 0, .int 0, .int 0, .ref q51, .int 0, .int 0]))]) [6] (by decide) rfl
  have hKc := hK.sub (tys' := []) [] rfl
  have hFc := va_free (wc := [(q27, .inr (12, [.ref q29, .ref q30, .ref q31, .int 0, .int 0, .int 0, .int 0, .int 0, .ref q32, .ref q33, .ref q34, .ref q35, .ref q36, .int 0, .int 0, .ref q37, .ref q38, .ref q39, .ref q40, .ref q41, .ref q42, .ref q43, .ref q44, .int 0, .int 0, .ref q45, .ref q46, .ref q47, .ref q48, .ref q49, .int 0, .ref q50, .int 0, .int 0, .int 0, .int 0, .ref q51, .int 0, .int 0]))]) hD hS hA [6] rfl
  have hkc : 219 + 0 ≤ 600002 := (Nat.le_of_ble_eq_true rfl)
  refine va_calli (va_runV (As := []) (rest := []) hfx (c_Mo_thrown_0 l dC dI q27 q29 q30 q31 q32 q33 q34 q35 q36 q37 q38 q39 q40 q41 q42 q43 q44 q45 q46 q47 q48 q49 q50 q51 0 0 H.size) ⟨(ux_cb 0 hT tw_1714 tw_1711 tw_13 rfl rfl (by decide +kernel) ⟨(Nat.le_of_ble_eq_true rfl), (Nat.le_of_ble_eq_true rfl)⟩), (ux_T_at hT tw_1712 rfl), (ux_T_at hT tw_1713 rfl)⟩ (ux_preV (r := (R_Mo, F_Mo, 39)) (ci := 12) (q0 := 0) [] hT hPc hKc hDc rfl rfl) rfl rfl hl.1 rfl (lv_room (Nat.le_of_ble_eq_true rfl)) d_La_law_270 ⟨(Nat.le_of_ble_eq_true rfl), (Nat.le_of_ble_eq_true rfl)⟩) hS (fun q _ h => hFc q h) hFc (fun r1003 u t H1 locs ht hvm hw hB hz1 hk1 hS => ?_)
  obtain ⟨hP1, hK1, hD1⟩ := hB
  rw [ht] at hP1
  have hK1 := va_K.moved hvm.symm hK1
  obtain ⟨hP, hD⟩ := va_join (wr := [(q3, .inl (cA25, 2000, .inl (fun _ => 0))), (q4, .inr (1, [.ref q12, .ref q13, .ref q14, .int 0, .int 0])), (q6, .inr (3, [.ref q17, .int 0])), (q8, .inr (6, [.ref q18, .ref q19, .ref q5, .int 0, .int 0])), (q9, .inr (10, [.ref q20, .ref q21, .ref q22, .ref q23, .ref q24, .int 0])), (q54, .inl (cA55, 1, .inr (.inl (vp_updL (fun _ => 0) (0 : Int32).toNatClampNeg 0))))]) (w1 := [(q27, .inr (12, [.ref q29, .ref q30, .ref q31, .int 0, .int 0, .int 0, .int 0, .int 0, .ref q32, .ref q33, .ref q34, .ref q35, .ref q36, .int 0, .int 0, .ref q37, .ref q38, .ref q39, .ref q40, .ref q41, .ref q42, .ref q43, .ref q44, .int 0, .int 0, .ref q45, .ref q46, .ref q47, .ref q48, .ref q49, .int 0, .ref q50, .int 0, .int 0, .int 0, .int 0, .ref q51, .int 0, .int 0]))]) hP hD [6] [0, 1, 2, 3, 4, 5] rfl rfl (by decide) (by decide) hk1 hFc hP1 hD1
  have hK := (hK.sub (tys' := [(cA25, .byte), (cA52, .byte), (cA53, .byte), (cA55, .long), (cA55, .long)]) [0, 1, 2, 3, 4] rfl).app hK1
  generalize H1 = H at hP hS ⊢
  have hP : va_P (dC, dI) cls [(q3, .inl (cA25, 2000, .inl (fun _ => 0))), (q4, .inr (1, [.ref q12, .ref q13, .ref q14, .int 0, .int 0])), (q6, .inr (3, [.ref q17, .int 0])), (q8, .inr (6, [.ref q18, .ref q19, .ref q5, .int 0, .int 0])), (q9, .inr (10, [.ref q20, .ref q21, .ref q22, .ref q23, .ref q24, .int 0])), (q54, .inl (cA55, 1, .inr (.inl (vp_updL (fun _ => 0) (0 : Int32).toNatClampNeg 0)))), (q27, .inr (12, [.ref q29, .ref q30, .ref q31, .int 0, .int 0, .int 0, .int 0, .int 0, .ref q32, .ref q33, .ref q34, .ref q35, .ref q36, .int 0, .int 0, .ref q37, .ref q38, .ref q39, .ref q40, .ref q41, .ref q42, .ref q43, .ref q44, .int 0, .int 0, .ref q45, .ref q46, .ref q47, .ref q48, .ref q49, .int 0, .ref q50, .int 0, .int 0, .int 0, .int 0, .ref q51, .int 0, .int 0]))] H := hP
  have hD : va_D A [(q3, .inl (cA25, 2000, .inl (fun _ => 0))), (q4, .inr (1, [.ref q12, .ref q13, .ref q14, .int 0, .int 0])), (q6, .inr (3, [.ref q17, .int 0])), (q8, .inr (6, [.ref q18, .ref q19, .ref q5, .int 0, .int 0])), (q9, .inr (10, [.ref q20, .ref q21, .ref q22, .ref q23, .ref q24, .int 0])), (q54, .inl (cA55, 1, .inr (.inl (vp_updL (fun _ => 0) (0 : Int32).toNatClampNeg 0)))), (q27, .inr (12, [.ref q29, .ref q30, .ref q31, .int 0, .int 0, .int 0, .int 0, .int 0, .ref q32, .ref q33, .ref q34, .ref q35, .ref q36, .int 0, .int 0, .ref q37, .ref q38, .ref q39, .ref q40, .ref q41, .ref q42, .ref q43, .ref q44, .int 0, .int 0, .ref q45, .ref q46, .ref q47, .ref q48, .ref q49, .int 0, .ref q50, .int 0, .int 0, .int 0, .int 0, .ref q51, .int 0, .int 0]))] := hD
  have hK : va_K (dC, dI) cls [(cA25, .byte), (cA52, .byte), (cA53, .byte), (cA55, .long), (cA55, .long)] s := hK
  obtain rfl : r1003 = 0 := hw
  refine lv_iload hx hb d_La_law_273 (lv_at hl 1 rfl) ?_
  refine lv_icmp_eq (tgt := 280) hx hb d_La_law_275 (by decide) (fun _ => ?_) (fun hc => absurd (by decide) hc)
  refine lv_iload hx hb d_La_law_280 (lv_at hl 1 rfl) ?_
  refine lv_if_ne (tgt := 297) hx hb d_La_law_282 (by decide) (fun hc => absurd (by decide) hc) (fun _ => ?_)
  refine lv_aload_n hx hb d_La_law_285 rfl (lv_at hl 3 rfl) ?_
  refine lv_iconst (v := 0) hx hb d_La_law_286 (by decide) ?_
  refine va_lald hx hb hK hP 5 3 rfl rfl (i := 0) (show ¬ ((0 : Int32) < 0 ∨ 1 ≤ (0 : Int32).toNatClampNeg) by decide) d_La_law_287 ?_
  refine lv_topl (fun x1004 ex1004 => ?_)
  obtain rfl : x1004 = 0 := ex1004.trans (by decide)
  refine lv_iload hx hb d_La_law_288 (lv_at hl 0 rfl) ?_
  refine lv_i2l (v := 0) hx hb d_La_law_290 (by decide) ?_
  refine W.lcmp hx hb d_La_law_291 ?_
  refine lv_topi (fun x1005 ex1005 => ?_)
  obtain rfl : x1005 = 0 := ex1005.trans (by decide)
  refine lv_if_eq (tgt := 297) hx hb d_La_law_292 (by decide) (fun _ => ?_) (fun hc => absurd (by decide) hc)
  refine lv_goto hx hb d_La_law_297 (tgt := 751) (by decide) ?_
  exact law_end l hA2 ⟨hx, hb, hr, hml, hown, hts, hX, hbl, hlocks, hgv⟩ (Nat.le_of_ble_eq_true rfl) (Nat.le_of_ble_eq_true rfl) hS (lv_sub hl [6, 2] rfl)
set_option maxHeartbeats 4000000 in
set_option maxRecDepth 100000 in
theorem law_3 {p : Program} {e : Env} {s : State} {m : MethodId} {below : List Frame} {meth : Method} {c : Code} (l : Launch) (hfl : l.flags = flags0) {b : Nat} {xs : Nat → Int32} {A : Nat → Prop} (hA : ∀ q, s.heap.size ≤ q → A q) (hA2 : ∀ q, A q → s.heap.size ≤ q) (C0 : lw_At p s m meth c b 6 xs) (hT : ux_T s) (hH : ux_H s) (dC : Nat → ClassId) (dI : Nat → Nat → Nat) (q1 : Nat) (q3 : Nat) (q4 : Nat) (q5 : Nat) (q6 : Nat) (q7 : Nat) (q8 : Nat) (q9 : Nat) (q10 : Nat) (q11 : Nat) (q12 : Nat) (q13 : Nat) (q14 : Nat) (q15 : Nat) (q16 : Nat) (q17 : Nat) (q18 : Nat) (q19 : Nat) (q20 : Nat) (q21 : Nat) (q22 : Nat) (q23 : Nat) (q24 : Nat) (q27 : Nat) (q29 : Nat) (q30 : Nat) (q31 : Nat) (q32 : Nat) (q33 : Nat) (q34 : Nat) (q35 : Nat) (q36 : Nat) (q37 : Nat) (q38 : Nat) (q39 : Nat) (q40 : Nat) (q41 : Nat) (q42 : Nat) (q43 : Nat) (q44 : Nat) (q45 : Nat) (q46 : Nat) (q47 : Nat) (q48 : Nat) (q49 : Nat) (q50 : Nat) (q51 : Nat) (q54 : Nat) (cA25 : ClassId) (cA52 : ClassId) (cA53 : ClassId) (cA55 : ClassId) {H : Heap} {locs : List Loc} {ls : Array Slot} (hK : va_K (dC, dI) cls [(cA25, .byte), (cA52, .byte), (cA53, .byte), (cA55, .long)] s) (hP : va_P (dC, dI) cls [(q1, .inr (0, [.ref q3, .int 0, .int 0, .ref q4, .ref q5, .ref q6, .ref q7, .ref q8, .ref q9, .ref q10, .ref q11, .ref q3, .int 0, .int 0])), (q3, .inl (cA25, 2000, .inl (fun _ => 0))), (q4, .inr (1, [.ref q12, .ref q13, .ref q14, .int 0, .int 0])), (q5, .inr (2, [.ref q4, .ref q15, .ref q16, .int 0, .int 0])), (q6, .inr (3, [.ref q17, .int 0])), (q8, .inr (6, [.ref q18, .ref q19, .ref q5, .int 0, .int 0])), (q9, .inr (10, [.ref q20, .ref q21, .ref q22, .ref q23, .ref q24, .int 0])), (q27, .inr (12, [.ref q29, .ref q30, .ref q31, .int 0, .int 0, .int 0, .int 0, .int 0, .ref q32, .ref q33, .ref q34, .ref q35, .ref q36, .int 0, .int 0, .ref q37, .ref q38, .ref q39, .ref q40, .ref q41, .ref q42, .ref q43, .ref q44, .int 0, .int 0, .ref q45, .ref q46, .ref q47, .ref q48, .ref q49, .int 0, .ref q50, .int 0, .int 0, .int 0, .int 0, .ref q51, .int 0, .int 0])), (q29, .inl (cA52, 2000, .inl (fun _ => 0))), (q30, .inl (cA53, 5718, .inl (fun _ => 0))), (q54, .inl (cA55, 1, .inr (.inl (fun _ => 0))))] H) (hD : va_D A [(q1, .inr (0, [.ref q3, .int 0, .int 0, .ref q4, .ref q5, .ref q6, .ref q7, .ref q8, .ref q9, .ref q10, .ref q11, .ref q3, .int 0, .int 0])), (q3, .inl (cA25, 2000, .inl (fun _ => 0))), (q4, .inr (1, [.ref q12, .ref q13, .ref q14, .int 0, .int 0])), (q5, .inr (2, [.ref q4, .ref q15, .ref q16, .int 0, .int 0])), (q6, .inr (3, [.ref q17, .int 0])), (q8, .inr (6, [.ref q18, .ref q19, .ref q5, .int 0, .int 0])), (q9, .inr (10, [.ref q20, .ref q21, .ref q22, .ref q23, .ref q24, .int 0])), (q27, .inr (12, [.ref q29, .ref q30, .ref q31, .int 0, .int 0, .int 0, .int 0, .int 0, .ref q32, .ref q33, .ref q34, .ref q35, .ref q36, .int 0, .int 0, .ref q37, .ref q38, .ref q39, .ref q40, .ref q41, .ref q42, .ref q43, .ref q44, .int 0, .int 0, .ref q45, .ref q46, .ref q47, .ref q48, .ref q49, .int 0, .ref q50, .int 0, .int 0, .int 0, .int 0, .ref q51, .int 0, .int 0])), (q29, .inl (cA52, 2000, .inl (fun _ => 0))), (q30, .inl (cA53, 5718, .inl (fun _ => 0))), (q54, .inl (cA55, 1, .inr (.inl (fun _ => 0))))]) (hS : va_S A s.heap H locs) (hl : lv_has ls 8 [(4, .int 0), (3, .ref q54), (2, .ref q27), (1, .ref q1), (0, .ref b)]) : W p l e room_1 s m #[Value.ref b] below meth c H locs 219 543617 (lw_Z below #[Value.ref b] s) (F0 m 300 ls []) := by
  obtain ⟨hx, hb, hr, hml, hown, hts, hX, hbl, hlocks, hgv⟩ := C0
  have hown : s.vm.findClass "UnikernelHttpLaw" = some m.cls := hown
  have hbA : ¬ A b := fun h => absurd (hA2 b h) (by omega)
  have hfx : CallFix p m c b_La_law 8 s #[Value.ref b] [] "UnikernelHttpLaw" := ⟨hx, hb, hml, hown, fun _ h => by cases h⟩
  obtain ⟨v1, hv1⟩ : ∃ v, xs (1 : Int32).toNatClampNeg = v := ⟨_, rfl⟩
  obtain ⟨v2, hv2⟩ : ∃ v, xs (2 : Int32).toNatClampNeg = v := ⟨_, rfl⟩
  obtain ⟨v3, hv3⟩ : ∃ v, xs (3 : Int32).toNatClampNeg = v := ⟨_, rfl⟩
  obtain ⟨v4, hv4⟩ : ∃ v, xs (4 : Int32).toNatClampNeg = v := ⟨_, rfl⟩
  obtain ⟨v5, hv5⟩ : ∃ v, xs (5 : Int32).toNatClampNeg = v := ⟨_, rfl⟩
  refine lv_aload_n hx hb d_La_law_300 rfl (lv_at hl 3 rfl) ?_
  refine lv_aload_n hx hb d_La_law_301 rfl (lv_at hl 4 rfl) ?_
  refine lv_iload hx hb d_La_law_302 (lv_at hl 0 rfl) ?_
  refine lv_iconst (v := 1) hx hb d_La_law_304 (by decide) ?_
  refine lv_iadd hx hb d_La_law_305 ?_
  refine lv_topi (fun x1001 ex1001 => ?_)
  obtain rfl : x1001 = 1 := ex1001.trans (by decide)
  refine va_sld hx hb hX hbl hbA hS (i := 1) (show ¬ ((1 : Int32) < 0 ∨ 6 ≤ (1 : Int32).toNatClampNeg) by decide) d_La_law_306 ?_
  refine lv_topi (fun x1002 ex1002 => ?_)
  obtain rfl : v1 = x1002 := (ex1002.trans hv1).symm
  refine lv_aload_n hx hb d_La_law_307 rfl (lv_at hl 1 rfl) ?_
  have hhp : ∀ q, q < s.heap.size → H[q]? = s.heap[q]? := fun q hq => hS.2.1 q hq (fun h => absurd (hA2 q h) (by omega))
  have hPc := hP.sub (ws' := [(q1, .inr (0, [.ref q3, .int 0, .int 0, .ref q4, .ref q5, .ref q6, .ref q7, .ref q8, .ref q9, .ref q10, .ref q11, .ref q3, .int 0, .int 0])), (q54, .inl (cA55, 1, .inr (.inl (fun _ => 0))))]) [0, 10] rfl
  have hDc := hD.sub (ws' := [(q1, .inr (0, [.ref q3, .int 0, .int 0, .ref q4, .ref q5, .ref q6, .ref q7, .ref q8, .ref q9, .ref q10, .ref q11, .ref q3, .int 0, .int 0])), (q54, .inl (cA55, 1, .inr (.inl (fun _ => 0))))]) [0, 10] (by decide) rfl
  have hKc := hK.sub (tys' := [(cA55, .long)]) [3] rfl
  have hFc := va_free (wc := [(q1, .inr (0, [.ref q3, .int 0, .int 0, .ref q4, .ref q5, .ref q6, .ref q7, .ref q8, .ref q9, .ref q10, .ref q11, .ref q3, .int 0, .int 0])), (q54, .inl (cA55, 1, .inr (.inl (fun _ => 0))))]) hD hS hA [0, 10] rfl
  have hkc : 219 + 1 ≤ 600002 := (Nat.le_of_ble_eq_true rfl)
  refine va_calli (ux_runSW (n := 3) (As := [.ref q1, .int v1, .ref q54]) (rest := []) hfx (c_La_page l hfl dC dI q1 q54 q3 q4 q5 q6 q7 q8 q9 q10 q11 cA55 v1 H.size) hT tw_1342 tw_1340 tw_0 tw_1341 rfl rfl (by decide +kernel) ⟨(Nat.le_of_ble_eq_true rfl), (Nat.le_of_ble_eq_true rfl)⟩ (ux_preH [.ref q1, .int v1, .ref q54] hT hH hhp hPc hKc hDc) rfl rfl hl.1 rfl (lv_room (Nat.le_of_ble_eq_true rfl)) d_La_law_308 ⟨(Nat.le_of_ble_eq_true rfl), (Nat.le_of_ble_eq_true rfl)⟩) hS (fun q _ h => hFc q h) hFc (fun r1003 u t H1 locs ht hvm hw hB hz1 hk1 hS => ?_)
  obtain ⟨hP1, hK1, hD1⟩ := hB
  rw [ht] at hP1
  have hK1 := va_K.moved hvm.symm hK1
  obtain ⟨hP, hD⟩ := va_join (wr := [(q3, .inl (cA25, 2000, .inl (fun _ => 0))), (q4, .inr (1, [.ref q12, .ref q13, .ref q14, .int 0, .int 0])), (q5, .inr (2, [.ref q4, .ref q15, .ref q16, .int 0, .int 0])), (q6, .inr (3, [.ref q17, .int 0])), (q8, .inr (6, [.ref q18, .ref q19, .ref q5, .int 0, .int 0])), (q9, .inr (10, [.ref q20, .ref q21, .ref q22, .ref q23, .ref q24, .int 0])), (q27, .inr (12, [.ref q29, .ref q30, .ref q31, .int 0, .int 0, .int 0, .int 0, .int 0, .ref q32, .ref q33, .ref q34, .ref q35, .ref q36, .int 0, .int 0, .ref q37, .ref q38, .ref q39, .ref q40, .ref q41, .ref q42, .ref q43, .ref q44, .int 0, .int 0, .ref q45, .ref q46, .ref q47, .ref q48, .ref q49, .int 0, .ref q50, .int 0, .int 0, .int 0, .int 0, .ref q51, .int 0, .int 0])), (q29, .inl (cA52, 2000, .inl (fun _ => 0))), (q30, .inl (cA53, 5718, .inl (fun _ => 0)))]) (w1 := [(q54, .inl (cA55, 1, .inr (.inl (fun _ => 0))))]) hP hD [0, 10] [1, 2, 3, 4, 5, 6, 7, 8, 9] rfl rfl (by decide) (by decide) hk1 hFc hP1 hD1
  have hK := (hK.sub (tys' := [(cA25, .byte), (cA52, .byte), (cA53, .byte), (cA55, .long)]) [0, 1, 2, 3] rfl).app hK1
  generalize H1 = H at hP hS ⊢
  have hP : va_P (dC, dI) cls [(q3, .inl (cA25, 2000, .inl (fun _ => 0))), (q4, .inr (1, [.ref q12, .ref q13, .ref q14, .int 0, .int 0])), (q5, .inr (2, [.ref q4, .ref q15, .ref q16, .int 0, .int 0])), (q6, .inr (3, [.ref q17, .int 0])), (q8, .inr (6, [.ref q18, .ref q19, .ref q5, .int 0, .int 0])), (q9, .inr (10, [.ref q20, .ref q21, .ref q22, .ref q23, .ref q24, .int 0])), (q27, .inr (12, [.ref q29, .ref q30, .ref q31, .int 0, .int 0, .int 0, .int 0, .int 0, .ref q32, .ref q33, .ref q34, .ref q35, .ref q36, .int 0, .int 0, .ref q37, .ref q38, .ref q39, .ref q40, .ref q41, .ref q42, .ref q43, .ref q44, .int 0, .int 0, .ref q45, .ref q46, .ref q47, .ref q48, .ref q49, .int 0, .ref q50, .int 0, .int 0, .int 0, .int 0, .ref q51, .int 0, .int 0])), (q29, .inl (cA52, 2000, .inl (fun _ => 0))), (q30, .inl (cA53, 5718, .inl (fun _ => 0))), (q54, .inl (cA55, 1, .inr (.inl (fun _ => 0))))] H := hP
  have hD : va_D A [(q3, .inl (cA25, 2000, .inl (fun _ => 0))), (q4, .inr (1, [.ref q12, .ref q13, .ref q14, .int 0, .int 0])), (q5, .inr (2, [.ref q4, .ref q15, .ref q16, .int 0, .int 0])), (q6, .inr (3, [.ref q17, .int 0])), (q8, .inr (6, [.ref q18, .ref q19, .ref q5, .int 0, .int 0])), (q9, .inr (10, [.ref q20, .ref q21, .ref q22, .ref q23, .ref q24, .int 0])), (q27, .inr (12, [.ref q29, .ref q30, .ref q31, .int 0, .int 0, .int 0, .int 0, .int 0, .ref q32, .ref q33, .ref q34, .ref q35, .ref q36, .int 0, .int 0, .ref q37, .ref q38, .ref q39, .ref q40, .ref q41, .ref q42, .ref q43, .ref q44, .int 0, .int 0, .ref q45, .ref q46, .ref q47, .ref q48, .ref q49, .int 0, .ref q50, .int 0, .int 0, .int 0, .int 0, .ref q51, .int 0, .int 0])), (q29, .inl (cA52, 2000, .inl (fun _ => 0))), (q30, .inl (cA53, 5718, .inl (fun _ => 0))), (q54, .inl (cA55, 1, .inr (.inl (fun _ => 0))))] := hD
  have hK : va_K (dC, dI) cls [(cA25, .byte), (cA52, .byte), (cA53, .byte), (cA55, .long), (cA55, .long)] s := hK
  obtain rfl : r1003 = 1 := hw
  refine lv_istore hx hb d_La_law_311 hl (by decide) rfl (fun ls hl => ?_)
  have hl : lv_has ls 8 [(5, .int 1), (4, .int 0), (3, .ref q54), (2, .ref q27), (1, .ref q1), (0, .ref b)] := hl
  refine lv_aload_n hx hb d_La_law_313 rfl (lv_at hl 3 rfl) ?_
  refine lv_aload_n hx hb d_La_law_314 rfl (lv_at hl 5 rfl) ?_
  refine lv_iload hx hb d_La_law_315 (lv_at hl 1 rfl) ?_
  refine lv_iconst (v := 1) hx hb d_La_law_317 (by decide) ?_
  refine lv_iadd hx hb d_La_law_318 ?_
  refine lv_topi (fun x1004 ex1004 => ?_)
  obtain rfl : x1004 = 1 := ex1004.trans (by decide)
  refine va_sld hx hb hX hbl hbA hS (i := 1) (show ¬ ((1 : Int32) < 0 ∨ 6 ≤ (1 : Int32).toNatClampNeg) by decide) d_La_law_319 ?_
  refine lv_topi (fun x1005 ex1005 => ?_)
  obtain rfl : v1 = x1005 := (ex1005.trans hv1).symm
  have hhp : ∀ q, q < s.heap.size → H[q]? = s.heap[q]? := fun q hq => hS.2.1 q hq (fun h => absurd (hA2 q h) (by omega))
  have hPc := hP.sub (ws' := [(q27, .inr (12, [.ref q29, .ref q30, .ref q31, .int 0, .int 0, .int 0, .int 0, .int 0, .ref q32, .ref q33, .ref q34, .ref q35, .ref q36, .int 0, .int 0, .ref q37, .ref q38, .ref q39, .ref q40, .ref q41, .ref q42, .ref q43, .ref q44, .int 0, .int 0, .ref q45, .ref q46, .ref q47, .ref q48, .ref q49, .int 0, .ref q50, .int 0, .int 0, .int 0, .int 0, .ref q51, .int 0, .int 0]))]) [6] rfl
  have hDc := hD.sub (ws' := [(q27, .inr (12, [.ref q29, .ref q30, .ref q31, .int 0, .int 0, .int 0, .int 0, .int 0, .ref q32, .ref q33, .ref q34, .ref q35, .ref q36, .int 0, .int 0, .ref q37, .ref q38, .ref q39, .ref q40, .ref q41, .ref q42, .ref q43, .ref q44, .int 0, .int 0, .ref q45, .ref q46, .ref q47, .ref q48, .ref q49, .int 0, .ref q50, .int 0, .int 0, .int 0, .int 0, .ref q51, .int 0, .int 0]))]) [6] (by decide) rfl
  have hKc := hK.sub (tys' := []) [] rfl
  have hFc := va_free (wc := [(q27, .inr (12, [.ref q29, .ref q30, .ref q31, .int 0, .int 0, .int 0, .int 0, .int 0, .ref q32, .ref q33, .ref q34, .ref q35, .ref q36, .int 0, .int 0, .ref q37, .ref q38, .ref q39, .ref q40, .ref q41, .ref q42, .ref q43, .ref q44, .int 0, .int 0, .ref q45, .ref q46, .ref q47, .ref q48, .ref q49, .int 0, .ref q50, .int 0, .int 0, .int 0, .int 0, .ref q51, .int 0, .int 0]))]) hD hS hA [6] rfl
  have hkc : 220 + 0 ≤ 600002 := (Nat.le_of_ble_eq_true rfl)
  refine va_calli (va_runV (As := [.int v1]) (rest := []) hfx (c_Mo_page l dC dI q27 q29 q30 q31 q32 q33 q34 q35 q36 q37 q38 q39 q40 q41 q42 q43 q44 q45 q46 q47 q48 q49 q50 q51 v1 H.size) ⟨(ux_cb 1 hT tw_1944 tw_1941 tw_13 rfl rfl (by decide +kernel) ⟨(Nat.le_of_ble_eq_true rfl), (Nat.le_of_ble_eq_true rfl)⟩), (ux_T_at hT tw_1942 rfl), (ux_T_at hT tw_1943 rfl)⟩ (ux_preV (r := (R_Mo, F_Mo, 39)) (ci := 12) (q0 := 0) [.int v1] hT hPc hKc hDc rfl rfl) rfl rfl hl.1 rfl (lv_room (Nat.le_of_ble_eq_true rfl)) d_La_law_320 ⟨(Nat.le_of_ble_eq_true rfl), (Nat.le_of_ble_eq_true rfl)⟩) hS (fun q _ h => hFc q h) hFc (fun r1006 u t H1 locs ht hvm hw hB hz1 hk1 hS => ?_)
  obtain ⟨hP1, hK1, hD1⟩ := hB
  rw [ht] at hP1
  have hK1 := va_K.moved hvm.symm hK1
  obtain ⟨hP, hD⟩ := va_join (wr := [(q3, .inl (cA25, 2000, .inl (fun _ => 0))), (q4, .inr (1, [.ref q12, .ref q13, .ref q14, .int 0, .int 0])), (q5, .inr (2, [.ref q4, .ref q15, .ref q16, .int 0, .int 0])), (q6, .inr (3, [.ref q17, .int 0])), (q8, .inr (6, [.ref q18, .ref q19, .ref q5, .int 0, .int 0])), (q9, .inr (10, [.ref q20, .ref q21, .ref q22, .ref q23, .ref q24, .int 0])), (q29, .inl (cA52, 2000, .inl (fun _ => 0))), (q30, .inl (cA53, 5718, .inl (fun _ => 0))), (q54, .inl (cA55, 1, .inr (.inl (fun _ => 0))))]) (w1 := [(q27, .inr (12, [.ref q29, .ref q30, .ref q31, .int 0, .int 1, .int 0, .int 0, .int 0, .ref q32, .ref q33, .ref q34, .ref q35, .ref q36, .int 0, .int 0, .ref q37, .ref q38, .ref q39, .ref q40, .ref q41, .ref q42, .ref q43, .ref q44, .int 0, .int 0, .ref q45, .ref q46, .ref q47, .ref q48, .ref q49, .int 0, .ref q50, .int 0, .int 0, .int 0, .int 0, .ref q51, .int 0, .int 0]))]) hP hD [6] [0, 1, 2, 3, 4, 5, 7, 8, 9] rfl rfl (by decide) (by decide) hk1 hFc hP1 hD1
  have hK := (hK.sub (tys' := [(cA25, .byte), (cA52, .byte), (cA53, .byte), (cA55, .long), (cA55, .long)]) [0, 1, 2, 3, 4] rfl).app hK1
  generalize H1 = H at hP hS ⊢
  have hP : va_P (dC, dI) cls [(q3, .inl (cA25, 2000, .inl (fun _ => 0))), (q4, .inr (1, [.ref q12, .ref q13, .ref q14, .int 0, .int 0])), (q5, .inr (2, [.ref q4, .ref q15, .ref q16, .int 0, .int 0])), (q6, .inr (3, [.ref q17, .int 0])), (q8, .inr (6, [.ref q18, .ref q19, .ref q5, .int 0, .int 0])), (q9, .inr (10, [.ref q20, .ref q21, .ref q22, .ref q23, .ref q24, .int 0])), (q29, .inl (cA52, 2000, .inl (fun _ => 0))), (q30, .inl (cA53, 5718, .inl (fun _ => 0))), (q54, .inl (cA55, 1, .inr (.inl (fun _ => 0)))), (q27, .inr (12, [.ref q29, .ref q30, .ref q31, .int 0, .int 1, .int 0, .int 0, .int 0, .ref q32, .ref q33, .ref q34, .ref q35, .ref q36, .int 0, .int 0, .ref q37, .ref q38, .ref q39, .ref q40, .ref q41, .ref q42, .ref q43, .ref q44, .int 0, .int 0, .ref q45, .ref q46, .ref q47, .ref q48, .ref q49, .int 0, .ref q50, .int 0, .int 0, .int 0, .int 0, .ref q51, .int 0, .int 0]))] H := hP
  have hD : va_D A [(q3, .inl (cA25, 2000, .inl (fun _ => 0))), (q4, .inr (1, [.ref q12, .ref q13, .ref q14, .int 0, .int 0])), (q5, .inr (2, [.ref q4, .ref q15, .ref q16, .int 0, .int 0])), (q6, .inr (3, [.ref q17, .int 0])), (q8, .inr (6, [.ref q18, .ref q19, .ref q5, .int 0, .int 0])), (q9, .inr (10, [.ref q20, .ref q21, .ref q22, .ref q23, .ref q24, .int 0])), (q29, .inl (cA52, 2000, .inl (fun _ => 0))), (q30, .inl (cA53, 5718, .inl (fun _ => 0))), (q54, .inl (cA55, 1, .inr (.inl (fun _ => 0)))), (q27, .inr (12, [.ref q29, .ref q30, .ref q31, .int 0, .int 1, .int 0, .int 0, .int 0, .ref q32, .ref q33, .ref q34, .ref q35, .ref q36, .int 0, .int 0, .ref q37, .ref q38, .ref q39, .ref q40, .ref q41, .ref q42, .ref q43, .ref q44, .int 0, .int 0, .ref q45, .ref q46, .ref q47, .ref q48, .ref q49, .int 0, .ref q50, .int 0, .int 0, .int 0, .int 0, .ref q51, .int 0, .int 0]))] := hD
  have hK : va_K (dC, dI) cls [(cA25, .byte), (cA52, .byte), (cA53, .byte), (cA55, .long), (cA55, .long)] s := hK
  obtain rfl : r1006 = 0 := hw
  refine lv_istore hx hb d_La_law_323 hl (by decide) rfl (fun ls hl => ?_)
  have hl : lv_has ls 8 [(6, .int 0), (5, .int 1), (4, .int 0), (3, .ref q54), (2, .ref q27), (1, .ref q1), (0, .ref b)] := hl
  refine lv_aload_n hx hb d_La_law_325 rfl (lv_at hl 4 rfl) ?_
  have hhp : ∀ q, q < s.heap.size → H[q]? = s.heap[q]? := fun q hq => hS.2.1 q hq (fun h => absurd (hA2 q h) (by omega))
  have hPc := hP.sub (ws' := [(q27, .inr (12, [.ref q29, .ref q30, .ref q31, .int 0, .int 1, .int 0, .int 0, .int 0, .ref q32, .ref q33, .ref q34, .ref q35, .ref q36, .int 0, .int 0, .ref q37, .ref q38, .ref q39, .ref q40, .ref q41, .ref q42, .ref q43, .ref q44, .int 0, .int 0, .ref q45, .ref q46, .ref q47, .ref q48, .ref q49, .int 0, .ref q50, .int 0, .int 0, .int 0, .int 0, .ref q51, .int 0, .int 0]))]) [9] rfl
  have hDc := hD.sub (ws' := [(q27, .inr (12, [.ref q29, .ref q30, .ref q31, .int 0, .int 1, .int 0, .int 0, .int 0, .ref q32, .ref q33, .ref q34, .ref q35, .ref q36, .int 0, .int 0, .ref q37, .ref q38, .ref q39, .ref q40, .ref q41, .ref q42, .ref q43, .ref q44, .int 0, .int 0, .ref q45, .ref q46, .ref q47, .ref q48, .ref q49, .int 0, .ref q50, .int 0, .int 0, .int 0, .int 0, .ref q51, .int 0, .int 0]))]) [9] (by decide) rfl
  have hKc := hK.sub (tys' := []) [] rfl
  have hFc := va_free (wc := [(q27, .inr (12, [.ref q29, .ref q30, .ref q31, .int 0, .int 1, .int 0, .int 0, .int 0, .ref q32, .ref q33, .ref q34, .ref q35, .ref q36, .int 0, .int 0, .ref q37, .ref q38, .ref q39, .ref q40, .ref q41, .ref q42, .ref q43, .ref q44, .int 0, .int 0, .ref q45, .ref q46, .ref q47, .ref q48, .ref q49, .int 0, .ref q50, .int 0, .int 0, .int 0, .int 0, .ref q51, .int 0, .int 0]))]) hD hS hA [9] rfl
  have hkc : 220 + 0 ≤ 600002 := (Nat.le_of_ble_eq_true rfl)
  refine va_calli (va_runV (As := []) (rest := []) hfx (c_Mo_thrown_1 l dC dI q27 q29 q30 q31 q32 q33 q34 q35 q36 q37 q38 q39 q40 q41 q42 q43 q44 q45 q46 q47 q48 q49 q50 q51 0 0 H.size) ⟨(ux_cb 0 hT tw_1714 tw_1711 tw_13 rfl rfl (by decide +kernel) ⟨(Nat.le_of_ble_eq_true rfl), (Nat.le_of_ble_eq_true rfl)⟩), (ux_T_at hT tw_1712 rfl), (ux_T_at hT tw_1713 rfl)⟩ (ux_preV (r := (R_Mo, F_Mo, 39)) (ci := 12) (q0 := 0) [] hT hPc hKc hDc rfl rfl) rfl rfl hl.1 rfl (lv_room (Nat.le_of_ble_eq_true rfl)) d_La_law_326 ⟨(Nat.le_of_ble_eq_true rfl), (Nat.le_of_ble_eq_true rfl)⟩) hS (fun q _ h => hFc q h) hFc (fun r1007 u t H1 locs ht hvm hw hB hz1 hk1 hS => ?_)
  obtain ⟨hP1, hK1, hD1⟩ := hB
  rw [ht] at hP1
  have hK1 := va_K.moved hvm.symm hK1
  obtain ⟨hP, hD⟩ := va_join (wr := [(q3, .inl (cA25, 2000, .inl (fun _ => 0))), (q4, .inr (1, [.ref q12, .ref q13, .ref q14, .int 0, .int 0])), (q5, .inr (2, [.ref q4, .ref q15, .ref q16, .int 0, .int 0])), (q6, .inr (3, [.ref q17, .int 0])), (q8, .inr (6, [.ref q18, .ref q19, .ref q5, .int 0, .int 0])), (q9, .inr (10, [.ref q20, .ref q21, .ref q22, .ref q23, .ref q24, .int 0])), (q29, .inl (cA52, 2000, .inl (fun _ => 0))), (q30, .inl (cA53, 5718, .inl (fun _ => 0))), (q54, .inl (cA55, 1, .inr (.inl (fun _ => 0))))]) (w1 := [(q27, .inr (12, [.ref q29, .ref q30, .ref q31, .int 0, .int 1, .int 0, .int 0, .int 0, .ref q32, .ref q33, .ref q34, .ref q35, .ref q36, .int 0, .int 0, .ref q37, .ref q38, .ref q39, .ref q40, .ref q41, .ref q42, .ref q43, .ref q44, .int 0, .int 0, .ref q45, .ref q46, .ref q47, .ref q48, .ref q49, .int 0, .ref q50, .int 0, .int 0, .int 0, .int 0, .ref q51, .int 0, .int 0]))]) hP hD [9] [0, 1, 2, 3, 4, 5, 6, 7, 8] rfl rfl (by decide) (by decide) hk1 hFc hP1 hD1
  have hK := (hK.sub (tys' := [(cA25, .byte), (cA52, .byte), (cA53, .byte), (cA55, .long), (cA55, .long)]) [0, 1, 2, 3, 4] rfl).app hK1
  generalize H1 = H at hP hS ⊢
  have hP : va_P (dC, dI) cls [(q3, .inl (cA25, 2000, .inl (fun _ => 0))), (q4, .inr (1, [.ref q12, .ref q13, .ref q14, .int 0, .int 0])), (q5, .inr (2, [.ref q4, .ref q15, .ref q16, .int 0, .int 0])), (q6, .inr (3, [.ref q17, .int 0])), (q8, .inr (6, [.ref q18, .ref q19, .ref q5, .int 0, .int 0])), (q9, .inr (10, [.ref q20, .ref q21, .ref q22, .ref q23, .ref q24, .int 0])), (q29, .inl (cA52, 2000, .inl (fun _ => 0))), (q30, .inl (cA53, 5718, .inl (fun _ => 0))), (q54, .inl (cA55, 1, .inr (.inl (fun _ => 0)))), (q27, .inr (12, [.ref q29, .ref q30, .ref q31, .int 0, .int 1, .int 0, .int 0, .int 0, .ref q32, .ref q33, .ref q34, .ref q35, .ref q36, .int 0, .int 0, .ref q37, .ref q38, .ref q39, .ref q40, .ref q41, .ref q42, .ref q43, .ref q44, .int 0, .int 0, .ref q45, .ref q46, .ref q47, .ref q48, .ref q49, .int 0, .ref q50, .int 0, .int 0, .int 0, .int 0, .ref q51, .int 0, .int 0]))] H := hP
  have hD : va_D A [(q3, .inl (cA25, 2000, .inl (fun _ => 0))), (q4, .inr (1, [.ref q12, .ref q13, .ref q14, .int 0, .int 0])), (q5, .inr (2, [.ref q4, .ref q15, .ref q16, .int 0, .int 0])), (q6, .inr (3, [.ref q17, .int 0])), (q8, .inr (6, [.ref q18, .ref q19, .ref q5, .int 0, .int 0])), (q9, .inr (10, [.ref q20, .ref q21, .ref q22, .ref q23, .ref q24, .int 0])), (q29, .inl (cA52, 2000, .inl (fun _ => 0))), (q30, .inl (cA53, 5718, .inl (fun _ => 0))), (q54, .inl (cA55, 1, .inr (.inl (fun _ => 0)))), (q27, .inr (12, [.ref q29, .ref q30, .ref q31, .int 0, .int 1, .int 0, .int 0, .int 0, .ref q32, .ref q33, .ref q34, .ref q35, .ref q36, .int 0, .int 0, .ref q37, .ref q38, .ref q39, .ref q40, .ref q41, .ref q42, .ref q43, .ref q44, .int 0, .int 0, .ref q45, .ref q46, .ref q47, .ref q48, .ref q49, .int 0, .ref q50, .int 0, .int 0, .int 0, .int 0, .ref q51, .int 0, .int 0]))] := hD
  have hK : va_K (dC, dI) cls [(cA25, .byte), (cA52, .byte), (cA53, .byte), (cA55, .long), (cA55, .long)] s := hK
  obtain rfl : r1007 = 1 := hw
  refine lv_iload hx hb d_La_law_329 (lv_at hl 1 rfl) ?_
  refine lv_icmp_eq (tgt := 336) hx hb d_La_law_331 (by decide) (fun _ => ?_) (fun hc => absurd (by decide) hc)
  refine lv_iload hx hb d_La_law_336 (lv_at hl 1 rfl) ?_
  refine lv_if_ne (tgt := 353) hx hb d_La_law_338 (by decide) (fun _ => ?_) (fun hc => absurd hc (by decide))
  refine lv_goto hx hb d_La_law_353 (tgt := 751) (by decide) ?_
  exact law_end l hA2 ⟨hx, hb, hr, hml, hown, hts, hX, hbl, hlocks, hgv⟩ (Nat.le_of_ble_eq_true rfl) (Nat.le_of_ble_eq_true rfl) hS (lv_sub hl [6, 2] rfl)
set_option maxHeartbeats 4000000 in
set_option maxRecDepth 100000 in
theorem law_4 {p : Program} {e : Env} {s : State} {m : MethodId} {below : List Frame} {meth : Method} {c : Code} (l : Launch) (hfl : l.flags = flags0) {b : Nat} {xs : Nat → Int32} {A : Nat → Prop} (hA : ∀ q, s.heap.size ≤ q → A q) (hA2 : ∀ q, A q → s.heap.size ≤ q) (C0 : lw_At p s m meth c b 6 xs) (hT : ux_T s) (hH : ux_H s) (dC : Nat → ClassId) (dI : Nat → Nat → Nat) (q1 : Nat) (q3 : Nat) (q4 : Nat) (q5 : Nat) (q6 : Nat) (q7 : Nat) (q8 : Nat) (q9 : Nat) (q10 : Nat) (q11 : Nat) (q12 : Nat) (q13 : Nat) (q14 : Nat) (q15 : Nat) (q16 : Nat) (q17 : Nat) (q18 : Nat) (q19 : Nat) (q20 : Nat) (q21 : Nat) (q22 : Nat) (q23 : Nat) (q24 : Nat) (q27 : Nat) (q29 : Nat) (q30 : Nat) (q31 : Nat) (q32 : Nat) (q33 : Nat) (q34 : Nat) (q35 : Nat) (q36 : Nat) (q37 : Nat) (q38 : Nat) (q39 : Nat) (q40 : Nat) (q41 : Nat) (q42 : Nat) (q43 : Nat) (q44 : Nat) (q45 : Nat) (q46 : Nat) (q47 : Nat) (q48 : Nat) (q49 : Nat) (q50 : Nat) (q51 : Nat) (q54 : Nat) (cA25 : ClassId) (cA52 : ClassId) (cA53 : ClassId) (cA55 : ClassId) {H : Heap} {locs : List Loc} {ls : Array Slot} (hK : va_K (dC, dI) cls [(cA25, .byte), (cA52, .byte), (cA53, .byte), (cA55, .long)] s) (hP : va_P (dC, dI) cls [(q1, .inr (0, [.ref q3, .int 0, .int 0, .ref q4, .ref q5, .ref q6, .ref q7, .ref q8, .ref q9, .ref q10, .ref q11, .ref q3, .int 0, .int 0])), (q3, .inl (cA25, 2000, .inl (fun _ => 0))), (q4, .inr (1, [.ref q12, .ref q13, .ref q14, .int 0, .int 0])), (q5, .inr (2, [.ref q4, .ref q15, .ref q16, .int 0, .int 0])), (q6, .inr (3, [.ref q17, .int 0])), (q8, .inr (6, [.ref q18, .ref q19, .ref q5, .int 0, .int 0])), (q9, .inr (10, [.ref q20, .ref q21, .ref q22, .ref q23, .ref q24, .int 0])), (q27, .inr (12, [.ref q29, .ref q30, .ref q31, .int 0, .int 0, .int 0, .int 0, .int 0, .ref q32, .ref q33, .ref q34, .ref q35, .ref q36, .int 0, .int 0, .ref q37, .ref q38, .ref q39, .ref q40, .ref q41, .ref q42, .ref q43, .ref q44, .int 0, .int 0, .ref q45, .ref q46, .ref q47, .ref q48, .ref q49, .int 0, .ref q50, .int 0, .int 0, .int 0, .int 0, .ref q51, .int 0, .int 0])), (q29, .inl (cA52, 2000, .inl (fun _ => 0))), (q30, .inl (cA53, 5718, .inl (fun _ => 0))), (q54, .inl (cA55, 1, .inr (.inl (fun _ => 0))))] H) (hD : va_D A [(q1, .inr (0, [.ref q3, .int 0, .int 0, .ref q4, .ref q5, .ref q6, .ref q7, .ref q8, .ref q9, .ref q10, .ref q11, .ref q3, .int 0, .int 0])), (q3, .inl (cA25, 2000, .inl (fun _ => 0))), (q4, .inr (1, [.ref q12, .ref q13, .ref q14, .int 0, .int 0])), (q5, .inr (2, [.ref q4, .ref q15, .ref q16, .int 0, .int 0])), (q6, .inr (3, [.ref q17, .int 0])), (q8, .inr (6, [.ref q18, .ref q19, .ref q5, .int 0, .int 0])), (q9, .inr (10, [.ref q20, .ref q21, .ref q22, .ref q23, .ref q24, .int 0])), (q27, .inr (12, [.ref q29, .ref q30, .ref q31, .int 0, .int 0, .int 0, .int 0, .int 0, .ref q32, .ref q33, .ref q34, .ref q35, .ref q36, .int 0, .int 0, .ref q37, .ref q38, .ref q39, .ref q40, .ref q41, .ref q42, .ref q43, .ref q44, .int 0, .int 0, .ref q45, .ref q46, .ref q47, .ref q48, .ref q49, .int 0, .ref q50, .int 0, .int 0, .int 0, .int 0, .ref q51, .int 0, .int 0])), (q29, .inl (cA52, 2000, .inl (fun _ => 0))), (q30, .inl (cA53, 5718, .inl (fun _ => 0))), (q54, .inl (cA55, 1, .inr (.inl (fun _ => 0))))]) (hS : va_S A s.heap H locs) (hl : lv_has ls 8 [(4, .int 0), (3, .ref q54), (2, .ref q27), (1, .ref q1), (0, .ref b)]) : W p l e room_1 s m #[Value.ref b] below meth c H locs 219 543617 (lw_Z below #[Value.ref b] s) (F0 m 356 ls []) := by
  obtain ⟨hx, hb, hr, hml, hown, hts, hX, hbl, hlocks, hgv⟩ := C0
  have hown : s.vm.findClass "UnikernelHttpLaw" = some m.cls := hown
  have hbA : ¬ A b := fun h => absurd (hA2 b h) (by omega)
  have hfx : CallFix p m c b_La_law 8 s #[Value.ref b] [] "UnikernelHttpLaw" := ⟨hx, hb, hml, hown, fun _ h => by cases h⟩
  obtain ⟨v1, hv1⟩ : ∃ v, xs (1 : Int32).toNatClampNeg = v := ⟨_, rfl⟩
  obtain ⟨v2, hv2⟩ : ∃ v, xs (2 : Int32).toNatClampNeg = v := ⟨_, rfl⟩
  obtain ⟨v3, hv3⟩ : ∃ v, xs (3 : Int32).toNatClampNeg = v := ⟨_, rfl⟩
  obtain ⟨v4, hv4⟩ : ∃ v, xs (4 : Int32).toNatClampNeg = v := ⟨_, rfl⟩
  obtain ⟨v5, hv5⟩ : ∃ v, xs (5 : Int32).toNatClampNeg = v := ⟨_, rfl⟩
  refine lv_aload_n hx hb d_La_law_356 rfl (lv_at hl 3 rfl) ?_
  refine lv_aload_n hx hb d_La_law_357 rfl (lv_at hl 4 rfl) ?_
  refine lv_iload hx hb d_La_law_358 (lv_at hl 0 rfl) ?_
  refine lv_iconst (v := 1) hx hb d_La_law_360 (by decide) ?_
  refine lv_iadd hx hb d_La_law_361 ?_
  refine lv_topi (fun x1001 ex1001 => ?_)
  obtain rfl : x1001 = 1 := ex1001.trans (by decide)
  refine va_sld hx hb hX hbl hbA hS (i := 1) (show ¬ ((1 : Int32) < 0 ∨ 6 ≤ (1 : Int32).toNatClampNeg) by decide) d_La_law_362 ?_
  refine lv_topi (fun x1002 ex1002 => ?_)
  obtain rfl : v1 = x1002 := (ex1002.trans hv1).symm
  refine lv_aload_n hx hb d_La_law_363 rfl (lv_at hl 4 rfl) ?_
  refine lv_iload hx hb d_La_law_364 (lv_at hl 0 rfl) ?_
  refine lv_iconst (v := 2) hx hb d_La_law_366 (by decide) ?_
  refine lv_iadd hx hb d_La_law_367 ?_
  refine lv_topi (fun x1003 ex1003 => ?_)
  obtain rfl : x1003 = 2 := ex1003.trans (by decide)
  refine va_sld hx hb hX hbl hbA hS (i := 2) (show ¬ ((2 : Int32) < 0 ∨ 6 ≤ (2 : Int32).toNatClampNeg) by decide) d_La_law_368 ?_
  refine lv_topi (fun x1004 ex1004 => ?_)
  obtain rfl : v2 = x1004 := (ex1004.trans hv2).symm
  refine lv_aload_n hx hb d_La_law_369 rfl (lv_at hl 4 rfl) ?_
  refine lv_iload hx hb d_La_law_370 (lv_at hl 0 rfl) ?_
  refine lv_iconst (v := 3) hx hb d_La_law_372 (by decide) ?_
  refine lv_iadd hx hb d_La_law_373 ?_
  refine lv_topi (fun x1005 ex1005 => ?_)
  obtain rfl : x1005 = 3 := ex1005.trans (by decide)
  refine va_sld hx hb hX hbl hbA hS (i := 3) (show ¬ ((3 : Int32) < 0 ∨ 6 ≤ (3 : Int32).toNatClampNeg) by decide) d_La_law_374 ?_
  refine lv_topi (fun x1006 ex1006 => ?_)
  obtain rfl : v3 = x1006 := (ex1006.trans hv3).symm
  refine lv_aload_n hx hb d_La_law_375 rfl (lv_at hl 1 rfl) ?_
  have hhp : ∀ q, q < s.heap.size → H[q]? = s.heap[q]? := fun q hq => hS.2.1 q hq (fun h => absurd (hA2 q h) (by omega))
  have hPc := hP.sub (ws' := [(q1, .inr (0, [.ref q3, .int 0, .int 0, .ref q4, .ref q5, .ref q6, .ref q7, .ref q8, .ref q9, .ref q10, .ref q11, .ref q3, .int 0, .int 0])), (q9, .inr (10, [.ref q20, .ref q21, .ref q22, .ref q23, .ref q24, .int 0])), (q54, .inl (cA55, 1, .inr (.inl (fun _ => 0))))]) [0, 6, 10] rfl
  have hDc := hD.sub (ws' := [(q1, .inr (0, [.ref q3, .int 0, .int 0, .ref q4, .ref q5, .ref q6, .ref q7, .ref q8, .ref q9, .ref q10, .ref q11, .ref q3, .int 0, .int 0])), (q9, .inr (10, [.ref q20, .ref q21, .ref q22, .ref q23, .ref q24, .int 0])), (q54, .inl (cA55, 1, .inr (.inl (fun _ => 0))))]) [0, 6, 10] (by decide) rfl
  have hKc := hK.sub (tys' := [(cA55, .long)]) [3] rfl
  have hFc := va_free (wc := [(q1, .inr (0, [.ref q3, .int 0, .int 0, .ref q4, .ref q5, .ref q6, .ref q7, .ref q8, .ref q9, .ref q10, .ref q11, .ref q3, .int 0, .int 0])), (q9, .inr (10, [.ref q20, .ref q21, .ref q22, .ref q23, .ref q24, .int 0])), (q54, .inl (cA55, 1, .inr (.inl (fun _ => 0))))]) hD hS hA [0, 6, 10] rfl
  have hkc : 219 + 1 ≤ 600002 := (Nat.le_of_ble_eq_true rfl)
  refine va_calli (ux_runSW (n := 5) (As := [.ref q1, .int v1, .int v2, .int v3, .ref q54]) (rest := []) hfx (c_La_damage l hfl dC dI q1 q54 q3 q4 q5 q6 q7 q8 q9 q10 q11 q20 q21 q22 q23 q24 cA55 v1 v2 v3 H.size) hT tw_1359 tw_1357 tw_0 tw_1358 rfl rfl (by decide +kernel) ⟨(Nat.le_of_ble_eq_true rfl), (Nat.le_of_ble_eq_true rfl)⟩ (ux_preH [.ref q1, .int v1, .int v2, .int v3, .ref q54] hT hH hhp hPc hKc hDc) rfl rfl hl.1 rfl (lv_room (Nat.le_of_ble_eq_true rfl)) d_La_law_376 ⟨(Nat.le_of_ble_eq_true rfl), (Nat.le_of_ble_eq_true rfl)⟩) hS (fun q _ h => hFc q h) hFc (fun r1007 u t H1 locs ht hvm hw hB hz1 hk1 hS => ?_)
  obtain ⟨hP1, hK1, hD1⟩ := hB
  rw [ht] at hP1
  have hK1 := va_K.moved hvm.symm hK1
  obtain ⟨hP, hD⟩ := va_join (wr := [(q3, .inl (cA25, 2000, .inl (fun _ => 0))), (q4, .inr (1, [.ref q12, .ref q13, .ref q14, .int 0, .int 0])), (q5, .inr (2, [.ref q4, .ref q15, .ref q16, .int 0, .int 0])), (q6, .inr (3, [.ref q17, .int 0])), (q8, .inr (6, [.ref q18, .ref q19, .ref q5, .int 0, .int 0])), (q27, .inr (12, [.ref q29, .ref q30, .ref q31, .int 0, .int 0, .int 0, .int 0, .int 0, .ref q32, .ref q33, .ref q34, .ref q35, .ref q36, .int 0, .int 0, .ref q37, .ref q38, .ref q39, .ref q40, .ref q41, .ref q42, .ref q43, .ref q44, .int 0, .int 0, .ref q45, .ref q46, .ref q47, .ref q48, .ref q49, .int 0, .ref q50, .int 0, .int 0, .int 0, .int 0, .ref q51, .int 0, .int 0])), (q29, .inl (cA52, 2000, .inl (fun _ => 0))), (q30, .inl (cA53, 5718, .inl (fun _ => 0)))]) (w1 := [(q54, .inl (cA55, 1, .inr (.inl (fun _ => 0))))]) hP hD [0, 6, 10] [1, 2, 3, 4, 5, 7, 8, 9] rfl rfl (by decide) (by decide) hk1 hFc hP1 hD1
  have hK := (hK.sub (tys' := [(cA25, .byte), (cA52, .byte), (cA53, .byte), (cA55, .long)]) [0, 1, 2, 3] rfl).app hK1
  generalize H1 = H at hP hS ⊢
  have hP : va_P (dC, dI) cls [(q3, .inl (cA25, 2000, .inl (fun _ => 0))), (q4, .inr (1, [.ref q12, .ref q13, .ref q14, .int 0, .int 0])), (q5, .inr (2, [.ref q4, .ref q15, .ref q16, .int 0, .int 0])), (q6, .inr (3, [.ref q17, .int 0])), (q8, .inr (6, [.ref q18, .ref q19, .ref q5, .int 0, .int 0])), (q27, .inr (12, [.ref q29, .ref q30, .ref q31, .int 0, .int 0, .int 0, .int 0, .int 0, .ref q32, .ref q33, .ref q34, .ref q35, .ref q36, .int 0, .int 0, .ref q37, .ref q38, .ref q39, .ref q40, .ref q41, .ref q42, .ref q43, .ref q44, .int 0, .int 0, .ref q45, .ref q46, .ref q47, .ref q48, .ref q49, .int 0, .ref q50, .int 0, .int 0, .int 0, .int 0, .ref q51, .int 0, .int 0])), (q29, .inl (cA52, 2000, .inl (fun _ => 0))), (q30, .inl (cA53, 5718, .inl (fun _ => 0))), (q54, .inl (cA55, 1, .inr (.inl (fun _ => 0))))] H := hP
  have hD : va_D A [(q3, .inl (cA25, 2000, .inl (fun _ => 0))), (q4, .inr (1, [.ref q12, .ref q13, .ref q14, .int 0, .int 0])), (q5, .inr (2, [.ref q4, .ref q15, .ref q16, .int 0, .int 0])), (q6, .inr (3, [.ref q17, .int 0])), (q8, .inr (6, [.ref q18, .ref q19, .ref q5, .int 0, .int 0])), (q27, .inr (12, [.ref q29, .ref q30, .ref q31, .int 0, .int 0, .int 0, .int 0, .int 0, .ref q32, .ref q33, .ref q34, .ref q35, .ref q36, .int 0, .int 0, .ref q37, .ref q38, .ref q39, .ref q40, .ref q41, .ref q42, .ref q43, .ref q44, .int 0, .int 0, .ref q45, .ref q46, .ref q47, .ref q48, .ref q49, .int 0, .ref q50, .int 0, .int 0, .int 0, .int 0, .ref q51, .int 0, .int 0])), (q29, .inl (cA52, 2000, .inl (fun _ => 0))), (q30, .inl (cA53, 5718, .inl (fun _ => 0))), (q54, .inl (cA55, 1, .inr (.inl (fun _ => 0))))] := hD
  have hK : va_K (dC, dI) cls [(cA25, .byte), (cA52, .byte), (cA53, .byte), (cA55, .long), (cA55, .long)] s := hK
  obtain rfl : r1007 = 1 := hw
  refine lv_istore hx hb d_La_law_379 hl (by decide) rfl (fun ls hl => ?_)
  have hl : lv_has ls 8 [(5, .int 1), (4, .int 0), (3, .ref q54), (2, .ref q27), (1, .ref q1), (0, .ref b)] := hl
  refine lv_aload_n hx hb d_La_law_381 rfl (lv_at hl 3 rfl) ?_
  refine lv_aload_n hx hb d_La_law_382 rfl (lv_at hl 5 rfl) ?_
  refine lv_iload hx hb d_La_law_383 (lv_at hl 1 rfl) ?_
  refine lv_iconst (v := 1) hx hb d_La_law_385 (by decide) ?_
  refine lv_iadd hx hb d_La_law_386 ?_
  refine lv_topi (fun x1008 ex1008 => ?_)
  obtain rfl : x1008 = 1 := ex1008.trans (by decide)
  refine va_sld hx hb hX hbl hbA hS (i := 1) (show ¬ ((1 : Int32) < 0 ∨ 6 ≤ (1 : Int32).toNatClampNeg) by decide) d_La_law_387 ?_
  refine lv_topi (fun x1009 ex1009 => ?_)
  obtain rfl : v1 = x1009 := (ex1009.trans hv1).symm
  refine lv_aload_n hx hb d_La_law_388 rfl (lv_at hl 5 rfl) ?_
  refine lv_iload hx hb d_La_law_389 (lv_at hl 1 rfl) ?_
  refine lv_iconst (v := 2) hx hb d_La_law_391 (by decide) ?_
  refine lv_iadd hx hb d_La_law_392 ?_
  refine lv_topi (fun x1010 ex1010 => ?_)
  obtain rfl : x1010 = 2 := ex1010.trans (by decide)
  refine va_sld hx hb hX hbl hbA hS (i := 2) (show ¬ ((2 : Int32) < 0 ∨ 6 ≤ (2 : Int32).toNatClampNeg) by decide) d_La_law_393 ?_
  refine lv_topi (fun x1011 ex1011 => ?_)
  obtain rfl : v2 = x1011 := (ex1011.trans hv2).symm
  refine lv_aload_n hx hb d_La_law_394 rfl (lv_at hl 5 rfl) ?_
  refine lv_iload hx hb d_La_law_395 (lv_at hl 1 rfl) ?_
  refine lv_iconst (v := 3) hx hb d_La_law_397 (by decide) ?_
  refine lv_iadd hx hb d_La_law_398 ?_
  refine lv_topi (fun x1012 ex1012 => ?_)
  obtain rfl : x1012 = 3 := ex1012.trans (by decide)
  refine va_sld hx hb hX hbl hbA hS (i := 3) (show ¬ ((3 : Int32) < 0 ∨ 6 ≤ (3 : Int32).toNatClampNeg) by decide) d_La_law_399 ?_
  refine lv_topi (fun x1013 ex1013 => ?_)
  obtain rfl : v3 = x1013 := (ex1013.trans hv3).symm
  have hhp : ∀ q, q < s.heap.size → H[q]? = s.heap[q]? := fun q hq => hS.2.1 q hq (fun h => absurd (hA2 q h) (by omega))
  have hPc := hP.sub (ws' := [(q27, .inr (12, [.ref q29, .ref q30, .ref q31, .int 0, .int 0, .int 0, .int 0, .int 0, .ref q32, .ref q33, .ref q34, .ref q35, .ref q36, .int 0, .int 0, .ref q37, .ref q38, .ref q39, .ref q40, .ref q41, .ref q42, .ref q43, .ref q44, .int 0, .int 0, .ref q45, .ref q46, .ref q47, .ref q48, .ref q49, .int 0, .ref q50, .int 0, .int 0, .int 0, .int 0, .ref q51, .int 0, .int 0]))]) [5] rfl
  have hDc := hD.sub (ws' := [(q27, .inr (12, [.ref q29, .ref q30, .ref q31, .int 0, .int 0, .int 0, .int 0, .int 0, .ref q32, .ref q33, .ref q34, .ref q35, .ref q36, .int 0, .int 0, .ref q37, .ref q38, .ref q39, .ref q40, .ref q41, .ref q42, .ref q43, .ref q44, .int 0, .int 0, .ref q45, .ref q46, .ref q47, .ref q48, .ref q49, .int 0, .ref q50, .int 0, .int 0, .int 0, .int 0, .ref q51, .int 0, .int 0]))]) [5] (by decide) rfl
  have hKc := hK.sub (tys' := []) [] rfl
  have hFc := va_free (wc := [(q27, .inr (12, [.ref q29, .ref q30, .ref q31, .int 0, .int 0, .int 0, .int 0, .int 0, .ref q32, .ref q33, .ref q34, .ref q35, .ref q36, .int 0, .int 0, .ref q37, .ref q38, .ref q39, .ref q40, .ref q41, .ref q42, .ref q43, .ref q44, .int 0, .int 0, .ref q45, .ref q46, .ref q47, .ref q48, .ref q49, .int 0, .ref q50, .int 0, .int 0, .int 0, .int 0, .ref q51, .int 0, .int 0]))]) hD hS hA [5] rfl
  have hkc : 220 + 0 ≤ 600002 := (Nat.le_of_ble_eq_true rfl)
  refine va_calli (va_runV (As := [.int v1, .int v2, .int v3]) (rest := []) hfx (c_Mo_damage l dC dI q27 q29 q30 q31 q32 q33 q34 q35 q36 q37 q38 q39 q40 q41 q42 q43 q44 q45 q46 q47 q48 q49 q50 q51 v1 v2 v3 H.size) ⟨(ux_cb 3 hT tw_1948 tw_1945 tw_13 rfl rfl (by decide +kernel) ⟨(Nat.le_of_ble_eq_true rfl), (Nat.le_of_ble_eq_true rfl)⟩), (ux_T_at hT tw_1946 rfl), (ux_T_at hT tw_1947 rfl)⟩ (ux_preV (r := (R_Mo, F_Mo, 39)) (ci := 12) (q0 := 0) [.int v1, .int v2, .int v3] hT hPc hKc hDc rfl rfl) rfl rfl hl.1 rfl (lv_room (Nat.le_of_ble_eq_true rfl)) d_La_law_400 ⟨(Nat.le_of_ble_eq_true rfl), (Nat.le_of_ble_eq_true rfl)⟩) hS (fun q _ h => hFc q h) hFc (fun r1014 u t H1 locs ht hvm hw hB hz1 hk1 hS => ?_)
  obtain ⟨hP1, hK1, hD1⟩ := hB
  rw [ht] at hP1
  have hK1 := va_K.moved hvm.symm hK1
  obtain ⟨hP, hD⟩ := va_join (wr := [(q3, .inl (cA25, 2000, .inl (fun _ => 0))), (q4, .inr (1, [.ref q12, .ref q13, .ref q14, .int 0, .int 0])), (q5, .inr (2, [.ref q4, .ref q15, .ref q16, .int 0, .int 0])), (q6, .inr (3, [.ref q17, .int 0])), (q8, .inr (6, [.ref q18, .ref q19, .ref q5, .int 0, .int 0])), (q29, .inl (cA52, 2000, .inl (fun _ => 0))), (q30, .inl (cA53, 5718, .inl (fun _ => 0))), (q54, .inl (cA55, 1, .inr (.inl (fun _ => 0))))]) (w1 := [(q27, .inr (12, [.ref q29, .ref q30, .ref q31, .int 0, .int 1, .int 0, .int 0, .int 0, .ref q32, .ref q33, .ref q34, .ref q35, .ref q36, .int 0, .int 0, .ref q37, .ref q38, .ref q39, .ref q40, .ref q41, .ref q42, .ref q43, .ref q44, .int 0, .int 0, .ref q45, .ref q46, .ref q47, .ref q48, .ref q49, .int 0, .ref q50, .int 0, .int 0, .int 0, .int 0, .ref q51, .int 0, .int 0]))]) hP hD [5] [0, 1, 2, 3, 4, 6, 7, 8] rfl rfl (by decide) (by decide) hk1 hFc hP1 hD1
  have hK := (hK.sub (tys' := [(cA25, .byte), (cA52, .byte), (cA53, .byte), (cA55, .long), (cA55, .long)]) [0, 1, 2, 3, 4] rfl).app hK1
  generalize H1 = H at hP hS ⊢
  have hP : va_P (dC, dI) cls [(q3, .inl (cA25, 2000, .inl (fun _ => 0))), (q4, .inr (1, [.ref q12, .ref q13, .ref q14, .int 0, .int 0])), (q5, .inr (2, [.ref q4, .ref q15, .ref q16, .int 0, .int 0])), (q6, .inr (3, [.ref q17, .int 0])), (q8, .inr (6, [.ref q18, .ref q19, .ref q5, .int 0, .int 0])), (q29, .inl (cA52, 2000, .inl (fun _ => 0))), (q30, .inl (cA53, 5718, .inl (fun _ => 0))), (q54, .inl (cA55, 1, .inr (.inl (fun _ => 0)))), (q27, .inr (12, [.ref q29, .ref q30, .ref q31, .int 0, .int 1, .int 0, .int 0, .int 0, .ref q32, .ref q33, .ref q34, .ref q35, .ref q36, .int 0, .int 0, .ref q37, .ref q38, .ref q39, .ref q40, .ref q41, .ref q42, .ref q43, .ref q44, .int 0, .int 0, .ref q45, .ref q46, .ref q47, .ref q48, .ref q49, .int 0, .ref q50, .int 0, .int 0, .int 0, .int 0, .ref q51, .int 0, .int 0]))] H := hP
  have hD : va_D A [(q3, .inl (cA25, 2000, .inl (fun _ => 0))), (q4, .inr (1, [.ref q12, .ref q13, .ref q14, .int 0, .int 0])), (q5, .inr (2, [.ref q4, .ref q15, .ref q16, .int 0, .int 0])), (q6, .inr (3, [.ref q17, .int 0])), (q8, .inr (6, [.ref q18, .ref q19, .ref q5, .int 0, .int 0])), (q29, .inl (cA52, 2000, .inl (fun _ => 0))), (q30, .inl (cA53, 5718, .inl (fun _ => 0))), (q54, .inl (cA55, 1, .inr (.inl (fun _ => 0)))), (q27, .inr (12, [.ref q29, .ref q30, .ref q31, .int 0, .int 1, .int 0, .int 0, .int 0, .ref q32, .ref q33, .ref q34, .ref q35, .ref q36, .int 0, .int 0, .ref q37, .ref q38, .ref q39, .ref q40, .ref q41, .ref q42, .ref q43, .ref q44, .int 0, .int 0, .ref q45, .ref q46, .ref q47, .ref q48, .ref q49, .int 0, .ref q50, .int 0, .int 0, .int 0, .int 0, .ref q51, .int 0, .int 0]))] := hD
  have hK : va_K (dC, dI) cls [(cA25, .byte), (cA52, .byte), (cA53, .byte), (cA55, .long), (cA55, .long)] s := hK
  obtain rfl : r1014 = 0 := hw
  refine lv_istore hx hb d_La_law_403 hl (by decide) rfl (fun ls hl => ?_)
  have hl : lv_has ls 8 [(6, .int 0), (5, .int 1), (4, .int 0), (3, .ref q54), (2, .ref q27), (1, .ref q1), (0, .ref b)] := hl
  refine lv_aload_n hx hb d_La_law_405 rfl (lv_at hl 4 rfl) ?_
  have hhp : ∀ q, q < s.heap.size → H[q]? = s.heap[q]? := fun q hq => hS.2.1 q hq (fun h => absurd (hA2 q h) (by omega))
  have hPc := hP.sub (ws' := [(q27, .inr (12, [.ref q29, .ref q30, .ref q31, .int 0, .int 1, .int 0, .int 0, .int 0, .ref q32, .ref q33, .ref q34, .ref q35, .ref q36, .int 0, .int 0, .ref q37, .ref q38, .ref q39, .ref q40, .ref q41, .ref q42, .ref q43, .ref q44, .int 0, .int 0, .ref q45, .ref q46, .ref q47, .ref q48, .ref q49, .int 0, .ref q50, .int 0, .int 0, .int 0, .int 0, .ref q51, .int 0, .int 0]))]) [8] rfl
  have hDc := hD.sub (ws' := [(q27, .inr (12, [.ref q29, .ref q30, .ref q31, .int 0, .int 1, .int 0, .int 0, .int 0, .ref q32, .ref q33, .ref q34, .ref q35, .ref q36, .int 0, .int 0, .ref q37, .ref q38, .ref q39, .ref q40, .ref q41, .ref q42, .ref q43, .ref q44, .int 0, .int 0, .ref q45, .ref q46, .ref q47, .ref q48, .ref q49, .int 0, .ref q50, .int 0, .int 0, .int 0, .int 0, .ref q51, .int 0, .int 0]))]) [8] (by decide) rfl
  have hKc := hK.sub (tys' := []) [] rfl
  have hFc := va_free (wc := [(q27, .inr (12, [.ref q29, .ref q30, .ref q31, .int 0, .int 1, .int 0, .int 0, .int 0, .ref q32, .ref q33, .ref q34, .ref q35, .ref q36, .int 0, .int 0, .ref q37, .ref q38, .ref q39, .ref q40, .ref q41, .ref q42, .ref q43, .ref q44, .int 0, .int 0, .ref q45, .ref q46, .ref q47, .ref q48, .ref q49, .int 0, .ref q50, .int 0, .int 0, .int 0, .int 0, .ref q51, .int 0, .int 0]))]) hD hS hA [8] rfl
  have hkc : 220 + 0 ≤ 600002 := (Nat.le_of_ble_eq_true rfl)
  refine va_calli (va_runV (As := []) (rest := []) hfx (c_Mo_thrown_1 l dC dI q27 q29 q30 q31 q32 q33 q34 q35 q36 q37 q38 q39 q40 q41 q42 q43 q44 q45 q46 q47 q48 q49 q50 q51 0 0 H.size) ⟨(ux_cb 0 hT tw_1714 tw_1711 tw_13 rfl rfl (by decide +kernel) ⟨(Nat.le_of_ble_eq_true rfl), (Nat.le_of_ble_eq_true rfl)⟩), (ux_T_at hT tw_1712 rfl), (ux_T_at hT tw_1713 rfl)⟩ (ux_preV (r := (R_Mo, F_Mo, 39)) (ci := 12) (q0 := 0) [] hT hPc hKc hDc rfl rfl) rfl rfl hl.1 rfl (lv_room (Nat.le_of_ble_eq_true rfl)) d_La_law_406 ⟨(Nat.le_of_ble_eq_true rfl), (Nat.le_of_ble_eq_true rfl)⟩) hS (fun q _ h => hFc q h) hFc (fun r1015 u t H1 locs ht hvm hw hB hz1 hk1 hS => ?_)
  obtain ⟨hP1, hK1, hD1⟩ := hB
  rw [ht] at hP1
  have hK1 := va_K.moved hvm.symm hK1
  obtain ⟨hP, hD⟩ := va_join (wr := [(q3, .inl (cA25, 2000, .inl (fun _ => 0))), (q4, .inr (1, [.ref q12, .ref q13, .ref q14, .int 0, .int 0])), (q5, .inr (2, [.ref q4, .ref q15, .ref q16, .int 0, .int 0])), (q6, .inr (3, [.ref q17, .int 0])), (q8, .inr (6, [.ref q18, .ref q19, .ref q5, .int 0, .int 0])), (q29, .inl (cA52, 2000, .inl (fun _ => 0))), (q30, .inl (cA53, 5718, .inl (fun _ => 0))), (q54, .inl (cA55, 1, .inr (.inl (fun _ => 0))))]) (w1 := [(q27, .inr (12, [.ref q29, .ref q30, .ref q31, .int 0, .int 1, .int 0, .int 0, .int 0, .ref q32, .ref q33, .ref q34, .ref q35, .ref q36, .int 0, .int 0, .ref q37, .ref q38, .ref q39, .ref q40, .ref q41, .ref q42, .ref q43, .ref q44, .int 0, .int 0, .ref q45, .ref q46, .ref q47, .ref q48, .ref q49, .int 0, .ref q50, .int 0, .int 0, .int 0, .int 0, .ref q51, .int 0, .int 0]))]) hP hD [8] [0, 1, 2, 3, 4, 5, 6, 7] rfl rfl (by decide) (by decide) hk1 hFc hP1 hD1
  have hK := (hK.sub (tys' := [(cA25, .byte), (cA52, .byte), (cA53, .byte), (cA55, .long), (cA55, .long)]) [0, 1, 2, 3, 4] rfl).app hK1
  generalize H1 = H at hP hS ⊢
  have hP : va_P (dC, dI) cls [(q3, .inl (cA25, 2000, .inl (fun _ => 0))), (q4, .inr (1, [.ref q12, .ref q13, .ref q14, .int 0, .int 0])), (q5, .inr (2, [.ref q4, .ref q15, .ref q16, .int 0, .int 0])), (q6, .inr (3, [.ref q17, .int 0])), (q8, .inr (6, [.ref q18, .ref q19, .ref q5, .int 0, .int 0])), (q29, .inl (cA52, 2000, .inl (fun _ => 0))), (q30, .inl (cA53, 5718, .inl (fun _ => 0))), (q54, .inl (cA55, 1, .inr (.inl (fun _ => 0)))), (q27, .inr (12, [.ref q29, .ref q30, .ref q31, .int 0, .int 1, .int 0, .int 0, .int 0, .ref q32, .ref q33, .ref q34, .ref q35, .ref q36, .int 0, .int 0, .ref q37, .ref q38, .ref q39, .ref q40, .ref q41, .ref q42, .ref q43, .ref q44, .int 0, .int 0, .ref q45, .ref q46, .ref q47, .ref q48, .ref q49, .int 0, .ref q50, .int 0, .int 0, .int 0, .int 0, .ref q51, .int 0, .int 0]))] H := hP
  have hD : va_D A [(q3, .inl (cA25, 2000, .inl (fun _ => 0))), (q4, .inr (1, [.ref q12, .ref q13, .ref q14, .int 0, .int 0])), (q5, .inr (2, [.ref q4, .ref q15, .ref q16, .int 0, .int 0])), (q6, .inr (3, [.ref q17, .int 0])), (q8, .inr (6, [.ref q18, .ref q19, .ref q5, .int 0, .int 0])), (q29, .inl (cA52, 2000, .inl (fun _ => 0))), (q30, .inl (cA53, 5718, .inl (fun _ => 0))), (q54, .inl (cA55, 1, .inr (.inl (fun _ => 0)))), (q27, .inr (12, [.ref q29, .ref q30, .ref q31, .int 0, .int 1, .int 0, .int 0, .int 0, .ref q32, .ref q33, .ref q34, .ref q35, .ref q36, .int 0, .int 0, .ref q37, .ref q38, .ref q39, .ref q40, .ref q41, .ref q42, .ref q43, .ref q44, .int 0, .int 0, .ref q45, .ref q46, .ref q47, .ref q48, .ref q49, .int 0, .ref q50, .int 0, .int 0, .int 0, .int 0, .ref q51, .int 0, .int 0]))] := hD
  have hK : va_K (dC, dI) cls [(cA25, .byte), (cA52, .byte), (cA53, .byte), (cA55, .long), (cA55, .long)] s := hK
  obtain rfl : r1015 = 1 := hw
  refine lv_iload hx hb d_La_law_409 (lv_at hl 1 rfl) ?_
  refine lv_icmp_eq (tgt := 416) hx hb d_La_law_411 (by decide) (fun _ => ?_) (fun hc => absurd (by decide) hc)
  refine lv_iload hx hb d_La_law_416 (lv_at hl 1 rfl) ?_
  refine lv_if_ne (tgt := 433) hx hb d_La_law_418 (by decide) (fun _ => ?_) (fun hc => absurd hc (by decide))
  refine lv_goto hx hb d_La_law_433 (tgt := 751) (by decide) ?_
  exact law_end l hA2 ⟨hx, hb, hr, hml, hown, hts, hX, hbl, hlocks, hgv⟩ (Nat.le_of_ble_eq_true rfl) (Nat.le_of_ble_eq_true rfl) hS (lv_sub hl [6, 2] rfl)
