/-! Which words the rows behind use, by their places. -/
theorem tw_1 : (Jvm.Cond.initialized "UnikernelHttp") ∈ lw_tbl := ux_in 1 ux_t1 rfl
theorem tw_15 : (Jvm.Cond.initialized "java/lang/Throwable") ∈ lw_tbl := ux_in 15 ux_t1 rfl
theorem tw_19 : (Jvm.Cond.initialized "java/lang/IllegalArgumentException") ∈ lw_tbl := ux_in 19 ux_t1 rfl
theorem tw_21 : (Jvm.Cond.initialized "java/lang/Math") ∈ lw_tbl := ux_in 21 ux_t1 rfl
theorem tw_31 : (Jvm.Cond.initialized "java/lang/IndexOutOfBoundsException") ∈ lw_tbl := ux_in 31 ux_t1 rfl
theorem tw_33 : (Jvm.Cond.initialized "java/util/NoSuchElementException") ∈ lw_tbl := ux_in 33 ux_t1 rfl
theorem tw_53 : (Jvm.Cond.fieldLinkNest "UnikernelHttp" (189 : Nat) "UnikernelHttp$Neighbours" "held" "I" "UnikernelHttp") ∈ lw_tbl := ux_in 53 ux_t1 rfl
theorem tw_81 : (Jvm.Cond.fieldLinkNest "UnikernelHttp" (90 : Nat) "UnikernelHttp$Wire" "sent" "I" "UnikernelHttp") ∈ lw_tbl := ux_in 81 ux_t1 rfl
theorem tw_83 : (Jvm.Cond.fieldLinkNest "UnikernelHttp" (191 : Nat) "UnikernelHttp$Wire" "made" "I" "UnikernelHttp") ∈ lw_tbl := ux_in 83 ux_t1 rfl
theorem tw_144 : (Jvm.Cond.fieldLinkNest "UnikernelHttp" (190 : Nat) "UnikernelHttp$Gatherings" "held" "I" "UnikernelHttp") ∈ lw_tbl := ux_in 144 ux_t1 rfl
theorem tw_374 : (Jvm.Cond.fieldLinkNest "UnikernelHttp" (185 : Nat) "UnikernelHttp$Tcp" "held" "I" "UnikernelHttp") ∈ lw_tbl := ux_in 134 ux_t2 rfl
theorem tw_376 : (Jvm.Cond.fieldLinkNest "UnikernelHttp" (186 : Nat) "UnikernelHttp$Tcp" "made" "I" "UnikernelHttp") ∈ lw_tbl := ux_in 136 ux_t2 rfl
theorem tw_406 : (Jvm.Cond.fieldLinkNest "UnikernelHttp" (125 : Nat) "UnikernelHttp$Store" "held" "I" "UnikernelHttp") ∈ lw_tbl := ux_in 166 ux_t2 rfl
theorem tw_444 : (Jvm.Cond.fieldLink "UnikernelHttp" (76 : Nat) "UnikernelHttp" "rowLength" "I") ∈ lw_tbl := ux_in 204 ux_t2 rfl
theorem tw_445 : (Jvm.Cond.fieldLink "UnikernelHttp" (143 : Nat) "UnikernelHttp" "time" "I") ∈ lw_tbl := ux_in 205 ux_t2 rfl
theorem tw_497 : (Jvm.Cond.declares ({ cls := "java/lang/RuntimeException", name := "<init>", desc := "()V" } : Jvm.MethodName)) ∈ lw_tbl := ux_in 17 ux_t3 rfl
theorem tw_499 : (Jvm.Cond.declares ({ cls := "java/lang/Exception", name := "<init>", desc := "()V" } : Jvm.MethodName)) ∈ lw_tbl := ux_in 19 ux_t3 rfl
theorem tw_501 : (Jvm.Cond.declares ({ cls := "java/lang/Throwable", name := "<init>", desc := "()V" } : Jvm.MethodName)) ∈ lw_tbl := ux_in 21 ux_t3 rfl
theorem tw_506 : (Jvm.Cond.lays "java/lang/Throwable" "java/lang/Throwable" "cause" "Ljava/lang/Throwable;") ∈ lw_tbl := ux_in 26 ux_t3 rfl
theorem tw_508 : (Jvm.Cond.lays "java/lang/Throwable" "java/lang/Throwable" "stackTrace" "[Ljava/lang/StackTraceElement;") ∈ lw_tbl := ux_in 28 ux_t3 rfl
theorem tw_510 : (Jvm.Cond.lays "java/lang/Throwable" "java/lang/Throwable" "suppressedExceptions" "Ljava/util/List;") ∈ lw_tbl := ux_in 30 ux_t3 rfl
theorem tw_512 : (Jvm.Cond.lays "java/lang/Throwable" "java/lang/Throwable" "detailMessage" "Ljava/lang/String;") ∈ lw_tbl := ux_in 32 ux_t3 rfl
theorem tw_514 : (Jvm.Cond.lays "java/lang/Throwable" "java/lang/Throwable" "backtrace" "Ljava/lang/Object;") ∈ lw_tbl := ux_in 34 ux_t3 rfl
theorem tw_515 : (Jvm.Cond.fieldLink "java/lang/Throwable" (198 : Nat) "java/lang/Throwable" "backtrace" "Ljava/lang/Object;") ∈ lw_tbl := ux_in 35 ux_t3 rfl
theorem tw_516 : (Jvm.Cond.superclass "java/lang/Throwable" "java/lang/Object") ∈ lw_tbl := ux_in 36 ux_t3 rfl
theorem tw_517 : (Jvm.Cond.instanceMethod ({ cls := "java/lang/Throwable", name := "<init>", desc := "()V" } : Jvm.MethodName)) ∈ lw_tbl := ux_in 37 ux_t3 rfl
theorem tw_518 : (Jvm.Cond.code ({ cls := "java/lang/Throwable", name := "<init>", desc := "()V" } : Jvm.MethodName) prog_31_method_1_code (1 : Nat) (Option.none : Option Jvm.ClassFile.FieldType)) ∈ lw_tbl := ux_in 38 ux_t3 rfl
theorem tw_519 : (Jvm.Cond.methodLink "java/lang/Throwable" (1 : Nat) ({ cls := "java/lang/Object", name := "<init>", desc := "()V" } : Jvm.MethodName)) ∈ lw_tbl := ux_in 39 ux_t3 rfl
theorem tw_520 : (Jvm.Cond.fieldLink "java/lang/Throwable" (13 : Nat) "java/lang/Throwable" "UNASSIGNED_STACK" "[Ljava/lang/StackTraceElement;") ∈ lw_tbl := ux_in 40 ux_t3 rfl
theorem tw_522 : (Jvm.Cond.fieldLink "java/lang/Throwable" (20 : Nat) "java/lang/Throwable" "SUPPRESSED_SENTINEL" "Ljava/util/List;") ∈ lw_tbl := ux_in 42 ux_t3 rfl
theorem tw_524 : (Jvm.Cond.methodLink "java/lang/Throwable" (27 : Nat) ({ cls := "java/lang/Throwable", name := "fillInStackTrace", desc := "()Ljava/lang/Throwable;" } : Jvm.MethodName)) ∈ lw_tbl := ux_in 44 ux_t3 rfl
theorem tw_525 : (Jvm.Cond.instanceMethod ({ cls := "java/lang/Throwable", name := "fillInStackTrace", desc := "()Ljava/lang/Throwable;" } : Jvm.MethodName)) ∈ lw_tbl := ux_in 45 ux_t3 rfl
theorem tw_528 : (Jvm.Cond.selects "java/lang/IllegalArgumentException" ({ cls := "java/lang/Throwable", name := "fillInStackTrace", desc := "()Ljava/lang/Throwable;" } : Jvm.MethodName) ({ cls := "java/lang/Throwable", name := "fillInStackTrace", desc := "()Ljava/lang/Throwable;" } : Jvm.MethodName)) ∈ lw_tbl := ux_in 48 ux_t3 rfl
theorem tw_529 : (Jvm.Cond.selects "java/lang/IndexOutOfBoundsException" ({ cls := "java/lang/Throwable", name := "fillInStackTrace", desc := "()Ljava/lang/Throwable;" } : Jvm.MethodName) ({ cls := "java/lang/Throwable", name := "fillInStackTrace", desc := "()Ljava/lang/Throwable;" } : Jvm.MethodName)) ∈ lw_tbl := ux_in 49 ux_t3 rfl
theorem tw_530 : (Jvm.Cond.selects "java/util/NoSuchElementException" ({ cls := "java/lang/Throwable", name := "fillInStackTrace", desc := "()Ljava/lang/Throwable;" } : Jvm.MethodName) ({ cls := "java/lang/Throwable", name := "fillInStackTrace", desc := "()Ljava/lang/Throwable;" } : Jvm.MethodName)) ∈ lw_tbl := ux_in 50 ux_t3 rfl
theorem tw_531 : (Jvm.Cond.codeSync ({ cls := "java/lang/Throwable", name := "fillInStackTrace", desc := "()Ljava/lang/Throwable;" } : Jvm.MethodName) prog_31_method_18_code (1 : Nat) (Option.some (Jvm.ClassFile.FieldType.object "java/lang/Throwable"))) ∈ lw_tbl := ux_in 51 ux_t3 rfl
theorem tw_532 : (Jvm.Cond.methodLink "java/lang/Throwable" (202 : Nat) ({ cls := "java/lang/Throwable", name := "fillInStackTrace", desc := "(I)Ljava/lang/Throwable;" } : Jvm.MethodName)) ∈ lw_tbl := ux_in 52 ux_t3 rfl
theorem tw_534 : (Jvm.Cond.instanceMethod ({ cls := "java/lang/Throwable", name := "fillInStackTrace", desc := "(I)Ljava/lang/Throwable;" } : Jvm.MethodName)) ∈ lw_tbl := ux_in 54 ux_t3 rfl
theorem tw_536 : (Jvm.Cond.native ({ cls := "java/lang/Throwable", name := "fillInStackTrace", desc := "(I)Ljava/lang/Throwable;" } : Jvm.MethodName)) ∈ lw_tbl := ux_in 56 ux_t3 rfl
theorem tw_541 : (Jvm.Cond.instanceMethod ({ cls := "java/lang/RuntimeException", name := "<init>", desc := "()V" } : Jvm.MethodName)) ∈ lw_tbl := ux_in 61 ux_t3 rfl
theorem tw_542 : (Jvm.Cond.code ({ cls := "java/lang/RuntimeException", name := "<init>", desc := "()V" } : Jvm.MethodName) prog_25_method_1_code (1 : Nat) (Option.none : Option Jvm.ClassFile.FieldType)) ∈ lw_tbl := ux_in 62 ux_t3 rfl
theorem tw_543 : (Jvm.Cond.methodLink "java/lang/RuntimeException" (1 : Nat) ({ cls := "java/lang/Exception", name := "<init>", desc := "()V" } : Jvm.MethodName)) ∈ lw_tbl := ux_in 63 ux_t3 rfl
theorem tw_544 : (Jvm.Cond.instanceMethod ({ cls := "java/lang/Exception", name := "<init>", desc := "()V" } : Jvm.MethodName)) ∈ lw_tbl := ux_in 64 ux_t3 rfl
theorem tw_545 : (Jvm.Cond.code ({ cls := "java/lang/Exception", name := "<init>", desc := "()V" } : Jvm.MethodName) prog_19_method_1_code (1 : Nat) (Option.none : Option Jvm.ClassFile.FieldType)) ∈ lw_tbl := ux_in 65 ux_t3 rfl
theorem tw_546 : (Jvm.Cond.methodLink "java/lang/Exception" (1 : Nat) ({ cls := "java/lang/Throwable", name := "<init>", desc := "()V" } : Jvm.MethodName)) ∈ lw_tbl := ux_in 66 ux_t3 rfl
theorem tw_549 : (Jvm.Cond.fieldLink "java/lang/Throwable" (7 : Nat) "java/lang/Throwable" "cause" "Ljava/lang/Throwable;") ∈ lw_tbl := ux_in 69 ux_t3 rfl
theorem tw_550 : (Jvm.Cond.fieldLink "java/lang/Throwable" (17 : Nat) "java/lang/Throwable" "stackTrace" "[Ljava/lang/StackTraceElement;") ∈ lw_tbl := ux_in 70 ux_t3 rfl
theorem tw_551 : (Jvm.Cond.fieldLink "java/lang/Throwable" (24 : Nat) "java/lang/Throwable" "suppressedExceptions" "Ljava/util/List;") ∈ lw_tbl := ux_in 71 ux_t3 rfl
theorem tw_560 : (Jvm.Cond.methodLink "UnikernelHttp" (83 : Nat) ({ cls := "UnikernelHttp", name := "putFour", desc := "([BII)V" } : Jvm.MethodName)) ∈ lw_tbl := ux_in 80 ux_t3 rfl
theorem tw_561 : (Jvm.Cond.static ({ cls := "UnikernelHttp", name := "putFour", desc := "([BII)V" } : Jvm.MethodName)) ∈ lw_tbl := ux_in 81 ux_t3 rfl
theorem tw_562 : (Jvm.Cond.code ({ cls := "UnikernelHttp", name := "putFour", desc := "([BII)V" } : Jvm.MethodName) prog_1_method_23_code (3 : Nat) (Option.none : Option Jvm.ClassFile.FieldType)) ∈ lw_tbl := ux_in 82 ux_t3 rfl
theorem tw_571 : (Jvm.Cond.classLink "UnikernelHttp" (87 : Nat) "java/lang/IllegalArgumentException") ∈ lw_tbl := ux_in 91 ux_t3 rfl
theorem tw_572 : (Jvm.Cond.instantiable "java/lang/IllegalArgumentException" (6 : Nat)) ∈ lw_tbl := ux_in 92 ux_t3 rfl
theorem tw_573 : (Jvm.Cond.castable "java/lang/IllegalArgumentException" "java/lang/IllegalArgumentException") ∈ lw_tbl := ux_in 93 ux_t3 rfl
theorem tw_574 : (Jvm.Cond.selects "java/lang/IllegalArgumentException" ({ cls := "java/lang/Throwable", name := "fillInStackTrace", desc := "(I)Ljava/lang/Throwable;" } : Jvm.MethodName) ({ cls := "java/lang/Throwable", name := "fillInStackTrace", desc := "(I)Ljava/lang/Throwable;" } : Jvm.MethodName)) ∈ lw_tbl := ux_in 94 ux_t3 rfl
theorem tw_575 : (Jvm.Cond.lays "java/lang/IllegalArgumentException" "java/lang/Throwable" "cause" "Ljava/lang/Throwable;") ∈ lw_tbl := ux_in 95 ux_t3 rfl
theorem tw_576 : (Jvm.Cond.lays "java/lang/IllegalArgumentException" "java/lang/Throwable" "stackTrace" "[Ljava/lang/StackTraceElement;") ∈ lw_tbl := ux_in 96 ux_t3 rfl
theorem tw_577 : (Jvm.Cond.lays "java/lang/IllegalArgumentException" "java/lang/Throwable" "suppressedExceptions" "Ljava/util/List;") ∈ lw_tbl := ux_in 97 ux_t3 rfl
theorem tw_578 : (Jvm.Cond.lays "java/lang/IllegalArgumentException" "java/lang/Throwable" "detailMessage" "Ljava/lang/String;") ∈ lw_tbl := ux_in 98 ux_t3 rfl
theorem tw_579 : (Jvm.Cond.lays "java/lang/IllegalArgumentException" "java/lang/Throwable" "backtrace" "Ljava/lang/Object;") ∈ lw_tbl := ux_in 99 ux_t3 rfl
theorem tw_580 : (Jvm.Cond.methodLink "UnikernelHttp" (89 : Nat) ({ cls := "java/lang/IllegalArgumentException", name := "<init>", desc := "()V" } : Jvm.MethodName)) ∈ lw_tbl := ux_in 100 ux_t3 rfl
theorem tw_581 : (Jvm.Cond.instanceMethod ({ cls := "java/lang/IllegalArgumentException", name := "<init>", desc := "()V" } : Jvm.MethodName)) ∈ lw_tbl := ux_in 101 ux_t3 rfl
theorem tw_582 : (Jvm.Cond.code ({ cls := "java/lang/IllegalArgumentException", name := "<init>", desc := "()V" } : Jvm.MethodName) prog_20_method_1_code (1 : Nat) (Option.none : Option Jvm.ClassFile.FieldType)) ∈ lw_tbl := ux_in 102 ux_t3 rfl
theorem tw_583 : (Jvm.Cond.methodLink "java/lang/IllegalArgumentException" (1 : Nat) ({ cls := "java/lang/RuntimeException", name := "<init>", desc := "()V" } : Jvm.MethodName)) ∈ lw_tbl := ux_in 103 ux_t3 rfl
theorem tw_593 : (Jvm.Cond.methodLink "UnikernelHttp" (93 : Nat) ({ cls := "UnikernelHttp", name := "isForMe", desc := "(I)Z" } : Jvm.MethodName)) ∈ lw_tbl := ux_in 113 ux_t3 rfl
theorem tw_595 : (Jvm.Cond.instanceMethod ({ cls := "UnikernelHttp", name := "isForMe", desc := "(I)Z" } : Jvm.MethodName)) ∈ lw_tbl := ux_in 115 ux_t3 rfl
theorem tw_596 : (Jvm.Cond.code ({ cls := "UnikernelHttp", name := "isForMe", desc := "(I)Z" } : Jvm.MethodName) prog_1_method_12_code (4 : Nat) (Option.some Jvm.ClassFile.FieldType.boolean)) ∈ lw_tbl := ux_in 116 ux_t3 rfl
theorem tw_754 : (Jvm.Cond.static ({ cls := "java/lang/Math", name := "min", desc := "(II)I" } : Jvm.MethodName)) ∈ lw_tbl := ux_in 34 ux_t4 rfl
theorem tw_755 : (Jvm.Cond.code ({ cls := "java/lang/Math", name := "min", desc := "(II)I" } : Jvm.MethodName) prog_24_method_69_code (2 : Nat) (Option.some Jvm.ClassFile.FieldType.int)) ∈ lw_tbl := ux_in 35 ux_t4 rfl
theorem tw_757 : (Jvm.Cond.methodLinkNest "UnikernelHttp" (192 : Nat) ({ cls := "UnikernelHttp$Tcp", name := "find", desc := "(II)LUnikernelHttp$Connection;" } : Jvm.MethodName) "UnikernelHttp") ∈ lw_tbl := ux_in 37 ux_t4 rfl
theorem tw_759 : (Jvm.Cond.instanceMethod ({ cls := "UnikernelHttp$Tcp", name := "find", desc := "(II)LUnikernelHttp$Connection;" } : Jvm.MethodName)) ∈ lw_tbl := ux_in 39 ux_t4 rfl
theorem tw_760 : (Jvm.Cond.code ({ cls := "UnikernelHttp$Tcp", name := "find", desc := "(II)LUnikernelHttp$Connection;" } : Jvm.MethodName) prog_11_method_2_code (4 : Nat) (Option.some (Jvm.ClassFile.FieldType.object "UnikernelHttp$Connection"))) ∈ lw_tbl := ux_in 40 ux_t4 rfl
theorem tw_1365 : (Jvm.Cond.classLink "UnikernelHttp" (135 : Nat) "java/lang/IndexOutOfBoundsException") ∈ lw_tbl := ux_in 165 ux_t6 rfl
theorem tw_1366 : (Jvm.Cond.instantiable "java/lang/IndexOutOfBoundsException" (6 : Nat)) ∈ lw_tbl := ux_in 166 ux_t6 rfl
theorem tw_1367 : (Jvm.Cond.castable "java/lang/IndexOutOfBoundsException" "java/lang/IndexOutOfBoundsException") ∈ lw_tbl := ux_in 167 ux_t6 rfl
theorem tw_1368 : (Jvm.Cond.selects "java/lang/IndexOutOfBoundsException" ({ cls := "java/lang/Throwable", name := "fillInStackTrace", desc := "(I)Ljava/lang/Throwable;" } : Jvm.MethodName) ({ cls := "java/lang/Throwable", name := "fillInStackTrace", desc := "(I)Ljava/lang/Throwable;" } : Jvm.MethodName)) ∈ lw_tbl := ux_in 168 ux_t6 rfl
theorem tw_1369 : (Jvm.Cond.lays "java/lang/IndexOutOfBoundsException" "java/lang/Throwable" "cause" "Ljava/lang/Throwable;") ∈ lw_tbl := ux_in 169 ux_t6 rfl
theorem tw_1370 : (Jvm.Cond.lays "java/lang/IndexOutOfBoundsException" "java/lang/Throwable" "stackTrace" "[Ljava/lang/StackTraceElement;") ∈ lw_tbl := ux_in 170 ux_t6 rfl
theorem tw_1371 : (Jvm.Cond.lays "java/lang/IndexOutOfBoundsException" "java/lang/Throwable" "suppressedExceptions" "Ljava/util/List;") ∈ lw_tbl := ux_in 171 ux_t6 rfl
theorem tw_1372 : (Jvm.Cond.lays "java/lang/IndexOutOfBoundsException" "java/lang/Throwable" "detailMessage" "Ljava/lang/String;") ∈ lw_tbl := ux_in 172 ux_t6 rfl
theorem tw_1373 : (Jvm.Cond.lays "java/lang/IndexOutOfBoundsException" "java/lang/Throwable" "backtrace" "Ljava/lang/Object;") ∈ lw_tbl := ux_in 173 ux_t6 rfl
theorem tw_1374 : (Jvm.Cond.methodLink "UnikernelHttp" (137 : Nat) ({ cls := "java/lang/IndexOutOfBoundsException", name := "<init>", desc := "()V" } : Jvm.MethodName)) ∈ lw_tbl := ux_in 174 ux_t6 rfl
theorem tw_1375 : (Jvm.Cond.instanceMethod ({ cls := "java/lang/IndexOutOfBoundsException", name := "<init>", desc := "()V" } : Jvm.MethodName)) ∈ lw_tbl := ux_in 175 ux_t6 rfl
theorem tw_1376 : (Jvm.Cond.code ({ cls := "java/lang/IndexOutOfBoundsException", name := "<init>", desc := "()V" } : Jvm.MethodName) prog_22_method_1_code (1 : Nat) (Option.none : Option Jvm.ClassFile.FieldType)) ∈ lw_tbl := ux_in 176 ux_t6 rfl
theorem tw_1377 : (Jvm.Cond.methodLink "java/lang/IndexOutOfBoundsException" (1 : Nat) ({ cls := "java/lang/RuntimeException", name := "<init>", desc := "()V" } : Jvm.MethodName)) ∈ lw_tbl := ux_in 177 ux_t6 rfl
theorem tw_1387 : (Jvm.Cond.constant "UnikernelHttp" (142 : Nat) (100000 : Int32)) ∈ lw_tbl := ux_in 187 ux_t6 rfl
theorem tw_1388 : (Jvm.Cond.methodLinkNest "UnikernelHttp" (146 : Nat) ({ cls := "UnikernelHttp$Gatherings", name := "due", desc := "()I" } : Jvm.MethodName) "UnikernelHttp") ∈ lw_tbl := ux_in 188 ux_t6 rfl
theorem tw_1390 : (Jvm.Cond.instanceMethod ({ cls := "UnikernelHttp$Gatherings", name := "due", desc := "()I" } : Jvm.MethodName)) ∈ lw_tbl := ux_in 190 ux_t6 rfl
theorem tw_1391 : (Jvm.Cond.code ({ cls := "UnikernelHttp$Gatherings", name := "due", desc := "()I" } : Jvm.MethodName) prog_4_method_2_code (1 : Nat) (Option.some Jvm.ClassFile.FieldType.int)) ∈ lw_tbl := ux_in 191 ux_t6 rfl
theorem tw_1393 : (Jvm.Cond.methodLinkNest "UnikernelHttp" (150 : Nat) ({ cls := "UnikernelHttp$Tcp", name := "firstDue", desc := "()LUnikernelHttp$Connection;" } : Jvm.MethodName) "UnikernelHttp") ∈ lw_tbl := ux_in 193 ux_t6 rfl
theorem tw_1395 : (Jvm.Cond.instanceMethod ({ cls := "UnikernelHttp$Tcp", name := "firstDue", desc := "()LUnikernelHttp$Connection;" } : Jvm.MethodName)) ∈ lw_tbl := ux_in 195 ux_t6 rfl
theorem tw_1396 : (Jvm.Cond.code ({ cls := "UnikernelHttp$Tcp", name := "firstDue", desc := "()LUnikernelHttp$Connection;" } : Jvm.MethodName) prog_11_method_3_code (3 : Nat) (Option.some (Jvm.ClassFile.FieldType.object "UnikernelHttp$Connection"))) ∈ lw_tbl := ux_in 196 ux_t6 rfl
theorem tw_1401 : (Jvm.Cond.constant "UnikernelHttp" (154 : Nat) (2147483647 : Int32)) ∈ lw_tbl := ux_in 201 ux_t6 rfl
theorem tw_1403 : (Jvm.Cond.methodLink "UnikernelHttp" (158 : Nat) ({ cls := "java/lang/Math", name := "min", desc := "(II)I" } : Jvm.MethodName)) ∈ lw_tbl := ux_in 203 ux_t6 rfl
theorem tw_1431 : (Jvm.Cond.methodLinkNest "UnikernelHttp" (171 : Nat) ({ cls := "UnikernelHttp$Wire", name := "keeps", desc := "(I)Z" } : Jvm.MethodName) "UnikernelHttp") ∈ lw_tbl := ux_in 231 ux_t6 rfl
theorem tw_1433 : (Jvm.Cond.instanceMethod ({ cls := "UnikernelHttp$Wire", name := "keeps", desc := "(I)Z" } : Jvm.MethodName)) ∈ lw_tbl := ux_in 233 ux_t6 rfl
theorem tw_1434 : (Jvm.Cond.code ({ cls := "UnikernelHttp$Wire", name := "keeps", desc := "(I)Z" } : Jvm.MethodName) prog_12_method_3_code (2 : Nat) (Option.some Jvm.ClassFile.FieldType.boolean)) ∈ lw_tbl := ux_in 234 ux_t6 rfl
theorem tw_1463 : (Jvm.Cond.classLink "UnikernelHttp" (196 : Nat) "java/util/NoSuchElementException") ∈ lw_tbl := ux_in 23 ux_t7 rfl
theorem tw_1464 : (Jvm.Cond.instantiable "java/util/NoSuchElementException" (6 : Nat)) ∈ lw_tbl := ux_in 24 ux_t7 rfl
theorem tw_1465 : (Jvm.Cond.castable "java/util/NoSuchElementException" "java/util/NoSuchElementException") ∈ lw_tbl := ux_in 25 ux_t7 rfl
theorem tw_1466 : (Jvm.Cond.selects "java/util/NoSuchElementException" ({ cls := "java/lang/Throwable", name := "fillInStackTrace", desc := "(I)Ljava/lang/Throwable;" } : Jvm.MethodName) ({ cls := "java/lang/Throwable", name := "fillInStackTrace", desc := "(I)Ljava/lang/Throwable;" } : Jvm.MethodName)) ∈ lw_tbl := ux_in 26 ux_t7 rfl
theorem tw_1467 : (Jvm.Cond.lays "java/util/NoSuchElementException" "java/lang/Throwable" "cause" "Ljava/lang/Throwable;") ∈ lw_tbl := ux_in 27 ux_t7 rfl
theorem tw_1468 : (Jvm.Cond.lays "java/util/NoSuchElementException" "java/lang/Throwable" "stackTrace" "[Ljava/lang/StackTraceElement;") ∈ lw_tbl := ux_in 28 ux_t7 rfl
theorem tw_1469 : (Jvm.Cond.lays "java/util/NoSuchElementException" "java/lang/Throwable" "suppressedExceptions" "Ljava/util/List;") ∈ lw_tbl := ux_in 29 ux_t7 rfl
theorem tw_1470 : (Jvm.Cond.lays "java/util/NoSuchElementException" "java/lang/Throwable" "detailMessage" "Ljava/lang/String;") ∈ lw_tbl := ux_in 30 ux_t7 rfl
theorem tw_1471 : (Jvm.Cond.lays "java/util/NoSuchElementException" "java/lang/Throwable" "backtrace" "Ljava/lang/Object;") ∈ lw_tbl := ux_in 31 ux_t7 rfl
theorem tw_1472 : (Jvm.Cond.methodLink "UnikernelHttp" (198 : Nat) ({ cls := "java/util/NoSuchElementException", name := "<init>", desc := "()V" } : Jvm.MethodName)) ∈ lw_tbl := ux_in 32 ux_t7 rfl
theorem tw_1473 : (Jvm.Cond.instanceMethod ({ cls := "java/util/NoSuchElementException", name := "<init>", desc := "()V" } : Jvm.MethodName)) ∈ lw_tbl := ux_in 33 ux_t7 rfl
theorem tw_1474 : (Jvm.Cond.code ({ cls := "java/util/NoSuchElementException", name := "<init>", desc := "()V" } : Jvm.MethodName) prog_33_method_1_code (1 : Nat) (Option.none : Option Jvm.ClassFile.FieldType)) ∈ lw_tbl := ux_in 34 ux_t7 rfl
theorem tw_1475 : (Jvm.Cond.methodLink "java/util/NoSuchElementException" (1 : Nat) ({ cls := "java/lang/RuntimeException", name := "<init>", desc := "()V" } : Jvm.MethodName)) ∈ lw_tbl := ux_in 35 ux_t7 rfl
abbrev b_U_feed : ByteArray := prog_1_method_2_code
abbrev y_U_feed : MethodName := ⟨"UnikernelHttp", "feed", "(IIIII)I"⟩
theorem d_U_feed_0 : decode b_U_feed 0 = .ok (.aload_n 0, 1) := by decide +kernel
theorem d_U_feed_1 : decode b_U_feed 1 = .ok (.getfield 76, 3) := by decide +kernel
theorem d_U_feed_4 : decode b_U_feed 4 = .ok (.bipush 20, 2) := by decide +kernel
theorem d_U_feed_6 : decode b_U_feed 6 = .ok (.iadd, 1) := by decide +kernel
theorem d_U_feed_7 : decode b_U_feed 7 = .ok (.sipush 2000, 3) := by decide +kernel
theorem d_U_feed_10 : decode b_U_feed 10 = .ok (.if_icmp .le 11, 3) := by decide +kernel
theorem d_U_feed_21 : decode b_U_feed 21 = .ok (.aload_n 0, 1) := by decide +kernel
theorem d_U_feed_22 : decode b_U_feed 22 = .ok (.getfield 11, 3) := by decide +kernel
theorem d_U_feed_25 : decode b_U_feed 25 = .ok (.aload_n 0, 1) := by decide +kernel
theorem d_U_feed_26 : decode b_U_feed 26 = .ok (.getfield 76, 3) := by decide +kernel
theorem d_U_feed_29 : decode b_U_feed 29 = .ok (.iload_n 1, 1) := by decide +kernel
theorem d_U_feed_30 : decode b_U_feed 30 = .ok (.invokestatic 83, 3) := by decide +kernel
theorem d_U_feed_33 : decode b_U_feed 33 = .ok (.aload_n 0, 1) := by decide +kernel
theorem d_U_feed_34 : decode b_U_feed 34 = .ok (.getfield 11, 3) := by decide +kernel
theorem d_U_feed_37 : decode b_U_feed 37 = .ok (.aload_n 0, 1) := by decide +kernel
theorem d_U_feed_38 : decode b_U_feed 38 = .ok (.getfield 76, 3) := by decide +kernel
theorem d_U_feed_41 : decode b_U_feed 41 = .ok (.iconst 4, 1) := by decide +kernel
theorem d_U_feed_42 : decode b_U_feed 42 = .ok (.iadd, 1) := by decide +kernel
theorem d_U_feed_43 : decode b_U_feed 43 = .ok (.iload_n 2, 1) := by decide +kernel
theorem d_U_feed_44 : decode b_U_feed 44 = .ok (.invokestatic 83, 3) := by decide +kernel
theorem d_U_feed_47 : decode b_U_feed 47 = .ok (.aload_n 0, 1) := by decide +kernel
theorem d_U_feed_48 : decode b_U_feed 48 = .ok (.getfield 11, 3) := by decide +kernel
theorem d_U_feed_51 : decode b_U_feed 51 = .ok (.aload_n 0, 1) := by decide +kernel
theorem d_U_feed_52 : decode b_U_feed 52 = .ok (.getfield 76, 3) := by decide +kernel
theorem d_U_feed_55 : decode b_U_feed 55 = .ok (.bipush 8, 2) := by decide +kernel
theorem d_U_feed_57 : decode b_U_feed 57 = .ok (.iadd, 1) := by decide +kernel
theorem d_U_feed_58 : decode b_U_feed 58 = .ok (.iload_n 3, 1) := by decide +kernel
theorem d_U_feed_59 : decode b_U_feed 59 = .ok (.invokestatic 83, 3) := by decide +kernel
theorem d_U_feed_62 : decode b_U_feed 62 = .ok (.aload_n 0, 1) := by decide +kernel
theorem d_U_feed_63 : decode b_U_feed 63 = .ok (.getfield 11, 3) := by decide +kernel
theorem d_U_feed_66 : decode b_U_feed 66 = .ok (.aload_n 0, 1) := by decide +kernel
theorem d_U_feed_67 : decode b_U_feed 67 = .ok (.getfield 76, 3) := by decide +kernel
theorem d_U_feed_70 : decode b_U_feed 70 = .ok (.bipush 12, 2) := by decide +kernel
theorem d_U_feed_72 : decode b_U_feed 72 = .ok (.iadd, 1) := by decide +kernel
theorem d_U_feed_73 : decode b_U_feed 73 = .ok (.iload 4, 2) := by decide +kernel
theorem d_U_feed_75 : decode b_U_feed 75 = .ok (.invokestatic 83, 3) := by decide +kernel
theorem d_U_feed_78 : decode b_U_feed 78 = .ok (.aload_n 0, 1) := by decide +kernel
theorem d_U_feed_79 : decode b_U_feed 79 = .ok (.getfield 11, 3) := by decide +kernel
theorem d_U_feed_82 : decode b_U_feed 82 = .ok (.aload_n 0, 1) := by decide +kernel
theorem d_U_feed_83 : decode b_U_feed 83 = .ok (.getfield 76, 3) := by decide +kernel
theorem d_U_feed_86 : decode b_U_feed 86 = .ok (.bipush 16, 2) := by decide +kernel
theorem d_U_feed_88 : decode b_U_feed 88 = .ok (.iadd, 1) := by decide +kernel
theorem d_U_feed_89 : decode b_U_feed 89 = .ok (.iload 5, 2) := by decide +kernel
theorem d_U_feed_91 : decode b_U_feed 91 = .ok (.invokestatic 83, 3) := by decide +kernel
theorem d_U_feed_94 : decode b_U_feed 94 = .ok (.aload_n 0, 1) := by decide +kernel
theorem d_U_feed_95 : decode b_U_feed 95 = .ok (.dup, 1) := by decide +kernel
theorem d_U_feed_96 : decode b_U_feed 96 = .ok (.getfield 76, 3) := by decide +kernel
theorem d_U_feed_99 : decode b_U_feed 99 = .ok (.bipush 20, 2) := by decide +kernel
theorem d_U_feed_101 : decode b_U_feed 101 = .ok (.iadd, 1) := by decide +kernel
theorem d_U_feed_102 : decode b_U_feed 102 = .ok (.putfield 76, 3) := by decide +kernel
theorem d_U_feed_105 : decode b_U_feed 105 = .ok (.aload_n 0, 1) := by decide +kernel
theorem d_U_feed_106 : decode b_U_feed 106 = .ok (.getfield 76, 3) := by decide +kernel
theorem d_U_feed_109 : decode b_U_feed 109 = .ok (.ireturn, 1) := by decide +kernel
abbrev b_U_cut : ByteArray := prog_1_method_3_code
abbrev y_U_cut : MethodName := ⟨"UnikernelHttp", "cut", "(I)I"⟩
theorem d_U_cut_0 : decode b_U_cut 0 = .ok (.iload_n 1, 1) := by decide +kernel
theorem d_U_cut_1 : decode b_U_cut 1 = .ok (.ifCond .lt 11, 3) := by decide +kernel
theorem d_U_cut_4 : decode b_U_cut 4 = .ok (.iload_n 1, 1) := by decide +kernel
theorem d_U_cut_5 : decode b_U_cut 5 = .ok (.aload_n 0, 1) := by decide +kernel
theorem d_U_cut_6 : decode b_U_cut 6 = .ok (.getfield 76, 3) := by decide +kernel
theorem d_U_cut_9 : decode b_U_cut 9 = .ok (.if_icmp .le 11, 3) := by decide +kernel
theorem d_U_cut_12 : decode b_U_cut 12 = .ok (.new 87, 3) := by decide +kernel
theorem d_U_cut_15 : decode b_U_cut 15 = .ok (.dup, 1) := by decide +kernel
theorem d_U_cut_16 : decode b_U_cut 16 = .ok (.invokespecial 89, 3) := by decide +kernel
theorem d_U_cut_19 : decode b_U_cut 19 = .ok (.athrow, 1) := by decide +kernel
theorem d_U_cut_20 : decode b_U_cut 20 = .ok (.aload_n 0, 1) := by decide +kernel
theorem d_U_cut_21 : decode b_U_cut 21 = .ok (.iload_n 1, 1) := by decide +kernel
theorem d_U_cut_22 : decode b_U_cut 22 = .ok (.putfield 76, 3) := by decide +kernel
theorem d_U_cut_25 : decode b_U_cut 25 = .ok (.iload_n 1, 1) := by decide +kernel
theorem d_U_cut_26 : decode b_U_cut 26 = .ok (.ireturn, 1) := by decide +kernel
abbrev b_U_arrive : ByteArray := prog_1_method_4_code
abbrev y_U_arrive : MethodName := ⟨"UnikernelHttp", "arrive", "()I"⟩
theorem d_U_arrive_0 : decode b_U_arrive 0 = .ok (.aload_n 0, 1) := by decide +kernel
theorem d_U_arrive_1 : decode b_U_arrive 1 = .ok (.getfield 76, 3) := by decide +kernel
theorem d_U_arrive_4 : decode b_U_arrive 4 = .ok (.sipush 1518, 3) := by decide +kernel
theorem d_U_arrive_7 : decode b_U_arrive 7 = .ok (.if_icmp .le 11, 3) := by decide +kernel
theorem d_U_arrive_18 : decode b_U_arrive 18 = .ok (.aload_n 0, 1) := by decide +kernel
theorem d_U_arrive_19 : decode b_U_arrive 19 = .ok (.getfield 27, 3) := by decide +kernel
theorem d_U_arrive_22 : decode b_U_arrive 22 = .ok (.getfield 90, 3) := by decide +kernel
theorem d_U_arrive_25 : decode b_U_arrive 25 = .ok (.istore_n 1, 1) := by decide +kernel
theorem d_U_arrive_26 : decode b_U_arrive 26 = .ok (.aload_n 0, 1) := by decide +kernel
theorem d_U_arrive_27 : decode b_U_arrive 27 = .ok (.getfield 76, 3) := by decide +kernel
theorem d_U_arrive_30 : decode b_U_arrive 30 = .ok (.istore_n 2, 1) := by decide +kernel
theorem d_U_arrive_31 : decode b_U_arrive 31 = .ok (.aload_n 0, 1) := by decide +kernel
theorem d_U_arrive_32 : decode b_U_arrive 32 = .ok (.iconst 0, 1) := by decide +kernel
theorem d_U_arrive_33 : decode b_U_arrive 33 = .ok (.putfield 76, 3) := by decide +kernel
theorem d_U_arrive_36 : decode b_U_arrive 36 = .ok (.aload_n 0, 1) := by decide +kernel
theorem d_U_arrive_37 : decode b_U_arrive 37 = .ok (.iload_n 2, 1) := by decide +kernel
theorem d_U_arrive_38 : decode b_U_arrive 38 = .ok (.invokevirtual 93, 3) := by decide +kernel
theorem d_U_arrive_41 : decode b_U_arrive 41 = .ok (.ifCond .eq 15, 3) := by decide +kernel
theorem d_U_arrive_56 : decode b_U_arrive 56 = .ok (.iconst 0, 1) := by decide +kernel
theorem d_U_arrive_57 : decode b_U_arrive 57 = .ok (.istore_n 3, 1) := by decide +kernel
theorem d_U_arrive_58 : decode b_U_arrive 58 = .ok (.iload_n 3, 1) := by decide +kernel
theorem d_U_arrive_59 : decode b_U_arrive 59 = .ok (.sipush 2054, 3) := by decide +kernel
theorem d_U_arrive_62 : decode b_U_arrive 62 = .ok (.if_icmp .ne 11, 3) := by decide +kernel
theorem d_U_arrive_73 : decode b_U_arrive 73 = .ok (.iload_n 3, 1) := by decide +kernel
theorem d_U_arrive_74 : decode b_U_arrive 74 = .ok (.sipush 2048, 3) := by decide +kernel
theorem d_U_arrive_77 : decode b_U_arrive 77 = .ok (.if_icmp .ne 53, 3) := by decide +kernel
theorem d_U_arrive_130 : decode b_U_arrive 130 = .ok (.aload_n 0, 1) := by decide +kernel
theorem d_U_arrive_131 : decode b_U_arrive 131 = .ok (.getfield 27, 3) := by decide +kernel
theorem d_U_arrive_134 : decode b_U_arrive 134 = .ok (.getfield 90, 3) := by decide +kernel
theorem d_U_arrive_137 : decode b_U_arrive 137 = .ok (.iload_n 1, 1) := by decide +kernel
theorem d_U_arrive_138 : decode b_U_arrive 138 = .ok (.isub, 1) := by decide +kernel
theorem d_U_arrive_139 : decode b_U_arrive 139 = .ok (.ireturn, 1) := by decide +kernel
abbrev b_U_page : ByteArray := prog_1_method_5_code
abbrev y_U_page : MethodName := ⟨"UnikernelHttp", "page", "(I)I"⟩
theorem d_U_page_0 : decode b_U_page 0 = .ok (.iload_n 1, 1) := by decide +kernel
theorem d_U_page_1 : decode b_U_page 1 = .ok (.iconst 1, 1) := by decide +kernel
theorem d_U_page_2 : decode b_U_page 2 = .ok (.if_icmp .lt 33, 3) := by decide +kernel
theorem d_U_page_5 : decode b_U_page 5 = .ok (.iload_n 1, 1) := by decide +kernel
theorem d_U_page_6 : decode b_U_page 6 = .ok (.bipush 64, 2) := by decide +kernel
theorem d_U_page_8 : decode b_U_page 8 = .ok (.if_icmp .gt 27, 3) := by decide +kernel
theorem d_U_page_11 : decode b_U_page 11 = .ok (.iload_n 1, 1) := by decide +kernel
theorem d_U_page_12 : decode b_U_page 12 = .ok (.aload_n 0, 1) := by decide +kernel
theorem d_U_page_13 : decode b_U_page 13 = .ok (.getfield 76, 3) := by decide +kernel
theorem d_U_page_16 : decode b_U_page 16 = .ok (.if_icmp .gt 19, 3) := by decide +kernel
theorem d_U_page_35 : decode b_U_page 35 = .ok (.iconst 0, 1) := by decide +kernel
theorem d_U_page_36 : decode b_U_page 36 = .ok (.istore_n 2, 1) := by decide +kernel
theorem d_U_page_37 : decode b_U_page 37 = .ok (.iload_n 2, 1) := by decide +kernel
theorem d_U_page_38 : decode b_U_page 38 = .ok (.ifCond .eq 14, 3) := by decide +kernel
theorem d_U_page_52 : decode b_U_page 52 = .ok (.new 87, 3) := by decide +kernel
theorem d_U_page_55 : decode b_U_page 55 = .ok (.dup, 1) := by decide +kernel
theorem d_U_page_56 : decode b_U_page 56 = .ok (.invokespecial 89, 3) := by decide +kernel
theorem d_U_page_59 : decode b_U_page 59 = .ok (.athrow, 1) := by decide +kernel
abbrev b_U_damage : ByteArray := prog_1_method_6_code
abbrev y_U_damage : MethodName := ⟨"UnikernelHttp", "damage", "(III)I"⟩
theorem d_U_damage_0 : decode b_U_damage 0 = .ok (.iload_n 1, 1) := by decide +kernel
theorem d_U_damage_1 : decode b_U_damage 1 = .ok (.ifCond .lt 31, 3) := by decide +kernel
theorem d_U_damage_4 : decode b_U_damage 4 = .ok (.iload_n 1, 1) := by decide +kernel
theorem d_U_damage_5 : decode b_U_damage 5 = .ok (.aload_n 0, 1) := by decide +kernel
theorem d_U_damage_6 : decode b_U_damage 6 = .ok (.getfield 57, 3) := by decide +kernel
theorem d_U_damage_9 : decode b_U_damage 9 = .ok (.getfield 125, 3) := by decide +kernel
theorem d_U_damage_12 : decode b_U_damage 12 = .ok (.if_icmp .ge 20, 3) := by decide +kernel
theorem d_U_damage_32 : decode b_U_damage 32 = .ok (.new 135, 3) := by decide +kernel
theorem d_U_damage_35 : decode b_U_damage 35 = .ok (.dup, 1) := by decide +kernel
theorem d_U_damage_36 : decode b_U_damage 36 = .ok (.invokespecial 137, 3) := by decide +kernel
theorem d_U_damage_39 : decode b_U_damage 39 = .ok (.athrow, 1) := by decide +kernel
abbrev b_U_tick : ByteArray := prog_1_method_7_code
abbrev y_U_tick : MethodName := ⟨"UnikernelHttp", "tick", "(I)I"⟩
theorem d_U_tick_0 : decode b_U_tick 0 = .ok (.iload_n 1, 1) := by decide +kernel
theorem d_U_tick_1 : decode b_U_tick 1 = .ok (.ifCond .lt 9, 3) := by decide +kernel
theorem d_U_tick_4 : decode b_U_tick 4 = .ok (.iload_n 1, 1) := by decide +kernel
theorem d_U_tick_5 : decode b_U_tick 5 = .ok (.ldc 142, 2) := by decide +kernel
theorem d_U_tick_7 : decode b_U_tick 7 = .ok (.if_icmp .le 11, 3) := by decide +kernel
theorem d_U_tick_10 : decode b_U_tick 10 = .ok (.new 87, 3) := by decide +kernel
theorem d_U_tick_13 : decode b_U_tick 13 = .ok (.dup, 1) := by decide +kernel
theorem d_U_tick_14 : decode b_U_tick 14 = .ok (.invokespecial 89, 3) := by decide +kernel
theorem d_U_tick_17 : decode b_U_tick 17 = .ok (.athrow, 1) := by decide +kernel
theorem d_U_tick_18 : decode b_U_tick 18 = .ok (.aload_n 0, 1) := by decide +kernel
theorem d_U_tick_19 : decode b_U_tick 19 = .ok (.getfield 27, 3) := by decide +kernel
theorem d_U_tick_22 : decode b_U_tick 22 = .ok (.getfield 90, 3) := by decide +kernel
theorem d_U_tick_25 : decode b_U_tick 25 = .ok (.istore_n 2, 1) := by decide +kernel
theorem d_U_tick_26 : decode b_U_tick 26 = .ok (.aload_n 0, 1) := by decide +kernel
theorem d_U_tick_27 : decode b_U_tick 27 = .ok (.getfield 143, 3) := by decide +kernel
theorem d_U_tick_30 : decode b_U_tick 30 = .ok (.iload_n 1, 1) := by decide +kernel
theorem d_U_tick_31 : decode b_U_tick 31 = .ok (.iadd, 1) := by decide +kernel
theorem d_U_tick_32 : decode b_U_tick 32 = .ok (.istore_n 3, 1) := by decide +kernel
theorem d_U_tick_33 : decode b_U_tick 33 = .ok (.iconst 0, 1) := by decide +kernel
theorem d_U_tick_34 : decode b_U_tick 34 = .ok (.istore 4, 2) := by decide +kernel
theorem d_U_tick_36 : decode b_U_tick 36 = .ok (.iload 4, 2) := by decide +kernel
theorem d_U_tick_38 : decode b_U_tick 38 = .ok (.sipush 10000, 3) := by decide +kernel
theorem d_U_tick_41 : decode b_U_tick 41 = .ok (.if_icmp .ge 111, 3) := by decide +kernel
theorem d_U_tick_44 : decode b_U_tick 44 = .ok (.aload_n 0, 1) := by decide +kernel
theorem d_U_tick_45 : decode b_U_tick 45 = .ok (.getfield 34, 3) := by decide +kernel
theorem d_U_tick_48 : decode b_U_tick 48 = .ok (.invokevirtual 146, 3) := by decide +kernel
theorem d_U_tick_51 : decode b_U_tick 51 = .ok (.istore 5, 2) := by decide +kernel
theorem d_U_tick_53 : decode b_U_tick 53 = .ok (.aload_n 0, 1) := by decide +kernel
theorem d_U_tick_54 : decode b_U_tick 54 = .ok (.getfield 50, 3) := by decide +kernel
theorem d_U_tick_57 : decode b_U_tick 57 = .ok (.invokevirtual 150, 3) := by decide +kernel
theorem d_U_tick_60 : decode b_U_tick 60 = .ok (.astore 6, 2) := by decide +kernel
theorem d_U_tick_62 : decode b_U_tick 62 = .ok (.aload 6, 2) := by decide +kernel
theorem d_U_tick_64 : decode b_U_tick 64 = .ok (.ifnonnull 8, 3) := by decide +kernel
theorem d_U_tick_67 : decode b_U_tick 67 = .ok (.ldc 154, 2) := by decide +kernel
theorem d_U_tick_69 : decode b_U_tick 69 = .ok (.goto 8, 3) := by decide +kernel
theorem d_U_tick_77 : decode b_U_tick 77 = .ok (.istore 7, 2) := by decide +kernel
theorem d_U_tick_79 : decode b_U_tick 79 = .ok (.iload 5, 2) := by decide +kernel
theorem d_U_tick_81 : decode b_U_tick 81 = .ok (.iload 7, 2) := by decide +kernel
theorem d_U_tick_83 : decode b_U_tick 83 = .ok (.invokestatic 158, 3) := by decide +kernel
theorem d_U_tick_86 : decode b_U_tick 86 = .ok (.istore 8, 2) := by decide +kernel
theorem d_U_tick_88 : decode b_U_tick 88 = .ok (.iload 8, 2) := by decide +kernel
theorem d_U_tick_90 : decode b_U_tick 90 = .ok (.ldc 154, 2) := by decide +kernel
theorem d_U_tick_92 : decode b_U_tick 92 = .ok (.if_icmp .eq 60, 3) := by decide +kernel
theorem d_U_tick_152 : decode b_U_tick 152 = .ok (.aload_n 0, 1) := by decide +kernel
theorem d_U_tick_153 : decode b_U_tick 153 = .ok (.iload_n 3, 1) := by decide +kernel
theorem d_U_tick_154 : decode b_U_tick 154 = .ok (.putfield 143, 3) := by decide +kernel
theorem d_U_tick_157 : decode b_U_tick 157 = .ok (.aload_n 0, 1) := by decide +kernel
theorem d_U_tick_158 : decode b_U_tick 158 = .ok (.getfield 27, 3) := by decide +kernel
theorem d_U_tick_161 : decode b_U_tick 161 = .ok (.getfield 90, 3) := by decide +kernel
theorem d_U_tick_164 : decode b_U_tick 164 = .ok (.iload_n 2, 1) := by decide +kernel
theorem d_U_tick_165 : decode b_U_tick 165 = .ok (.isub, 1) := by decide +kernel
theorem d_U_tick_166 : decode b_U_tick 166 = .ok (.ireturn, 1) := by decide +kernel
abbrev b_U_size : ByteArray := prog_1_method_8_code
abbrev y_U_size : MethodName := ⟨"UnikernelHttp", "size", "(I)I"⟩
theorem d_U_size_0 : decode b_U_size 0 = .ok (.aload_n 0, 1) := by decide +kernel
theorem d_U_size_1 : decode b_U_size 1 = .ok (.getfield 27, 3) := by decide +kernel
theorem d_U_size_4 : decode b_U_size 4 = .ok (.iload_n 1, 1) := by decide +kernel
theorem d_U_size_5 : decode b_U_size 5 = .ok (.invokevirtual 171, 3) := by decide +kernel
theorem d_U_size_8 : decode b_U_size 8 = .ok (.ifCond .ne 11, 3) := by decide +kernel
theorem d_U_size_11 : decode b_U_size 11 = .ok (.new 135, 3) := by decide +kernel
theorem d_U_size_14 : decode b_U_size 14 = .ok (.dup, 1) := by decide +kernel
theorem d_U_size_15 : decode b_U_size 15 = .ok (.invokespecial 137, 3) := by decide +kernel
theorem d_U_size_18 : decode b_U_size 18 = .ok (.athrow, 1) := by decide +kernel
abbrev b_U_bytes : ByteArray := prog_1_method_9_code
abbrev y_U_bytes : MethodName := ⟨"UnikernelHttp", "bytes", "(II)J"⟩
theorem d_U_bytes_0 : decode b_U_bytes 0 = .ok (.aload_n 0, 1) := by decide +kernel
theorem d_U_bytes_1 : decode b_U_bytes 1 = .ok (.getfield 27, 3) := by decide +kernel
theorem d_U_bytes_4 : decode b_U_bytes 4 = .ok (.iload_n 1, 1) := by decide +kernel
theorem d_U_bytes_5 : decode b_U_bytes 5 = .ok (.invokevirtual 171, 3) := by decide +kernel
theorem d_U_bytes_8 : decode b_U_bytes 8 = .ok (.ifCond .eq 14, 3) := by decide +kernel
theorem d_U_bytes_22 : decode b_U_bytes 22 = .ok (.new 135, 3) := by decide +kernel
theorem d_U_bytes_25 : decode b_U_bytes 25 = .ok (.dup, 1) := by decide +kernel
theorem d_U_bytes_26 : decode b_U_bytes 26 = .ok (.invokespecial 137, 3) := by decide +kernel
theorem d_U_bytes_29 : decode b_U_bytes 29 = .ok (.athrow, 1) := by decide +kernel
abbrev b_U_count : ByteArray := prog_1_method_10_code
abbrev y_U_count : MethodName := ⟨"UnikernelHttp", "count", "(I)I"⟩
theorem d_U_count_0 : decode b_U_count 0 = .ok (.iload_n 1, 1) := by decide +kernel
theorem d_U_count_1 : decode b_U_count 1 = .ok (.tableswitch 108 0 7 #[47, 55, 60, 68, 76, 84, 92, 100], 47) := by decide +kernel
theorem d_U_count_48 : decode b_U_count 48 = .ok (.aload_n 0, 1) := by decide +kernel
theorem d_U_count_49 : decode b_U_count 49 = .ok (.getfield 27, 3) := by decide +kernel
theorem d_U_count_52 : decode b_U_count 52 = .ok (.getfield 90, 3) := by decide +kernel
theorem d_U_count_55 : decode b_U_count 55 = .ok (.ireturn, 1) := by decide +kernel
theorem d_U_count_56 : decode b_U_count 56 = .ok (.aload_n 0, 1) := by decide +kernel
theorem d_U_count_57 : decode b_U_count 57 = .ok (.getfield 143, 3) := by decide +kernel
theorem d_U_count_60 : decode b_U_count 60 = .ok (.ireturn, 1) := by decide +kernel
theorem d_U_count_61 : decode b_U_count 61 = .ok (.aload_n 0, 1) := by decide +kernel
theorem d_U_count_62 : decode b_U_count 62 = .ok (.getfield 50, 3) := by decide +kernel
theorem d_U_count_65 : decode b_U_count 65 = .ok (.getfield 185, 3) := by decide +kernel
theorem d_U_count_68 : decode b_U_count 68 = .ok (.ireturn, 1) := by decide +kernel
theorem d_U_count_69 : decode b_U_count 69 = .ok (.aload_n 0, 1) := by decide +kernel
theorem d_U_count_70 : decode b_U_count 70 = .ok (.getfield 50, 3) := by decide +kernel
theorem d_U_count_73 : decode b_U_count 73 = .ok (.getfield 186, 3) := by decide +kernel
theorem d_U_count_76 : decode b_U_count 76 = .ok (.ireturn, 1) := by decide +kernel
theorem d_U_count_77 : decode b_U_count 77 = .ok (.aload_n 0, 1) := by decide +kernel
theorem d_U_count_78 : decode b_U_count 78 = .ok (.getfield 18, 3) := by decide +kernel
theorem d_U_count_81 : decode b_U_count 81 = .ok (.getfield 189, 3) := by decide +kernel
theorem d_U_count_84 : decode b_U_count 84 = .ok (.ireturn, 1) := by decide +kernel
theorem d_U_count_85 : decode b_U_count 85 = .ok (.aload_n 0, 1) := by decide +kernel
theorem d_U_count_86 : decode b_U_count 86 = .ok (.getfield 34, 3) := by decide +kernel
theorem d_U_count_89 : decode b_U_count 89 = .ok (.getfield 190, 3) := by decide +kernel
theorem d_U_count_92 : decode b_U_count 92 = .ok (.ireturn, 1) := by decide +kernel
theorem d_U_count_93 : decode b_U_count 93 = .ok (.aload_n 0, 1) := by decide +kernel
theorem d_U_count_94 : decode b_U_count 94 = .ok (.getfield 57, 3) := by decide +kernel
theorem d_U_count_97 : decode b_U_count 97 = .ok (.getfield 125, 3) := by decide +kernel
theorem d_U_count_100 : decode b_U_count 100 = .ok (.ireturn, 1) := by decide +kernel
theorem d_U_count_101 : decode b_U_count 101 = .ok (.aload_n 0, 1) := by decide +kernel
theorem d_U_count_102 : decode b_U_count 102 = .ok (.getfield 27, 3) := by decide +kernel
theorem d_U_count_105 : decode b_U_count 105 = .ok (.getfield 191, 3) := by decide +kernel
theorem d_U_count_108 : decode b_U_count 108 = .ok (.ireturn, 1) := by decide +kernel
theorem d_U_count_109 : decode b_U_count 109 = .ok (.new 87, 3) := by decide +kernel
theorem d_U_count_112 : decode b_U_count 112 = .ok (.dup, 1) := by decide +kernel
theorem d_U_count_113 : decode b_U_count 113 = .ok (.invokespecial 89, 3) := by decide +kernel
theorem d_U_count_116 : decode b_U_count 116 = .ok (.athrow, 1) := by decide +kernel
abbrev b_U_connection : ByteArray := prog_1_method_11_code
abbrev y_U_connection : MethodName := ⟨"UnikernelHttp", "connection", "(III)I"⟩
theorem d_U_connection_0 : decode b_U_connection 0 = .ok (.aload_n 0, 1) := by decide +kernel
theorem d_U_connection_1 : decode b_U_connection 1 = .ok (.getfield 50, 3) := by decide +kernel
theorem d_U_connection_4 : decode b_U_connection 4 = .ok (.iload_n 1, 1) := by decide +kernel
theorem d_U_connection_5 : decode b_U_connection 5 = .ok (.iload_n 2, 1) := by decide +kernel
theorem d_U_connection_6 : decode b_U_connection 6 = .ok (.invokevirtual 192, 3) := by decide +kernel
theorem d_U_connection_9 : decode b_U_connection 9 = .ok (.astore 4, 2) := by decide +kernel
theorem d_U_connection_11 : decode b_U_connection 11 = .ok (.aload 4, 2) := by decide +kernel
theorem d_U_connection_13 : decode b_U_connection 13 = .ok (.ifnonnull 11, 3) := by decide +kernel
theorem d_U_connection_16 : decode b_U_connection 16 = .ok (.new 196, 3) := by decide +kernel
theorem d_U_connection_19 : decode b_U_connection 19 = .ok (.dup, 1) := by decide +kernel
theorem d_U_connection_20 : decode b_U_connection 20 = .ok (.invokespecial 198, 3) := by decide +kernel
theorem d_U_connection_23 : decode b_U_connection 23 = .ok (.athrow, 1) := by decide +kernel
set_option maxRecDepth 20000 in
theorem at_89_U {args : Array Value} {s : State} (hT : ux_T s) (hH : ux_H s) : ∀ a ∈ Bundle.ownAtoms0 "UnikernelHttp" 89 "java/lang/IllegalArgumentException" ["java/lang/RuntimeException", "java/lang/Exception"], a.before args s = true := by
  intro a ha
  have ha : a ∈ ([(Jvm.Cond.initialized "java/lang/Throwable"), (Jvm.Cond.superclass "java/lang/Throwable" "java/lang/Object"), (Jvm.Cond.instanceMethod ({ cls := "java/lang/Throwable", name := "fillInStackTrace", desc := "()Ljava/lang/Throwable;" } : Jvm.MethodName)), (Jvm.Cond.codeSync ({ cls := "java/lang/Throwable", name := "fillInStackTrace", desc := "()Ljava/lang/Throwable;" } : Jvm.MethodName) prog_31_method_18_code (1 : Nat) (Option.some (Jvm.ClassFile.FieldType.object "java/lang/Throwable"))), (Jvm.Cond.instanceMethod ({ cls := "java/lang/Throwable", name := "fillInStackTrace", desc := "(I)Ljava/lang/Throwable;" } : Jvm.MethodName)), (Jvm.Cond.native ({ cls := "java/lang/Throwable", name := "fillInStackTrace", desc := "(I)Ljava/lang/Throwable;" } : Jvm.MethodName)), (Jvm.Cond.instanceMethod ({ cls := "java/lang/Throwable", name := "<init>", desc := "()V" } : Jvm.MethodName)), (Jvm.Cond.code ({ cls := "java/lang/Throwable", name := "<init>", desc := "()V" } : Jvm.MethodName) prog_31_method_1_code (1 : Nat) (Option.none : Option Jvm.ClassFile.FieldType)), (Jvm.Cond.instanceMethod ({ cls := "java/lang/Object", name := "<init>", desc := "()V" } : Jvm.MethodName)), (Jvm.Cond.code ({ cls := "java/lang/Object", name := "<init>", desc := "()V" } : Jvm.MethodName) object_method_1_code (1 : Nat) (Option.none : Option Jvm.ClassFile.FieldType)), (Jvm.Cond.methodLink "java/lang/Throwable" (1 : Nat) ({ cls := "java/lang/Object", name := "<init>", desc := "()V" } : Jvm.MethodName)), (Jvm.Cond.methodLink "java/lang/Throwable" (27 : Nat) ({ cls := "java/lang/Throwable", name := "fillInStackTrace", desc := "()Ljava/lang/Throwable;" } : Jvm.MethodName)), (Jvm.Cond.methodLink "java/lang/Throwable" (202 : Nat) ({ cls := "java/lang/Throwable", name := "fillInStackTrace", desc := "(I)Ljava/lang/Throwable;" } : Jvm.MethodName)), (Jvm.Cond.fieldLink "java/lang/Throwable" (7 : Nat) "java/lang/Throwable" "cause" "Ljava/lang/Throwable;"), (Jvm.Cond.lays "java/lang/Throwable" "java/lang/Throwable" "cause" "Ljava/lang/Throwable;"), (Jvm.Cond.fieldLink "java/lang/Throwable" (17 : Nat) "java/lang/Throwable" "stackTrace" "[Ljava/lang/StackTraceElement;"), (Jvm.Cond.lays "java/lang/Throwable" "java/lang/Throwable" "stackTrace" "[Ljava/lang/StackTraceElement;"), (Jvm.Cond.fieldLink "java/lang/Throwable" (24 : Nat) "java/lang/Throwable" "suppressedExceptions" "Ljava/util/List;"), (Jvm.Cond.lays "java/lang/Throwable" "java/lang/Throwable" "suppressedExceptions" "Ljava/util/List;"), (Jvm.Cond.fieldLink "java/lang/Throwable" (13 : Nat) "java/lang/Throwable" "UNASSIGNED_STACK" "[Ljava/lang/StackTraceElement;"), .laysStatic "java/lang/Throwable" "UNASSIGNED_STACK" "[Ljava/lang/StackTraceElement;", (Jvm.Cond.fieldLink "java/lang/Throwable" (20 : Nat) "java/lang/Throwable" "SUPPRESSED_SENTINEL" "Ljava/util/List;"), .laysStatic "java/lang/Throwable" "SUPPRESSED_SENTINEL" "Ljava/util/List;", (Jvm.Cond.lays "java/lang/Throwable" "java/lang/Throwable" "detailMessage" "Ljava/lang/String;"), (Jvm.Cond.instanceMethod ({ cls := "java/lang/IllegalArgumentException", name := "<init>", desc := "()V" } : Jvm.MethodName)), (Jvm.Cond.code ({ cls := "java/lang/IllegalArgumentException", name := "<init>", desc := "()V" } : Jvm.MethodName) prog_20_method_1_code (1 : Nat) (Option.none : Option Jvm.ClassFile.FieldType)), (Jvm.Cond.methodLink "java/lang/IllegalArgumentException" (1 : Nat) ({ cls := "java/lang/RuntimeException", name := "<init>", desc := "()V" } : Jvm.MethodName)), (Jvm.Cond.instanceMethod ({ cls := "java/lang/RuntimeException", name := "<init>", desc := "()V" } : Jvm.MethodName)), (Jvm.Cond.declares ({ cls := "java/lang/RuntimeException", name := "<init>", desc := "()V" } : Jvm.MethodName)), (Jvm.Cond.instanceMethod ({ cls := "java/lang/RuntimeException", name := "<init>", desc := "()V" } : Jvm.MethodName)), (Jvm.Cond.code ({ cls := "java/lang/RuntimeException", name := "<init>", desc := "()V" } : Jvm.MethodName) prog_25_method_1_code (1 : Nat) (Option.none : Option Jvm.ClassFile.FieldType)), (Jvm.Cond.methodLink "java/lang/RuntimeException" (1 : Nat) ({ cls := "java/lang/Exception", name := "<init>", desc := "()V" } : Jvm.MethodName)), (Jvm.Cond.instanceMethod ({ cls := "java/lang/Exception", name := "<init>", desc := "()V" } : Jvm.MethodName)), (Jvm.Cond.declares ({ cls := "java/lang/Exception", name := "<init>", desc := "()V" } : Jvm.MethodName)), (Jvm.Cond.instanceMethod ({ cls := "java/lang/Exception", name := "<init>", desc := "()V" } : Jvm.MethodName)), (Jvm.Cond.code ({ cls := "java/lang/Exception", name := "<init>", desc := "()V" } : Jvm.MethodName) prog_19_method_1_code (1 : Nat) (Option.none : Option Jvm.ClassFile.FieldType)), (Jvm.Cond.methodLink "java/lang/Exception" (1 : Nat) ({ cls := "java/lang/Throwable", name := "<init>", desc := "()V" } : Jvm.MethodName)), (Jvm.Cond.instanceMethod ({ cls := "java/lang/Throwable", name := "<init>", desc := "()V" } : Jvm.MethodName)), (Jvm.Cond.declares ({ cls := "java/lang/Throwable", name := "<init>", desc := "()V" } : Jvm.MethodName)), (Jvm.Cond.methodLink "UnikernelHttp" (89 : Nat) ({ cls := "java/lang/IllegalArgumentException", name := "<init>", desc := "()V" } : Jvm.MethodName)), (Jvm.Cond.instantiable "java/lang/IllegalArgumentException" (6 : Nat)), (Jvm.Cond.castable "java/lang/IllegalArgumentException" "java/lang/IllegalArgumentException"), (Jvm.Cond.selects "java/lang/IllegalArgumentException" ({ cls := "java/lang/Throwable", name := "fillInStackTrace", desc := "(I)Ljava/lang/Throwable;" } : Jvm.MethodName) ({ cls := "java/lang/Throwable", name := "fillInStackTrace", desc := "(I)Ljava/lang/Throwable;" } : Jvm.MethodName)), (Jvm.Cond.selects "java/lang/IllegalArgumentException" ({ cls := "java/lang/Throwable", name := "fillInStackTrace", desc := "()Ljava/lang/Throwable;" } : Jvm.MethodName) ({ cls := "java/lang/Throwable", name := "fillInStackTrace", desc := "()Ljava/lang/Throwable;" } : Jvm.MethodName)), (Jvm.Cond.lays "java/lang/IllegalArgumentException" "java/lang/Throwable" "cause" "Ljava/lang/Throwable;"), (Jvm.Cond.lays "java/lang/IllegalArgumentException" "java/lang/Throwable" "stackTrace" "[Ljava/lang/StackTraceElement;"), (Jvm.Cond.lays "java/lang/IllegalArgumentException" "java/lang/Throwable" "suppressedExceptions" "Ljava/util/List;"), (Jvm.Cond.lays "java/lang/IllegalArgumentException" "java/lang/Throwable" "detailMessage" "Ljava/lang/String;"), .isRef (.static "java/lang/Throwable" "UNASSIGNED_STACK" "[Ljava/lang/StackTraceElement;"), .isRef (.static "java/lang/Throwable" "SUPPRESSED_SENTINEL" "Ljava/util/List;"), (Jvm.Cond.fieldLink "java/lang/Throwable" (198 : Nat) "java/lang/Throwable" "backtrace" "Ljava/lang/Object;"), (Jvm.Cond.lays "java/lang/Throwable" "java/lang/Throwable" "backtrace" "Ljava/lang/Object;"), (Jvm.Cond.lays "java/lang/IllegalArgumentException" "java/lang/Throwable" "backtrace" "Ljava/lang/Object;")] : List Cond) := ha
  simp only [List.mem_cons, List.not_mem_nil, or_false] at ha
  rcases ha with rfl | rfl | rfl | rfl | rfl | rfl | rfl | rfl | rfl | rfl | rfl | rfl | rfl | rfl | rfl | rfl | rfl | rfl | rfl | rfl | rfl | rfl | rfl | rfl | rfl | rfl | rfl | rfl | rfl | rfl | rfl | rfl | rfl | rfl | rfl | rfl | rfl | rfl | rfl | rfl | rfl | rfl | rfl | rfl | rfl | rfl | rfl | rfl | rfl | rfl | rfl | rfl | rfl
  · exact ux_T_at hT tw_15 rfl
  · exact ux_T_at hT tw_516 rfl
  · exact ux_T_at hT tw_525 rfl
  · exact ux_T_at hT tw_531 rfl
  · exact ux_T_at hT tw_534 rfl
  · exact ux_T_at hT tw_536 rfl
  · exact ux_T_at hT tw_517 rfl
  · exact ux_T_at hT tw_518 rfl
  · exact ux_T_at hT tw_40 rfl
  · exact ux_T_at hT tw_41 rfl
  · exact ux_T_at hT tw_519 rfl
  · exact ux_T_at hT tw_524 rfl
  · exact ux_T_at hT tw_532 rfl
  · exact ux_T_at hT tw_549 rfl
  · exact ux_T_at hT tw_506 rfl
  · exact ux_T_at hT tw_550 rfl
  · exact ux_T_at hT tw_508 rfl
  · exact ux_T_at hT tw_551 rfl
  · exact ux_T_at hT tw_510 rfl
  · exact ux_T_at hT tw_520 rfl
  · exact hH _ (by simp [ux_W4]) _
  · exact ux_T_at hT tw_522 rfl
  · exact hH _ (by simp [ux_W4]) _
  · exact ux_T_at hT tw_512 rfl
  · exact ux_T_at hT tw_581 rfl
  · exact ux_T_at hT tw_582 rfl
  · exact ux_T_at hT tw_583 rfl
  · exact ux_T_at hT tw_541 rfl
  · exact ux_T_at hT tw_497 rfl
  · exact ux_T_at hT tw_541 rfl
  · exact ux_T_at hT tw_542 rfl
  · exact ux_T_at hT tw_543 rfl
  · exact ux_T_at hT tw_544 rfl
  · exact ux_T_at hT tw_499 rfl
  · exact ux_T_at hT tw_544 rfl
  · exact ux_T_at hT tw_545 rfl
  · exact ux_T_at hT tw_546 rfl
  · exact ux_T_at hT tw_517 rfl
  · exact ux_T_at hT tw_501 rfl
  · exact ux_T_at hT tw_580 rfl
  · exact ux_T_at hT tw_572 rfl
  · exact ux_T_at hT tw_573 rfl
  · exact ux_T_at hT tw_574 rfl
  · exact ux_T_at hT tw_528 rfl
  · exact ux_T_at hT tw_575 rfl
  · exact ux_T_at hT tw_576 rfl
  · exact ux_T_at hT tw_577 rfl
  · exact ux_T_at hT tw_578 rfl
  · exact hH _ (by simp [ux_W4]) _
  · exact hH _ (by simp [ux_W4]) _
  · exact ux_T_at hT tw_515 rfl
  · exact ux_T_at hT tw_514 rfl
  · exact ux_T_at hT tw_579 rfl
set_option maxRecDepth 20000 in
theorem at_137_U {args : Array Value} {s : State} (hT : ux_T s) (hH : ux_H s) : ∀ a ∈ Bundle.ownAtoms0 "UnikernelHttp" 137 "java/lang/IndexOutOfBoundsException" ["java/lang/RuntimeException", "java/lang/Exception"], a.before args s = true := by
  intro a ha
  have ha : a ∈ ([(Jvm.Cond.initialized "java/lang/Throwable"), (Jvm.Cond.superclass "java/lang/Throwable" "java/lang/Object"), (Jvm.Cond.instanceMethod ({ cls := "java/lang/Throwable", name := "fillInStackTrace", desc := "()Ljava/lang/Throwable;" } : Jvm.MethodName)), (Jvm.Cond.codeSync ({ cls := "java/lang/Throwable", name := "fillInStackTrace", desc := "()Ljava/lang/Throwable;" } : Jvm.MethodName) prog_31_method_18_code (1 : Nat) (Option.some (Jvm.ClassFile.FieldType.object "java/lang/Throwable"))), (Jvm.Cond.instanceMethod ({ cls := "java/lang/Throwable", name := "fillInStackTrace", desc := "(I)Ljava/lang/Throwable;" } : Jvm.MethodName)), (Jvm.Cond.native ({ cls := "java/lang/Throwable", name := "fillInStackTrace", desc := "(I)Ljava/lang/Throwable;" } : Jvm.MethodName)), (Jvm.Cond.instanceMethod ({ cls := "java/lang/Throwable", name := "<init>", desc := "()V" } : Jvm.MethodName)), (Jvm.Cond.code ({ cls := "java/lang/Throwable", name := "<init>", desc := "()V" } : Jvm.MethodName) prog_31_method_1_code (1 : Nat) (Option.none : Option Jvm.ClassFile.FieldType)), (Jvm.Cond.instanceMethod ({ cls := "java/lang/Object", name := "<init>", desc := "()V" } : Jvm.MethodName)), (Jvm.Cond.code ({ cls := "java/lang/Object", name := "<init>", desc := "()V" } : Jvm.MethodName) object_method_1_code (1 : Nat) (Option.none : Option Jvm.ClassFile.FieldType)), (Jvm.Cond.methodLink "java/lang/Throwable" (1 : Nat) ({ cls := "java/lang/Object", name := "<init>", desc := "()V" } : Jvm.MethodName)), (Jvm.Cond.methodLink "java/lang/Throwable" (27 : Nat) ({ cls := "java/lang/Throwable", name := "fillInStackTrace", desc := "()Ljava/lang/Throwable;" } : Jvm.MethodName)), (Jvm.Cond.methodLink "java/lang/Throwable" (202 : Nat) ({ cls := "java/lang/Throwable", name := "fillInStackTrace", desc := "(I)Ljava/lang/Throwable;" } : Jvm.MethodName)), (Jvm.Cond.fieldLink "java/lang/Throwable" (7 : Nat) "java/lang/Throwable" "cause" "Ljava/lang/Throwable;"), (Jvm.Cond.lays "java/lang/Throwable" "java/lang/Throwable" "cause" "Ljava/lang/Throwable;"), (Jvm.Cond.fieldLink "java/lang/Throwable" (17 : Nat) "java/lang/Throwable" "stackTrace" "[Ljava/lang/StackTraceElement;"), (Jvm.Cond.lays "java/lang/Throwable" "java/lang/Throwable" "stackTrace" "[Ljava/lang/StackTraceElement;"), (Jvm.Cond.fieldLink "java/lang/Throwable" (24 : Nat) "java/lang/Throwable" "suppressedExceptions" "Ljava/util/List;"), (Jvm.Cond.lays "java/lang/Throwable" "java/lang/Throwable" "suppressedExceptions" "Ljava/util/List;"), (Jvm.Cond.fieldLink "java/lang/Throwable" (13 : Nat) "java/lang/Throwable" "UNASSIGNED_STACK" "[Ljava/lang/StackTraceElement;"), .laysStatic "java/lang/Throwable" "UNASSIGNED_STACK" "[Ljava/lang/StackTraceElement;", (Jvm.Cond.fieldLink "java/lang/Throwable" (20 : Nat) "java/lang/Throwable" "SUPPRESSED_SENTINEL" "Ljava/util/List;"), .laysStatic "java/lang/Throwable" "SUPPRESSED_SENTINEL" "Ljava/util/List;", (Jvm.Cond.lays "java/lang/Throwable" "java/lang/Throwable" "detailMessage" "Ljava/lang/String;"), (Jvm.Cond.instanceMethod ({ cls := "java/lang/IndexOutOfBoundsException", name := "<init>", desc := "()V" } : Jvm.MethodName)), (Jvm.Cond.code ({ cls := "java/lang/IndexOutOfBoundsException", name := "<init>", desc := "()V" } : Jvm.MethodName) prog_22_method_1_code (1 : Nat) (Option.none : Option Jvm.ClassFile.FieldType)), (Jvm.Cond.methodLink "java/lang/IndexOutOfBoundsException" (1 : Nat) ({ cls := "java/lang/RuntimeException", name := "<init>", desc := "()V" } : Jvm.MethodName)), (Jvm.Cond.instanceMethod ({ cls := "java/lang/RuntimeException", name := "<init>", desc := "()V" } : Jvm.MethodName)), (Jvm.Cond.declares ({ cls := "java/lang/RuntimeException", name := "<init>", desc := "()V" } : Jvm.MethodName)), (Jvm.Cond.instanceMethod ({ cls := "java/lang/RuntimeException", name := "<init>", desc := "()V" } : Jvm.MethodName)), (Jvm.Cond.code ({ cls := "java/lang/RuntimeException", name := "<init>", desc := "()V" } : Jvm.MethodName) prog_25_method_1_code (1 : Nat) (Option.none : Option Jvm.ClassFile.FieldType)), (Jvm.Cond.methodLink "java/lang/RuntimeException" (1 : Nat) ({ cls := "java/lang/Exception", name := "<init>", desc := "()V" } : Jvm.MethodName)), (Jvm.Cond.instanceMethod ({ cls := "java/lang/Exception", name := "<init>", desc := "()V" } : Jvm.MethodName)), (Jvm.Cond.declares ({ cls := "java/lang/Exception", name := "<init>", desc := "()V" } : Jvm.MethodName)), (Jvm.Cond.instanceMethod ({ cls := "java/lang/Exception", name := "<init>", desc := "()V" } : Jvm.MethodName)), (Jvm.Cond.code ({ cls := "java/lang/Exception", name := "<init>", desc := "()V" } : Jvm.MethodName) prog_19_method_1_code (1 : Nat) (Option.none : Option Jvm.ClassFile.FieldType)), (Jvm.Cond.methodLink "java/lang/Exception" (1 : Nat) ({ cls := "java/lang/Throwable", name := "<init>", desc := "()V" } : Jvm.MethodName)), (Jvm.Cond.instanceMethod ({ cls := "java/lang/Throwable", name := "<init>", desc := "()V" } : Jvm.MethodName)), (Jvm.Cond.declares ({ cls := "java/lang/Throwable", name := "<init>", desc := "()V" } : Jvm.MethodName)), (Jvm.Cond.methodLink "UnikernelHttp" (137 : Nat) ({ cls := "java/lang/IndexOutOfBoundsException", name := "<init>", desc := "()V" } : Jvm.MethodName)), (Jvm.Cond.instantiable "java/lang/IndexOutOfBoundsException" (6 : Nat)), (Jvm.Cond.castable "java/lang/IndexOutOfBoundsException" "java/lang/IndexOutOfBoundsException"), (Jvm.Cond.selects "java/lang/IndexOutOfBoundsException" ({ cls := "java/lang/Throwable", name := "fillInStackTrace", desc := "(I)Ljava/lang/Throwable;" } : Jvm.MethodName) ({ cls := "java/lang/Throwable", name := "fillInStackTrace", desc := "(I)Ljava/lang/Throwable;" } : Jvm.MethodName)), (Jvm.Cond.selects "java/lang/IndexOutOfBoundsException" ({ cls := "java/lang/Throwable", name := "fillInStackTrace", desc := "()Ljava/lang/Throwable;" } : Jvm.MethodName) ({ cls := "java/lang/Throwable", name := "fillInStackTrace", desc := "()Ljava/lang/Throwable;" } : Jvm.MethodName)), (Jvm.Cond.lays "java/lang/IndexOutOfBoundsException" "java/lang/Throwable" "cause" "Ljava/lang/Throwable;"), (Jvm.Cond.lays "java/lang/IndexOutOfBoundsException" "java/lang/Throwable" "stackTrace" "[Ljava/lang/StackTraceElement;"), (Jvm.Cond.lays "java/lang/IndexOutOfBoundsException" "java/lang/Throwable" "suppressedExceptions" "Ljava/util/List;"), (Jvm.Cond.lays "java/lang/IndexOutOfBoundsException" "java/lang/Throwable" "detailMessage" "Ljava/lang/String;"), .isRef (.static "java/lang/Throwable" "UNASSIGNED_STACK" "[Ljava/lang/StackTraceElement;"), .isRef (.static "java/lang/Throwable" "SUPPRESSED_SENTINEL" "Ljava/util/List;"), (Jvm.Cond.fieldLink "java/lang/Throwable" (198 : Nat) "java/lang/Throwable" "backtrace" "Ljava/lang/Object;"), (Jvm.Cond.lays "java/lang/Throwable" "java/lang/Throwable" "backtrace" "Ljava/lang/Object;"), (Jvm.Cond.lays "java/lang/IndexOutOfBoundsException" "java/lang/Throwable" "backtrace" "Ljava/lang/Object;")] : List Cond) := ha
  simp only [List.mem_cons, List.not_mem_nil, or_false] at ha
  rcases ha with rfl | rfl | rfl | rfl | rfl | rfl | rfl | rfl | rfl | rfl | rfl | rfl | rfl | rfl | rfl | rfl | rfl | rfl | rfl | rfl | rfl | rfl | rfl | rfl | rfl | rfl | rfl | rfl | rfl | rfl | rfl | rfl | rfl | rfl | rfl | rfl | rfl | rfl | rfl | rfl | rfl | rfl | rfl | rfl | rfl | rfl | rfl | rfl | rfl | rfl | rfl | rfl | rfl
  · exact ux_T_at hT tw_15 rfl
  · exact ux_T_at hT tw_516 rfl
  · exact ux_T_at hT tw_525 rfl
  · exact ux_T_at hT tw_531 rfl
  · exact ux_T_at hT tw_534 rfl
  · exact ux_T_at hT tw_536 rfl
  · exact ux_T_at hT tw_517 rfl
  · exact ux_T_at hT tw_518 rfl
  · exact ux_T_at hT tw_40 rfl
  · exact ux_T_at hT tw_41 rfl
  · exact ux_T_at hT tw_519 rfl
  · exact ux_T_at hT tw_524 rfl
  · exact ux_T_at hT tw_532 rfl
  · exact ux_T_at hT tw_549 rfl
  · exact ux_T_at hT tw_506 rfl
  · exact ux_T_at hT tw_550 rfl
  · exact ux_T_at hT tw_508 rfl
  · exact ux_T_at hT tw_551 rfl
  · exact ux_T_at hT tw_510 rfl
  · exact ux_T_at hT tw_520 rfl
  · exact hH _ (by simp [ux_W4]) _
  · exact ux_T_at hT tw_522 rfl
  · exact hH _ (by simp [ux_W4]) _
  · exact ux_T_at hT tw_512 rfl
  · exact ux_T_at hT tw_1375 rfl
  · exact ux_T_at hT tw_1376 rfl
  · exact ux_T_at hT tw_1377 rfl
  · exact ux_T_at hT tw_541 rfl
  · exact ux_T_at hT tw_497 rfl
  · exact ux_T_at hT tw_541 rfl
  · exact ux_T_at hT tw_542 rfl
  · exact ux_T_at hT tw_543 rfl
  · exact ux_T_at hT tw_544 rfl
  · exact ux_T_at hT tw_499 rfl
  · exact ux_T_at hT tw_544 rfl
  · exact ux_T_at hT tw_545 rfl
  · exact ux_T_at hT tw_546 rfl
  · exact ux_T_at hT tw_517 rfl
  · exact ux_T_at hT tw_501 rfl
  · exact ux_T_at hT tw_1374 rfl
  · exact ux_T_at hT tw_1366 rfl
  · exact ux_T_at hT tw_1367 rfl
  · exact ux_T_at hT tw_1368 rfl
  · exact ux_T_at hT tw_529 rfl
  · exact ux_T_at hT tw_1369 rfl
  · exact ux_T_at hT tw_1370 rfl
  · exact ux_T_at hT tw_1371 rfl
  · exact ux_T_at hT tw_1372 rfl
  · exact hH _ (by simp [ux_W4]) _
  · exact hH _ (by simp [ux_W4]) _
  · exact ux_T_at hT tw_515 rfl
  · exact ux_T_at hT tw_514 rfl
  · exact ux_T_at hT tw_1373 rfl
set_option maxRecDepth 20000 in
theorem at_198_U {args : Array Value} {s : State} (hT : ux_T s) (hH : ux_H s) : ∀ a ∈ Bundle.ownAtoms0 "UnikernelHttp" 198 "java/util/NoSuchElementException" ["java/lang/RuntimeException", "java/lang/Exception"], a.before args s = true := by
  intro a ha
  have ha : a ∈ ([(Jvm.Cond.initialized "java/lang/Throwable"), (Jvm.Cond.superclass "java/lang/Throwable" "java/lang/Object"), (Jvm.Cond.instanceMethod ({ cls := "java/lang/Throwable", name := "fillInStackTrace", desc := "()Ljava/lang/Throwable;" } : Jvm.MethodName)), (Jvm.Cond.codeSync ({ cls := "java/lang/Throwable", name := "fillInStackTrace", desc := "()Ljava/lang/Throwable;" } : Jvm.MethodName) prog_31_method_18_code (1 : Nat) (Option.some (Jvm.ClassFile.FieldType.object "java/lang/Throwable"))), (Jvm.Cond.instanceMethod ({ cls := "java/lang/Throwable", name := "fillInStackTrace", desc := "(I)Ljava/lang/Throwable;" } : Jvm.MethodName)), (Jvm.Cond.native ({ cls := "java/lang/Throwable", name := "fillInStackTrace", desc := "(I)Ljava/lang/Throwable;" } : Jvm.MethodName)), (Jvm.Cond.instanceMethod ({ cls := "java/lang/Throwable", name := "<init>", desc := "()V" } : Jvm.MethodName)), (Jvm.Cond.code ({ cls := "java/lang/Throwable", name := "<init>", desc := "()V" } : Jvm.MethodName) prog_31_method_1_code (1 : Nat) (Option.none : Option Jvm.ClassFile.FieldType)), (Jvm.Cond.instanceMethod ({ cls := "java/lang/Object", name := "<init>", desc := "()V" } : Jvm.MethodName)), (Jvm.Cond.code ({ cls := "java/lang/Object", name := "<init>", desc := "()V" } : Jvm.MethodName) object_method_1_code (1 : Nat) (Option.none : Option Jvm.ClassFile.FieldType)), (Jvm.Cond.methodLink "java/lang/Throwable" (1 : Nat) ({ cls := "java/lang/Object", name := "<init>", desc := "()V" } : Jvm.MethodName)), (Jvm.Cond.methodLink "java/lang/Throwable" (27 : Nat) ({ cls := "java/lang/Throwable", name := "fillInStackTrace", desc := "()Ljava/lang/Throwable;" } : Jvm.MethodName)), (Jvm.Cond.methodLink "java/lang/Throwable" (202 : Nat) ({ cls := "java/lang/Throwable", name := "fillInStackTrace", desc := "(I)Ljava/lang/Throwable;" } : Jvm.MethodName)), (Jvm.Cond.fieldLink "java/lang/Throwable" (7 : Nat) "java/lang/Throwable" "cause" "Ljava/lang/Throwable;"), (Jvm.Cond.lays "java/lang/Throwable" "java/lang/Throwable" "cause" "Ljava/lang/Throwable;"), (Jvm.Cond.fieldLink "java/lang/Throwable" (17 : Nat) "java/lang/Throwable" "stackTrace" "[Ljava/lang/StackTraceElement;"), (Jvm.Cond.lays "java/lang/Throwable" "java/lang/Throwable" "stackTrace" "[Ljava/lang/StackTraceElement;"), (Jvm.Cond.fieldLink "java/lang/Throwable" (24 : Nat) "java/lang/Throwable" "suppressedExceptions" "Ljava/util/List;"), (Jvm.Cond.lays "java/lang/Throwable" "java/lang/Throwable" "suppressedExceptions" "Ljava/util/List;"), (Jvm.Cond.fieldLink "java/lang/Throwable" (13 : Nat) "java/lang/Throwable" "UNASSIGNED_STACK" "[Ljava/lang/StackTraceElement;"), .laysStatic "java/lang/Throwable" "UNASSIGNED_STACK" "[Ljava/lang/StackTraceElement;", (Jvm.Cond.fieldLink "java/lang/Throwable" (20 : Nat) "java/lang/Throwable" "SUPPRESSED_SENTINEL" "Ljava/util/List;"), .laysStatic "java/lang/Throwable" "SUPPRESSED_SENTINEL" "Ljava/util/List;", (Jvm.Cond.lays "java/lang/Throwable" "java/lang/Throwable" "detailMessage" "Ljava/lang/String;"), (Jvm.Cond.instanceMethod ({ cls := "java/util/NoSuchElementException", name := "<init>", desc := "()V" } : Jvm.MethodName)), (Jvm.Cond.code ({ cls := "java/util/NoSuchElementException", name := "<init>", desc := "()V" } : Jvm.MethodName) prog_33_method_1_code (1 : Nat) (Option.none : Option Jvm.ClassFile.FieldType)), (Jvm.Cond.methodLink "java/util/NoSuchElementException" (1 : Nat) ({ cls := "java/lang/RuntimeException", name := "<init>", desc := "()V" } : Jvm.MethodName)), (Jvm.Cond.instanceMethod ({ cls := "java/lang/RuntimeException", name := "<init>", desc := "()V" } : Jvm.MethodName)), (Jvm.Cond.declares ({ cls := "java/lang/RuntimeException", name := "<init>", desc := "()V" } : Jvm.MethodName)), (Jvm.Cond.instanceMethod ({ cls := "java/lang/RuntimeException", name := "<init>", desc := "()V" } : Jvm.MethodName)), (Jvm.Cond.code ({ cls := "java/lang/RuntimeException", name := "<init>", desc := "()V" } : Jvm.MethodName) prog_25_method_1_code (1 : Nat) (Option.none : Option Jvm.ClassFile.FieldType)), (Jvm.Cond.methodLink "java/lang/RuntimeException" (1 : Nat) ({ cls := "java/lang/Exception", name := "<init>", desc := "()V" } : Jvm.MethodName)), (Jvm.Cond.instanceMethod ({ cls := "java/lang/Exception", name := "<init>", desc := "()V" } : Jvm.MethodName)), (Jvm.Cond.declares ({ cls := "java/lang/Exception", name := "<init>", desc := "()V" } : Jvm.MethodName)), (Jvm.Cond.instanceMethod ({ cls := "java/lang/Exception", name := "<init>", desc := "()V" } : Jvm.MethodName)), (Jvm.Cond.code ({ cls := "java/lang/Exception", name := "<init>", desc := "()V" } : Jvm.MethodName) prog_19_method_1_code (1 : Nat) (Option.none : Option Jvm.ClassFile.FieldType)), (Jvm.Cond.methodLink "java/lang/Exception" (1 : Nat) ({ cls := "java/lang/Throwable", name := "<init>", desc := "()V" } : Jvm.MethodName)), (Jvm.Cond.instanceMethod ({ cls := "java/lang/Throwable", name := "<init>", desc := "()V" } : Jvm.MethodName)), (Jvm.Cond.declares ({ cls := "java/lang/Throwable", name := "<init>", desc := "()V" } : Jvm.MethodName)), (Jvm.Cond.methodLink "UnikernelHttp" (198 : Nat) ({ cls := "java/util/NoSuchElementException", name := "<init>", desc := "()V" } : Jvm.MethodName)), (Jvm.Cond.instantiable "java/util/NoSuchElementException" (6 : Nat)), (Jvm.Cond.castable "java/util/NoSuchElementException" "java/util/NoSuchElementException"), (Jvm.Cond.selects "java/util/NoSuchElementException" ({ cls := "java/lang/Throwable", name := "fillInStackTrace", desc := "(I)Ljava/lang/Throwable;" } : Jvm.MethodName) ({ cls := "java/lang/Throwable", name := "fillInStackTrace", desc := "(I)Ljava/lang/Throwable;" } : Jvm.MethodName)), (Jvm.Cond.selects "java/util/NoSuchElementException" ({ cls := "java/lang/Throwable", name := "fillInStackTrace", desc := "()Ljava/lang/Throwable;" } : Jvm.MethodName) ({ cls := "java/lang/Throwable", name := "fillInStackTrace", desc := "()Ljava/lang/Throwable;" } : Jvm.MethodName)), (Jvm.Cond.lays "java/util/NoSuchElementException" "java/lang/Throwable" "cause" "Ljava/lang/Throwable;"), (Jvm.Cond.lays "java/util/NoSuchElementException" "java/lang/Throwable" "stackTrace" "[Ljava/lang/StackTraceElement;"), (Jvm.Cond.lays "java/util/NoSuchElementException" "java/lang/Throwable" "suppressedExceptions" "Ljava/util/List;"), (Jvm.Cond.lays "java/util/NoSuchElementException" "java/lang/Throwable" "detailMessage" "Ljava/lang/String;"), .isRef (.static "java/lang/Throwable" "UNASSIGNED_STACK" "[Ljava/lang/StackTraceElement;"), .isRef (.static "java/lang/Throwable" "SUPPRESSED_SENTINEL" "Ljava/util/List;"), (Jvm.Cond.fieldLink "java/lang/Throwable" (198 : Nat) "java/lang/Throwable" "backtrace" "Ljava/lang/Object;"), (Jvm.Cond.lays "java/lang/Throwable" "java/lang/Throwable" "backtrace" "Ljava/lang/Object;"), (Jvm.Cond.lays "java/util/NoSuchElementException" "java/lang/Throwable" "backtrace" "Ljava/lang/Object;")] : List Cond) := ha
  simp only [List.mem_cons, List.not_mem_nil, or_false] at ha
  rcases ha with rfl | rfl | rfl | rfl | rfl | rfl | rfl | rfl | rfl | rfl | rfl | rfl | rfl | rfl | rfl | rfl | rfl | rfl | rfl | rfl | rfl | rfl | rfl | rfl | rfl | rfl | rfl | rfl | rfl | rfl | rfl | rfl | rfl | rfl | rfl | rfl | rfl | rfl | rfl | rfl | rfl | rfl | rfl | rfl | rfl | rfl | rfl | rfl | rfl | rfl | rfl | rfl | rfl
  · exact ux_T_at hT tw_15 rfl
  · exact ux_T_at hT tw_516 rfl
  · exact ux_T_at hT tw_525 rfl
  · exact ux_T_at hT tw_531 rfl
  · exact ux_T_at hT tw_534 rfl
  · exact ux_T_at hT tw_536 rfl
  · exact ux_T_at hT tw_517 rfl
  · exact ux_T_at hT tw_518 rfl
  · exact ux_T_at hT tw_40 rfl
  · exact ux_T_at hT tw_41 rfl
  · exact ux_T_at hT tw_519 rfl
  · exact ux_T_at hT tw_524 rfl
  · exact ux_T_at hT tw_532 rfl
  · exact ux_T_at hT tw_549 rfl
  · exact ux_T_at hT tw_506 rfl
  · exact ux_T_at hT tw_550 rfl
  · exact ux_T_at hT tw_508 rfl
  · exact ux_T_at hT tw_551 rfl
  · exact ux_T_at hT tw_510 rfl
  · exact ux_T_at hT tw_520 rfl
  · exact hH _ (by simp [ux_W4]) _
  · exact ux_T_at hT tw_522 rfl
  · exact hH _ (by simp [ux_W4]) _
  · exact ux_T_at hT tw_512 rfl
  · exact ux_T_at hT tw_1473 rfl
  · exact ux_T_at hT tw_1474 rfl
  · exact ux_T_at hT tw_1475 rfl
  · exact ux_T_at hT tw_541 rfl
  · exact ux_T_at hT tw_497 rfl
  · exact ux_T_at hT tw_541 rfl
  · exact ux_T_at hT tw_542 rfl
  · exact ux_T_at hT tw_543 rfl
  · exact ux_T_at hT tw_544 rfl
  · exact ux_T_at hT tw_499 rfl
  · exact ux_T_at hT tw_544 rfl
  · exact ux_T_at hT tw_545 rfl
  · exact ux_T_at hT tw_546 rfl
  · exact ux_T_at hT tw_517 rfl
  · exact ux_T_at hT tw_501 rfl
  · exact ux_T_at hT tw_1472 rfl
  · exact ux_T_at hT tw_1464 rfl
  · exact ux_T_at hT tw_1465 rfl
  · exact ux_T_at hT tw_1466 rfl
  · exact ux_T_at hT tw_530 rfl
  · exact ux_T_at hT tw_1467 rfl
  · exact ux_T_at hT tw_1468 rfl
  · exact ux_T_at hT tw_1469 rfl
  · exact ux_T_at hT tw_1470 rfl
  · exact hH _ (by simp [ux_W4]) _
  · exact hH _ (by simp [ux_W4]) _
  · exact ux_T_at hT tw_515 rfl
  · exact ux_T_at hT tw_514 rfl
  · exact ux_T_at hT tw_1471 rfl
theorem ux_l1 : (1 : Int32).toInt = 1 := by decide
theorem ux_l64 : (64 : Int32).toInt = 64 := by decide
theorem ux_l100000 : (100000 : Int32).toInt = 100000 := by decide
set_option maxHeartbeats 4000000 in
set_option maxRecDepth 100000 in
theorem c_U_feed (l : Launch) (dC : Nat → ClassId) (dI : Nat → Nat → Nat) (h0 : Nat) (row : Nat) (nb : Nat) (wi : Nat) (ga : Nat) (sg : Nat) (tc : Nat) (st : Nat) (hp : Nat) (ec : Nat) (cB : ClassId) (p0 : Int32) (p1 : Int32) (p2 : Int32) (p3 : Int32) (p4 : Int32) (sz : Nat) : Met l y_U_feed [Cond.code y_U_feed b_U_feed 6 (some .int)] ({ frames := 100, cells := 0, slots := 0, locals := 1500 }) (ux_Pc [.ref h0, .int p0, .int p1, .int p2, .int p3, .int p4] (dC, dI) cls [(h0, .inr (0, [.ref row, .int 0, .int 0, .ref nb, .ref wi, .ref ga, .ref sg, .ref tc, .ref st, .ref hp, .ref ec, .ref row, .int 0, .int 0])), (row, .inl (cB, 2000, .inl (fun _ => 0)))] [(cB, .byte)] sz) (va_Qi (fun (r : Int32) (_ : Unit) => r = 20) (fun (_ : Unit) (t : State) => ux_B (dC, dI) cls (va_A [(h0, .inr (0, [.ref row, .int 0, .int 0, .ref nb, .ref wi, .ref ga, .ref sg, .ref tc, .ref st, .ref hp, .ref ec, .ref row, .int 0, .int 0])), (row, .inl (cB, 2000, .inl (fun _ => 0)))] sz) [] [] t) (va_A [(h0, .inr (0, [.ref row, .int 0, .int 0, .ref nb, .ref wi, .ref ga, .ref sg, .ref tc, .ref st, .ref hp, .ref ec, .ref row, .int 0, .int 0])), (row, .inl (cB, 2000, .inl (fun _ => 0)))] sz)) 0 0 (va_A [(h0, .inr (0, [.ref row, .int 0, .int 0, .ref nb, .ref wi, .ref ga, .ref sg, .ref tc, .ref st, .ref hp, .ref ec, .ref row, .int 0, .int 0])), (row, .inl (cB, 2000, .inl (fun _ => 0)))] sz) := by
  refine Met.ofW (cc := b_U_feed) (maxL := 6) (ret := some .int) (by decide) rfl ?_
  intro p e s m args below meth c s₁ B hml hv
  obtain ⟨rfl, hsz, hP, hK, hD0, hT⟩ := hv
  have hx := B.exec
  have hb := B.bytes
  have hr := B.returns
  have hown : s.vm.findClass "UnikernelHttp" = some m.cls := findClass_of_methodNamed B.named
  have hlocks := B.notSynchronized
  subst hsz
  have hD := hD0.self (sz := s.heap.size)
  have hns := ux_ns hP
  generalize hAe : va_A [(h0, .inr (0, [.ref row, .int 0, .int 0, .ref nb, .ref wi, .ref ga, .ref sg, .ref tc, .ref st, .ref hp, .ref ec, .ref row, .int 0, .int 0])), (row, .inl (cB, 2000, .inl (fun _ => 0)))] s.heap.size = A at hD hns ⊢
  have hA : ∀ q : Nat, s.heap.size ≤ q → A q := fun q h => by rw [← hAe]; exact Or.inr h
  have hS : va_S A s.heap s.heap [] := va_S.rf
  have hl := lv_entry ([.ref h0, .int p0, .int p1, .int p2, .int p3, .int p4]) (n := 6) (Nat.le_of_ble_eq_true rfl)
  rw [lg_entry_eq]
  generalize (lg_sl ([.ref h0, .int p0, .int p1, .int p2, .int p3, .int p4]) ++ List.replicate (6 - (lg_sl ([.ref h0, .int p0, .int p1, .int p2, .int p3, .int p4])).length) Slot.unset).toArray = ls at hl ⊢
  have hl : lv_has ls 6 [(0, .ref h0), (1, .int p0), (2, .int p1), (3, .int p2), (4, .int p3), (5, .int p4)] := hl
  have hfx : CallFix p m c b_U_feed 6 s ([.ref h0, .int p0, .int p1, .int p2, .int p3, .int p4] : List Value).toArray [] "UnikernelHttp" := ⟨hx, hb, hml, hown, fun _ h => by cases h⟩
  refine lv_aload_n hx hb d_U_feed_0 rfl (lv_at hl 0 rfl) ?_
  refine va_get (D := (dC, dI)) (ci := 0) (v := .int 0) (C := R_U) (T := F_U) (N := 14) hx hb (u_U hT) (fun _ h => h) hown hK hP 0 rfl rfl 1 (by decide) (ux_T_at hT tw_444 rfl) (fun _ h9 => h9) rfl d_U_feed_1 ?_
  refine lv_bipush (v := 20) hx hb d_U_feed_4 (by decide) ?_
  refine lv_iadd hx hb d_U_feed_6 ?_
  refine lv_topi (fun x1 ex1 => ?_)
  obtain rfl : x1 = 20 := ex1.trans (by decide)
  refine lv_sipush (v := 2000) hx hb d_U_feed_7 (by decide) ?_
  refine lv_icmp_le (tgt := 21) hx hb d_U_feed_10 (by decide) (fun _ => ?_) (fun hc => absurd (by decide) hc)
  refine lv_aload_n hx hb d_U_feed_21 rfl (lv_at hl 0 rfl) ?_
  refine va_get (D := (dC, dI)) (ci := 0) (v := .ref row) (C := R_U) (T := F_U) (N := 14) hx hb (u_U hT) (fun _ h => h) hown hK hP 0 rfl rfl 0 (by decide) (ux_T_at hT tw_443 rfl) (fun _ h9 => h9) rfl d_U_feed_22 ?_
  refine lv_aload_n hx hb d_U_feed_25 rfl (lv_at hl 0 rfl) ?_
  refine va_get (D := (dC, dI)) (ci := 0) (v := .int 0) (C := R_U) (T := F_U) (N := 14) hx hb (u_U hT) (fun _ h => h) hown hK hP 0 rfl rfl 1 (by decide) (ux_T_at hT tw_444 rfl) (fun _ h9 => h9) rfl d_U_feed_26 ?_
  refine lv_iload_n hx hb d_U_feed_29 rfl (lv_at hl 1 rfl) ?_
  have hPc := hP.sub (ws' := [(row, .inl (cB, 2000, .inl (fun _ => 0)))]) [1] rfl
  have hDc := hD.sub (ws' := [(row, .inl (cB, 2000, .inl (fun _ => 0)))]) [1] (by decide) rfl
  have hKc := hK.sub (tys' := [(cB, .byte)]) [0] rfl
  have hFc := va_free (wc := [(row, .inl (cB, 2000, .inl (fun _ => 0)))]) hD hS hA [1] rfl
  have hkc : 0 + 0 ≤ 0 := (Nat.le_of_ble_eq_true rfl)
  refine va_callv (va_runS (As := [.ref row, .int 0, .int p0]) (rest := []) hfx (c_U_putFour_0 l dC dI row cB p0 (fun _ => 0) s.heap.size) ⟨(ux_cb 3 hT tw_562 tw_560 tw_1 rfl rfl (by decide +kernel) ⟨(Nat.le_of_ble_eq_true rfl), (Nat.le_of_ble_eq_true rfl)⟩), (ux_T_at hT tw_561 rfl)⟩ (ux_pre [.ref row, .int 0, .int p0] hT hPc hKc hDc) rfl rfl hl.1 rfl (lv_room (Nat.le_of_ble_eq_true rfl)) d_U_feed_30 ⟨(Nat.le_of_ble_eq_true rfl), (Nat.le_of_ble_eq_true rfl)⟩) hS (fun q _ h => hFc q h) hFc (fun u t H1 locs ht hvm hw hB hz1 hk1 hS => ?_)
  obtain ⟨f3, hP1, hK1, hD1⟩ := hB
  rw [ht] at hP1
  have hK1 := va_K.moved hvm.symm hK1
  obtain ⟨hP, hD⟩ := va_join (wr := [(h0, .inr (0, [.ref row, .int 0, .int 0, .ref nb, .ref wi, .ref ga, .ref sg, .ref tc, .ref st, .ref hp, .ref ec, .ref row, .int 0, .int 0]))]) (w1 := [(row, .inl (cB, 2000, .inl f3))]) hP hD [1] [0] rfl rfl (by decide) (by decide) hk1 hFc hP1 hD1
  have hK := (hK.sub (tys' := [(cB, .byte)]) [0] rfl).app hK1
  generalize H1 = H at hP hS ⊢
  have hP : va_P (dC, dI) cls [(h0, .inr (0, [.ref row, .int 0, .int 0, .ref nb, .ref wi, .ref ga, .ref sg, .ref tc, .ref st, .ref hp, .ref ec, .ref row, .int 0, .int 0])), (row, .inl (cB, 2000, .inl f3))] H := hP
  have hD : va_D A [(h0, .inr (0, [.ref row, .int 0, .int 0, .ref nb, .ref wi, .ref ga, .ref sg, .ref tc, .ref st, .ref hp, .ref ec, .ref row, .int 0, .int 0])), (row, .inl (cB, 2000, .inl f3))] := hD
  have hK : va_K (dC, dI) cls [(cB, .byte), (cB, .byte)] s := hK
  refine lv_aload_n hx hb d_U_feed_33 rfl (lv_at hl 0 rfl) ?_
  refine va_get (D := (dC, dI)) (ci := 0) (v := .ref row) (C := R_U) (T := F_U) (N := 14) hx hb (u_U hT) (fun _ h => h) hown hK hP 0 rfl rfl 0 (by decide) (ux_T_at hT tw_443 rfl) (fun _ h9 => h9) rfl d_U_feed_34 ?_
  refine lv_aload_n hx hb d_U_feed_37 rfl (lv_at hl 0 rfl) ?_
  refine va_get (D := (dC, dI)) (ci := 0) (v := .int 0) (C := R_U) (T := F_U) (N := 14) hx hb (u_U hT) (fun _ h => h) hown hK hP 0 rfl rfl 1 (by decide) (ux_T_at hT tw_444 rfl) (fun _ h9 => h9) rfl d_U_feed_38 ?_
  refine lv_iconst (v := 4) hx hb d_U_feed_41 (by decide) ?_
  refine lv_iadd hx hb d_U_feed_42 ?_
  refine lv_topi (fun x4 ex4 => ?_)
  obtain rfl : x4 = 4 := ex4.trans (by decide)
  refine lv_iload_n hx hb d_U_feed_43 rfl (lv_at hl 2 rfl) ?_
  have hPc := hP.sub (ws' := [(row, .inl (cB, 2000, .inl f3))]) [1] rfl
  have hDc := hD.sub (ws' := [(row, .inl (cB, 2000, .inl f3))]) [1] (by decide) rfl
  have hKc := hK.sub (tys' := [(cB, .byte)]) [0] rfl
  have hFc := va_free (wc := [(row, .inl (cB, 2000, .inl f3))]) hD hS hA [1] rfl
  have hkc : 0 + 0 ≤ 0 := (Nat.le_of_ble_eq_true rfl)
  refine va_callv (va_runS (As := [.ref row, .int 4, .int p1]) (rest := []) hfx (c_U_putFour_4 l dC dI row cB p1 f3 H.size) ⟨(ux_cb 3 hT tw_562 tw_560 tw_1 rfl rfl (by decide +kernel) ⟨(Nat.le_of_ble_eq_true rfl), (Nat.le_of_ble_eq_true rfl)⟩), (ux_T_at hT tw_561 rfl)⟩ (ux_pre [.ref row, .int 4, .int p1] hT hPc hKc hDc) rfl rfl hl.1 rfl (lv_room (Nat.le_of_ble_eq_true rfl)) d_U_feed_44 ⟨(Nat.le_of_ble_eq_true rfl), (Nat.le_of_ble_eq_true rfl)⟩) hS (fun q _ h => hFc q h) hFc (fun u t H1 locs ht hvm hw hB hz1 hk1 hS => ?_)
  obtain ⟨f6, hP1, hK1, hD1⟩ := hB
  rw [ht] at hP1
  have hK1 := va_K.moved hvm.symm hK1
  obtain ⟨hP, hD⟩ := va_join (wr := [(h0, .inr (0, [.ref row, .int 0, .int 0, .ref nb, .ref wi, .ref ga, .ref sg, .ref tc, .ref st, .ref hp, .ref ec, .ref row, .int 0, .int 0]))]) (w1 := [(row, .inl (cB, 2000, .inl f6))]) hP hD [1] [0] rfl rfl (by decide) (by decide) hk1 hFc hP1 hD1
  have hK := (hK.sub (tys' := [(cB, .byte), (cB, .byte)]) [0, 1] rfl).app hK1
  generalize H1 = H at hP hS ⊢
  have hP : va_P (dC, dI) cls [(h0, .inr (0, [.ref row, .int 0, .int 0, .ref nb, .ref wi, .ref ga, .ref sg, .ref tc, .ref st, .ref hp, .ref ec, .ref row, .int 0, .int 0])), (row, .inl (cB, 2000, .inl f6))] H := hP
  have hD : va_D A [(h0, .inr (0, [.ref row, .int 0, .int 0, .ref nb, .ref wi, .ref ga, .ref sg, .ref tc, .ref st, .ref hp, .ref ec, .ref row, .int 0, .int 0])), (row, .inl (cB, 2000, .inl f6))] := hD
  have hK : va_K (dC, dI) cls [(cB, .byte), (cB, .byte), (cB, .byte)] s := hK
  refine lv_aload_n hx hb d_U_feed_47 rfl (lv_at hl 0 rfl) ?_
  refine va_get (D := (dC, dI)) (ci := 0) (v := .ref row) (C := R_U) (T := F_U) (N := 14) hx hb (u_U hT) (fun _ h => h) hown hK hP 0 rfl rfl 0 (by decide) (ux_T_at hT tw_443 rfl) (fun _ h9 => h9) rfl d_U_feed_48 ?_
  refine lv_aload_n hx hb d_U_feed_51 rfl (lv_at hl 0 rfl) ?_
  refine va_get (D := (dC, dI)) (ci := 0) (v := .int 0) (C := R_U) (T := F_U) (N := 14) hx hb (u_U hT) (fun _ h => h) hown hK hP 0 rfl rfl 1 (by decide) (ux_T_at hT tw_444 rfl) (fun _ h9 => h9) rfl d_U_feed_52 ?_
  refine lv_bipush (v := 8) hx hb d_U_feed_55 (by decide) ?_
  refine lv_iadd hx hb d_U_feed_57 ?_
  refine lv_topi (fun x7 ex7 => ?_)
  obtain rfl : x7 = 8 := ex7.trans (by decide)
  refine lv_iload_n hx hb d_U_feed_58 rfl (lv_at hl 3 rfl) ?_
  have hPc := hP.sub (ws' := [(row, .inl (cB, 2000, .inl f6))]) [1] rfl
  have hDc := hD.sub (ws' := [(row, .inl (cB, 2000, .inl f6))]) [1] (by decide) rfl
  have hKc := hK.sub (tys' := [(cB, .byte)]) [0] rfl
  have hFc := va_free (wc := [(row, .inl (cB, 2000, .inl f6))]) hD hS hA [1] rfl
  have hkc : 0 + 0 ≤ 0 := (Nat.le_of_ble_eq_true rfl)
  refine va_callv (va_runS (As := [.ref row, .int 8, .int p2]) (rest := []) hfx (c_U_putFour_8 l dC dI row cB p2 f6 H.size) ⟨(ux_cb 3 hT tw_562 tw_560 tw_1 rfl rfl (by decide +kernel) ⟨(Nat.le_of_ble_eq_true rfl), (Nat.le_of_ble_eq_true rfl)⟩), (ux_T_at hT tw_561 rfl)⟩ (ux_pre [.ref row, .int 8, .int p2] hT hPc hKc hDc) rfl rfl hl.1 rfl (lv_room (Nat.le_of_ble_eq_true rfl)) d_U_feed_59 ⟨(Nat.le_of_ble_eq_true rfl), (Nat.le_of_ble_eq_true rfl)⟩) hS (fun q _ h => hFc q h) hFc (fun u t H1 locs ht hvm hw hB hz1 hk1 hS => ?_)
  obtain ⟨f9, hP1, hK1, hD1⟩ := hB
  rw [ht] at hP1
  have hK1 := va_K.moved hvm.symm hK1
  obtain ⟨hP, hD⟩ := va_join (wr := [(h0, .inr (0, [.ref row, .int 0, .int 0, .ref nb, .ref wi, .ref ga, .ref sg, .ref tc, .ref st, .ref hp, .ref ec, .ref row, .int 0, .int 0]))]) (w1 := [(row, .inl (cB, 2000, .inl f9))]) hP hD [1] [0] rfl rfl (by decide) (by decide) hk1 hFc hP1 hD1
  have hK := (hK.sub (tys' := [(cB, .byte), (cB, .byte), (cB, .byte)]) [0, 1, 2] rfl).app hK1
  generalize H1 = H at hP hS ⊢
  have hP : va_P (dC, dI) cls [(h0, .inr (0, [.ref row, .int 0, .int 0, .ref nb, .ref wi, .ref ga, .ref sg, .ref tc, .ref st, .ref hp, .ref ec, .ref row, .int 0, .int 0])), (row, .inl (cB, 2000, .inl f9))] H := hP
  have hD : va_D A [(h0, .inr (0, [.ref row, .int 0, .int 0, .ref nb, .ref wi, .ref ga, .ref sg, .ref tc, .ref st, .ref hp, .ref ec, .ref row, .int 0, .int 0])), (row, .inl (cB, 2000, .inl f9))] := hD
  have hK : va_K (dC, dI) cls [(cB, .byte), (cB, .byte), (cB, .byte), (cB, .byte)] s := hK
  refine lv_aload_n hx hb d_U_feed_62 rfl (lv_at hl 0 rfl) ?_
  refine va_get (D := (dC, dI)) (ci := 0) (v := .ref row) (C := R_U) (T := F_U) (N := 14) hx hb (u_U hT) (fun _ h => h) hown hK hP 0 rfl rfl 0 (by decide) (ux_T_at hT tw_443 rfl) (fun _ h9 => h9) rfl d_U_feed_63 ?_
  refine lv_aload_n hx hb d_U_feed_66 rfl (lv_at hl 0 rfl) ?_
  refine va_get (D := (dC, dI)) (ci := 0) (v := .int 0) (C := R_U) (T := F_U) (N := 14) hx hb (u_U hT) (fun _ h => h) hown hK hP 0 rfl rfl 1 (by decide) (ux_T_at hT tw_444 rfl) (fun _ h9 => h9) rfl d_U_feed_67 ?_
  refine lv_bipush (v := 12) hx hb d_U_feed_70 (by decide) ?_
  refine lv_iadd hx hb d_U_feed_72 ?_
  refine lv_topi (fun x10 ex10 => ?_)
  obtain rfl : x10 = 12 := ex10.trans (by decide)
  refine lv_iload hx hb d_U_feed_73 (lv_at hl 4 rfl) ?_
  have hPc := hP.sub (ws' := [(row, .inl (cB, 2000, .inl f9))]) [1] rfl
  have hDc := hD.sub (ws' := [(row, .inl (cB, 2000, .inl f9))]) [1] (by decide) rfl
  have hKc := hK.sub (tys' := [(cB, .byte)]) [0] rfl
  have hFc := va_free (wc := [(row, .inl (cB, 2000, .inl f9))]) hD hS hA [1] rfl
  have hkc : 0 + 0 ≤ 0 := (Nat.le_of_ble_eq_true rfl)
  refine va_callv (va_runS (As := [.ref row, .int 12, .int p3]) (rest := []) hfx (c_U_putFour_12 l dC dI row cB p3 f9 H.size) ⟨(ux_cb 3 hT tw_562 tw_560 tw_1 rfl rfl (by decide +kernel) ⟨(Nat.le_of_ble_eq_true rfl), (Nat.le_of_ble_eq_true rfl)⟩), (ux_T_at hT tw_561 rfl)⟩ (ux_pre [.ref row, .int 12, .int p3] hT hPc hKc hDc) rfl rfl hl.1 rfl (lv_room (Nat.le_of_ble_eq_true rfl)) d_U_feed_75 ⟨(Nat.le_of_ble_eq_true rfl), (Nat.le_of_ble_eq_true rfl)⟩) hS (fun q _ h => hFc q h) hFc (fun u t H1 locs ht hvm hw hB hz1 hk1 hS => ?_)
  obtain ⟨f12, hP1, hK1, hD1⟩ := hB
  rw [ht] at hP1
  have hK1 := va_K.moved hvm.symm hK1
  obtain ⟨hP, hD⟩ := va_join (wr := [(h0, .inr (0, [.ref row, .int 0, .int 0, .ref nb, .ref wi, .ref ga, .ref sg, .ref tc, .ref st, .ref hp, .ref ec, .ref row, .int 0, .int 0]))]) (w1 := [(row, .inl (cB, 2000, .inl f12))]) hP hD [1] [0] rfl rfl (by decide) (by decide) hk1 hFc hP1 hD1
  have hK := (hK.sub (tys' := [(cB, .byte), (cB, .byte), (cB, .byte), (cB, .byte)]) [0, 1, 2, 3] rfl).app hK1
  generalize H1 = H at hP hS ⊢
  have hP : va_P (dC, dI) cls [(h0, .inr (0, [.ref row, .int 0, .int 0, .ref nb, .ref wi, .ref ga, .ref sg, .ref tc, .ref st, .ref hp, .ref ec, .ref row, .int 0, .int 0])), (row, .inl (cB, 2000, .inl f12))] H := hP
  have hD : va_D A [(h0, .inr (0, [.ref row, .int 0, .int 0, .ref nb, .ref wi, .ref ga, .ref sg, .ref tc, .ref st, .ref hp, .ref ec, .ref row, .int 0, .int 0])), (row, .inl (cB, 2000, .inl f12))] := hD
  have hK : va_K (dC, dI) cls [(cB, .byte), (cB, .byte), (cB, .byte), (cB, .byte), (cB, .byte)] s := hK
  refine lv_aload_n hx hb d_U_feed_78 rfl (lv_at hl 0 rfl) ?_
  refine va_get (D := (dC, dI)) (ci := 0) (v := .ref row) (C := R_U) (T := F_U) (N := 14) hx hb (u_U hT) (fun _ h => h) hown hK hP 0 rfl rfl 0 (by decide) (ux_T_at hT tw_443 rfl) (fun _ h9 => h9) rfl d_U_feed_79 ?_
  refine lv_aload_n hx hb d_U_feed_82 rfl (lv_at hl 0 rfl) ?_
  refine va_get (D := (dC, dI)) (ci := 0) (v := .int 0) (C := R_U) (T := F_U) (N := 14) hx hb (u_U hT) (fun _ h => h) hown hK hP 0 rfl rfl 1 (by decide) (ux_T_at hT tw_444 rfl) (fun _ h9 => h9) rfl d_U_feed_83 ?_
  refine lv_bipush (v := 16) hx hb d_U_feed_86 (by decide) ?_
  refine lv_iadd hx hb d_U_feed_88 ?_
  refine lv_topi (fun x13 ex13 => ?_)
  obtain rfl : x13 = 16 := ex13.trans (by decide)
  refine lv_iload hx hb d_U_feed_89 (lv_at hl 5 rfl) ?_
  have hPc := hP.sub (ws' := [(row, .inl (cB, 2000, .inl f12))]) [1] rfl
  have hDc := hD.sub (ws' := [(row, .inl (cB, 2000, .inl f12))]) [1] (by decide) rfl
  have hKc := hK.sub (tys' := [(cB, .byte)]) [0] rfl
  have hFc := va_free (wc := [(row, .inl (cB, 2000, .inl f12))]) hD hS hA [1] rfl
  have hkc : 0 + 0 ≤ 0 := (Nat.le_of_ble_eq_true rfl)
  refine va_callv (va_runS (As := [.ref row, .int 16, .int p4]) (rest := []) hfx (c_U_putFour_16 l dC dI row cB p4 f12 H.size) ⟨(ux_cb 3 hT tw_562 tw_560 tw_1 rfl rfl (by decide +kernel) ⟨(Nat.le_of_ble_eq_true rfl), (Nat.le_of_ble_eq_true rfl)⟩), (ux_T_at hT tw_561 rfl)⟩ (ux_pre [.ref row, .int 16, .int p4] hT hPc hKc hDc) rfl rfl hl.1 rfl (lv_room (Nat.le_of_ble_eq_true rfl)) d_U_feed_91 ⟨(Nat.le_of_ble_eq_true rfl), (Nat.le_of_ble_eq_true rfl)⟩) hS (fun q _ h => hFc q h) hFc (fun u t H1 locs ht hvm hw hB hz1 hk1 hS => ?_)
  obtain ⟨f15, hP1, hK1, hD1⟩ := hB
  rw [ht] at hP1
  have hK1 := va_K.moved hvm.symm hK1
  obtain ⟨hP, hD⟩ := va_join (wr := [(h0, .inr (0, [.ref row, .int 0, .int 0, .ref nb, .ref wi, .ref ga, .ref sg, .ref tc, .ref st, .ref hp, .ref ec, .ref row, .int 0, .int 0]))]) (w1 := [(row, .inl (cB, 2000, .inl f15))]) hP hD [1] [0] rfl rfl (by decide) (by decide) hk1 hFc hP1 hD1
  have hK := (hK.sub (tys' := [(cB, .byte), (cB, .byte), (cB, .byte), (cB, .byte), (cB, .byte)]) [0, 1, 2, 3, 4] rfl).app hK1
  generalize H1 = H at hP hS ⊢
  have hP : va_P (dC, dI) cls [(h0, .inr (0, [.ref row, .int 0, .int 0, .ref nb, .ref wi, .ref ga, .ref sg, .ref tc, .ref st, .ref hp, .ref ec, .ref row, .int 0, .int 0])), (row, .inl (cB, 2000, .inl f15))] H := hP
  have hD : va_D A [(h0, .inr (0, [.ref row, .int 0, .int 0, .ref nb, .ref wi, .ref ga, .ref sg, .ref tc, .ref st, .ref hp, .ref ec, .ref row, .int 0, .int 0])), (row, .inl (cB, 2000, .inl f15))] := hD
  have hK : va_K (dC, dI) cls [(cB, .byte), (cB, .byte), (cB, .byte), (cB, .byte), (cB, .byte), (cB, .byte)] s := hK
  refine lv_aload_n hx hb d_U_feed_94 rfl (lv_at hl 0 rfl) ?_
  refine lv_dup hx hb d_U_feed_95 rfl ?_
  refine va_get (D := (dC, dI)) (ci := 0) (v := .int 0) (C := R_U) (T := F_U) (N := 14) hx hb (u_U hT) (fun _ h => h) hown hK hP 0 rfl rfl 1 (by decide) (ux_T_at hT tw_444 rfl) (fun _ h9 => h9) rfl d_U_feed_96 ?_
  refine lv_bipush (v := 20) hx hb d_U_feed_99 (by decide) ?_
  refine lv_iadd hx hb d_U_feed_101 ?_
  refine lv_topi (fun x16 ex16 => ?_)
  obtain rfl : x16 = 20 := ex16.trans (by decide)
  refine va_put (D := (dC, dI)) (ci := 0) (v := .int 20) (ty := .int) (C := R_U) (T := F_U) (N := 14) hx hb (u_U hT) (fun _ h => h) t_U k_U n_U hown hK hP hD hS 0 rfl rfl 1 (by decide) (ux_T_at hT tw_444 rfl) (fun _ h9 => h9) rfl (by decide +kernel) rfl rfl (Nat.le_of_ble_eq_true rfl) d_U_feed_102 (fun H locs hP hD hS => ?_)
  have hP : va_P (dC, dI) cls [(h0, .inr (0, [.ref row, .int 20, .int 0, .ref nb, .ref wi, .ref ga, .ref sg, .ref tc, .ref st, .ref hp, .ref ec, .ref row, .int 0, .int 0])), (row, .inl (cB, 2000, .inl f15))] H := hP
  have hD : va_D A [(h0, .inr (0, [.ref row, .int 20, .int 0, .ref nb, .ref wi, .ref ga, .ref sg, .ref tc, .ref st, .ref hp, .ref ec, .ref row, .int 0, .int 0])), (row, .inl (cB, 2000, .inl f15))] := hD
  refine lv_aload_n hx hb d_U_feed_105 rfl (lv_at hl 0 rfl) ?_
  refine va_get (D := (dC, dI)) (ci := 0) (v := .int 20) (C := R_U) (T := F_U) (N := 14) hx hb (u_U hT) (fun _ h => h) hown hK hP 0 rfl rfl 1 (by decide) (ux_T_at hT tw_444 rfl) (fun _ h9 => h9) rfl d_U_feed_106 ?_
  have hP9 := hP.sub (ws' := []) [] rfl
  have hD9 := hD.sub (ws' := []) [] (by decide) rfl
  have hK9 := hK.sub (tys' := []) [] rfl
  refine W.widen (k := 0) (n := 0) (Nat.le_of_ble_eq_true rfl) (Nat.le_of_ble_eq_true rfl) ?_
  exact W.iret (v := 20) hx hb hr (fun t ht hW => ⟨⟨_, (), rfl, rfl, by rw [ht]; exact hP9, va_K.moved hW.alike hK9, hD9⟩, hS.F ht⟩) hS.2.2 d_U_feed_109
set_option maxHeartbeats 4000000 in
set_option maxRecDepth 100000 in
theorem c_U_cut_ok (l : Launch) (dC : Nat → ClassId) (dI : Nat → Nat → Nat) (h0 : Nat) (row : Nat) (nb : Nat) (wi : Nat) (ga : Nat) (sg : Nat) (tc : Nat) (st : Nat) (hp : Nat) (ec : Nat) (sz : Nat) : Met l y_U_cut [Cond.code y_U_cut b_U_cut 2 (some .int)] ({ frames := 100, cells := 0, slots := 0, locals := 1500 }) (ux_Pc [.ref h0, .int 0] (dC, dI) cls [(h0, .inr (0, [.ref row, .int 0, .int 0, .ref nb, .ref wi, .ref ga, .ref sg, .ref tc, .ref st, .ref hp, .ref ec, .ref row, .int 0, .int 0]))] [] sz) (va_Qi (fun (r : Int32) (_ : Unit) => r = 0) (fun (_ : Unit) (t : State) => ux_B (dC, dI) cls (va_A [(h0, .inr (0, [.ref row, .int 0, .int 0, .ref nb, .ref wi, .ref ga, .ref sg, .ref tc, .ref st, .ref hp, .ref ec, .ref row, .int 0, .int 0]))] sz) [] [] t) (va_A [(h0, .inr (0, [.ref row, .int 0, .int 0, .ref nb, .ref wi, .ref ga, .ref sg, .ref tc, .ref st, .ref hp, .ref ec, .ref row, .int 0, .int 0]))] sz)) 0 0 (va_A [(h0, .inr (0, [.ref row, .int 0, .int 0, .ref nb, .ref wi, .ref ga, .ref sg, .ref tc, .ref st, .ref hp, .ref ec, .ref row, .int 0, .int 0]))] sz) := by
  refine Met.ofW (cc := b_U_cut) (maxL := 2) (ret := some .int) (by decide) rfl ?_
  intro p e s m args below meth c s₁ B hml hv
  obtain ⟨rfl, hsz, hP, hK, hD0, hT⟩ := hv
  have hx := B.exec
  have hb := B.bytes
  have hr := B.returns
  have hown : s.vm.findClass "UnikernelHttp" = some m.cls := findClass_of_methodNamed B.named
  have hlocks := B.notSynchronized
  subst hsz
  have hD := hD0.self (sz := s.heap.size)
  have hns := ux_ns hP
  generalize hAe : va_A [(h0, .inr (0, [.ref row, .int 0, .int 0, .ref nb, .ref wi, .ref ga, .ref sg, .ref tc, .ref st, .ref hp, .ref ec, .ref row, .int 0, .int 0]))] s.heap.size = A at hD hns ⊢
  have hA : ∀ q : Nat, s.heap.size ≤ q → A q := fun q h => by rw [← hAe]; exact Or.inr h
  have hS : va_S A s.heap s.heap [] := va_S.rf
  have hl := lv_entry ([.ref h0, .int 0]) (n := 2) (Nat.le_of_ble_eq_true rfl)
  rw [lg_entry_eq]
  generalize (lg_sl ([.ref h0, .int 0]) ++ List.replicate (2 - (lg_sl ([.ref h0, .int 0])).length) Slot.unset).toArray = ls at hl ⊢
  have hl : lv_has ls 2 [(0, .ref h0), (1, .int 0)] := hl
  have hfx : CallFix p m c b_U_cut 2 s ([.ref h0, .int 0] : List Value).toArray [] "UnikernelHttp" := ⟨hx, hb, hml, hown, fun _ h => by cases h⟩
  refine lv_iload_n hx hb d_U_cut_0 rfl (lv_at hl 1 rfl) ?_
  refine lv_if_lt (tgt := 12) hx hb d_U_cut_1 (by decide) (fun hc => absurd hc (by decide)) (fun _ => ?_)
  refine lv_iload_n hx hb d_U_cut_4 rfl (lv_at hl 1 rfl) ?_
  refine lv_aload_n hx hb d_U_cut_5 rfl (lv_at hl 0 rfl) ?_
  refine va_get (D := (dC, dI)) (ci := 0) (v := .int 0) (C := R_U) (T := F_U) (N := 14) hx hb (u_U hT) (fun _ h => h) hown hK hP 0 rfl rfl 1 (by decide) (ux_T_at hT tw_444 rfl) (fun _ h9 => h9) rfl d_U_cut_6 ?_
  refine lv_icmp_le (tgt := 20) hx hb d_U_cut_9 (by decide) (fun _ => ?_) (fun hc => absurd (by decide) hc)
  refine lv_aload_n hx hb d_U_cut_20 rfl (lv_at hl 0 rfl) ?_
  refine lv_iload_n hx hb d_U_cut_21 rfl (lv_at hl 1 rfl) ?_
  refine va_put (D := (dC, dI)) (ci := 0) (v := .int 0) (ty := .int) (C := R_U) (T := F_U) (N := 14) hx hb (u_U hT) (fun _ h => h) t_U k_U n_U hown hK hP hD hS 0 rfl rfl 1 (by decide) (ux_T_at hT tw_444 rfl) (fun _ h9 => h9) rfl (by decide +kernel) rfl rfl (Nat.le_of_ble_eq_true rfl) d_U_cut_22 (fun H locs hP hD hS => ?_)
  have hP : va_P (dC, dI) cls [(h0, .inr (0, [.ref row, .int 0, .int 0, .ref nb, .ref wi, .ref ga, .ref sg, .ref tc, .ref st, .ref hp, .ref ec, .ref row, .int 0, .int 0]))] H := hP
  have hD : va_D A [(h0, .inr (0, [.ref row, .int 0, .int 0, .ref nb, .ref wi, .ref ga, .ref sg, .ref tc, .ref st, .ref hp, .ref ec, .ref row, .int 0, .int 0]))] := hD
  refine lv_iload_n hx hb d_U_cut_25 rfl (lv_at hl 1 rfl) ?_
  have hP9 := hP.sub (ws' := []) [] rfl
  have hD9 := hD.sub (ws' := []) [] (by decide) rfl
  have hK9 := hK.sub (tys' := []) [] rfl
  refine W.widen (k := 0) (n := 0) (Nat.le_of_ble_eq_true rfl) (Nat.le_of_ble_eq_true rfl) ?_
  exact W.iret (v := 0) hx hb hr (fun t ht hW => ⟨⟨_, (), rfl, rfl, by rw [ht]; exact hP9, va_K.moved hW.alike hK9, hD9⟩, hS.F ht⟩) hS.2.2 d_U_cut_26
set_option maxHeartbeats 4000000 in
set_option maxRecDepth 100000 in
theorem c_U_cut_no (l : Launch) (hfl : l.flags = flags0) (dC : Nat → ClassId) (dI : Nat → Nat → Nat) (h0 : Nat) (row : Nat) (nb : Nat) (wi : Nat) (ga : Nat) (sg : Nat) (tc : Nat) (st : Nat) (hp : Nat) (ec : Nat) (p0 : Int32) (hn : p0.toInt ≠ 0) (sz : Nat) : ux_Met l y_U_cut [Cond.code y_U_cut b_U_cut 2 (some .int)] ({ frames := 100, cells := 1, slots := 6, locals := 1500 }) (ux_PcH [.ref h0, .int p0] (dC, dI) cls [(h0, .inr (0, [.ref row, .int 0, .int 0, .ref nb, .ref wi, .ref ga, .ref sg, .ref tc, .ref st, .ref hp, .ref ec, .ref row, .int 0, .int 0]))] [] sz) (ux_X "java/lang/IllegalArgumentException" (va_A [(h0, .inr (0, [.ref row, .int 0, .int 0, .ref nb, .ref wi, .ref ga, .ref sg, .ref tc, .ref st, .ref hp, .ref ec, .ref row, .int 0, .int 0]))] sz)) 1 6 (va_A [(h0, .inr (0, [.ref row, .int 0, .int 0, .ref nb, .ref wi, .ref ga, .ref sg, .ref tc, .ref st, .ref hp, .ref ec, .ref row, .int 0, .int 0]))] sz) := by
  refine ux_ofW (cc := b_U_cut) (maxL := 2) (ret := some .int) (by decide) rfl ?_
  intro p e s m args below meth c s₁ B hml hv
  obtain ⟨⟨rfl, hsz, hP, hK, hD0, hT⟩, hH⟩ := hv
  have hx := B.exec
  have hb := B.bytes
  have hr := B.returns
  have hown : s.vm.findClass "UnikernelHttp" = some m.cls := findClass_of_methodNamed B.named
  have hlocks := B.notSynchronized
  subst hsz
  have hD := hD0.self (sz := s.heap.size)
  have hns := ux_ns hP
  generalize hAe : va_A [(h0, .inr (0, [.ref row, .int 0, .int 0, .ref nb, .ref wi, .ref ga, .ref sg, .ref tc, .ref st, .ref hp, .ref ec, .ref row, .int 0, .int 0]))] s.heap.size = A at hD hns ⊢
  have hA : ∀ q : Nat, s.heap.size ≤ q → A q := fun q h => by rw [← hAe]; exact Or.inr h
  have hS : va_S A s.heap s.heap [] := va_S.rf
  have hl := lv_entry ([.ref h0, .int p0]) (n := 2) (Nat.le_of_ble_eq_true rfl)
  rw [lg_entry_eq]
  generalize (lg_sl ([.ref h0, .int p0]) ++ List.replicate (2 - (lg_sl ([.ref h0, .int p0])).length) Slot.unset).toArray = ls at hl ⊢
  have hl : lv_has ls 2 [(0, .ref h0), (1, .int p0)] := hl
  have hfx : CallFix p m c b_U_cut 2 s ([.ref h0, .int p0] : List Value).toArray [] "UnikernelHttp" := ⟨hx, hb, hml, hown, fun _ h => by cases h⟩
  refine lv_iload_n hx hb d_U_cut_0 rfl (lv_at hl 1 rfl) ?_
  refine lv_if_lt (tgt := 12) hx hb d_U_cut_1 (by decide) (fun hc1 => ?_) (fun hc1 => ?_)
  · exact ux_throwX (own := "UnikernelHttp") (E := "java/lang/IllegalArgumentException") (names := ["java/lang/RuntimeException", "java/lang/Exception"]) (ic := 89) (iN := 87) hx (ux_off hfl B.admits) hb hlocks (B.noHandlers (atoms_spec (ws := [Cond.code y_U_cut b_U_cut 2 (some .int)]) B.pre _ List.mem_cons_self)) hown (by decide +kernel) (by decide +kernel) (at_89_U hT hH) (ux_T_at hT tw_571 rfl) (ux_T_at hT tw_19 rfl) (by rw [hml]; exact hl.1) d_U_cut_12 d_U_cut_15 d_U_cut_16 d_U_cut_19 (Nat.le_of_ble_eq_true rfl) (Nat.le_of_ble_eq_true rfl) (Nat.le_of_ble_eq_true rfl) (Nat.le_of_ble_eq_true rfl) (Nat.le_of_ble_eq_true rfl) (Nat.le_of_ble_eq_true rfl) hS hns
  · refine lv_iload_n hx hb d_U_cut_4 rfl (lv_at hl 1 rfl) ?_
    refine lv_aload_n hx hb d_U_cut_5 rfl (lv_at hl 0 rfl) ?_
    refine va_get (D := (dC, dI)) (ci := 0) (v := .int 0) (C := R_U) (T := F_U) (N := 14) hx hb (u_U hT) (fun _ h => h) hown hK hP 0 rfl rfl 1 (by decide) (ux_T_at hT tw_444 rfl) (fun _ h9 => h9) rfl d_U_cut_6 ?_
    refine lv_icmp_le (tgt := 20) hx hb d_U_cut_9 (by decide) (fun hc2 => by exfalso; simp only [Int32.lt_iff_toInt_lt, Int32.le_iff_toInt_le, ← Int32.toInt_inj, ux_l0] at hc2 hc1; omega) (fun _ => ?_)
    exact ux_throwX (own := "UnikernelHttp") (E := "java/lang/IllegalArgumentException") (names := ["java/lang/RuntimeException", "java/lang/Exception"]) (ic := 89) (iN := 87) hx (ux_off hfl B.admits) hb hlocks (B.noHandlers (atoms_spec (ws := [Cond.code y_U_cut b_U_cut 2 (some .int)]) B.pre _ List.mem_cons_self)) hown (by decide +kernel) (by decide +kernel) (at_89_U hT hH) (ux_T_at hT tw_571 rfl) (ux_T_at hT tw_19 rfl) (by rw [hml]; exact hl.1) d_U_cut_12 d_U_cut_15 d_U_cut_16 d_U_cut_19 (Nat.le_of_ble_eq_true rfl) (Nat.le_of_ble_eq_true rfl) (Nat.le_of_ble_eq_true rfl) (Nat.le_of_ble_eq_true rfl) (Nat.le_of_ble_eq_true rfl) (Nat.le_of_ble_eq_true rfl) hS hns
set_option maxHeartbeats 4000000 in
set_option maxRecDepth 100000 in
theorem c_U_arrive (l : Launch) (dC : Nat → ClassId) (dI : Nat → Nat → Nat) (h0 : Nat) (row : Nat) (nb : Nat) (wi : Nat) (ga : Nat) (sg : Nat) (tc : Nat) (st : Nat) (hp : Nat) (ec : Nat) (w1 : Nat) (w2 : Nat) (sz : Nat) : Met l y_U_arrive [Cond.code y_U_arrive b_U_arrive 5 (some .int)] ({ frames := 100, cells := 0, slots := 0, locals := 1500 }) (ux_Pc [.ref h0] (dC, dI) cls [(h0, .inr (0, [.ref row, .int 0, .int 0, .ref nb, .ref wi, .ref ga, .ref sg, .ref tc, .ref st, .ref hp, .ref ec, .ref row, .int 0, .int 0])), (wi, .inr (2, [.ref nb, .ref w1, .ref w2, .int 0, .int 0]))] [] sz) (va_Qi (fun (r : Int32) (_ : Unit) => r = 0) (fun (_ : Unit) (t : State) => ux_B (dC, dI) cls (va_A [(h0, .inr (0, [.ref row, .int 0, .int 0, .ref nb, .ref wi, .ref ga, .ref sg, .ref tc, .ref st, .ref hp, .ref ec, .ref row, .int 0, .int 0])), (wi, .inr (2, [.ref nb, .ref w1, .ref w2, .int 0, .int 0]))] sz) [] [] t) (va_A [(h0, .inr (0, [.ref row, .int 0, .int 0, .ref nb, .ref wi, .ref ga, .ref sg, .ref tc, .ref st, .ref hp, .ref ec, .ref row, .int 0, .int 0])), (wi, .inr (2, [.ref nb, .ref w1, .ref w2, .int 0, .int 0]))] sz)) 0 0 (va_A [(h0, .inr (0, [.ref row, .int 0, .int 0, .ref nb, .ref wi, .ref ga, .ref sg, .ref tc, .ref st, .ref hp, .ref ec, .ref row, .int 0, .int 0])), (wi, .inr (2, [.ref nb, .ref w1, .ref w2, .int 0, .int 0]))] sz) := by
  refine Met.ofW (cc := b_U_arrive) (maxL := 5) (ret := some .int) (by decide) rfl ?_
  intro p e s m args below meth c s₁ B hml hv
  obtain ⟨rfl, hsz, hP, hK, hD0, hT⟩ := hv
  have hx := B.exec
  have hb := B.bytes
  have hr := B.returns
  have hown : s.vm.findClass "UnikernelHttp" = some m.cls := findClass_of_methodNamed B.named
  have hlocks := B.notSynchronized
  subst hsz
  have hD := hD0.self (sz := s.heap.size)
  have hns := ux_ns hP
  generalize hAe : va_A [(h0, .inr (0, [.ref row, .int 0, .int 0, .ref nb, .ref wi, .ref ga, .ref sg, .ref tc, .ref st, .ref hp, .ref ec, .ref row, .int 0, .int 0])), (wi, .inr (2, [.ref nb, .ref w1, .ref w2, .int 0, .int 0]))] s.heap.size = A at hD hns ⊢
  have hA : ∀ q : Nat, s.heap.size ≤ q → A q := fun q h => by rw [← hAe]; exact Or.inr h
  have hS : va_S A s.heap s.heap [] := va_S.rf
  have hl := lv_entry ([.ref h0]) (n := 5) (Nat.le_of_ble_eq_true rfl)
  rw [lg_entry_eq]
  generalize (lg_sl ([.ref h0]) ++ List.replicate (5 - (lg_sl ([.ref h0])).length) Slot.unset).toArray = ls at hl ⊢
  have hl : lv_has ls 5 [(0, .ref h0)] := hl
  have hfx : CallFix p m c b_U_arrive 5 s ([.ref h0] : List Value).toArray [] "UnikernelHttp" := ⟨hx, hb, hml, hown, fun _ h => by cases h⟩
  refine lv_aload_n hx hb d_U_arrive_0 rfl (lv_at hl 0 rfl) ?_
  refine va_get (D := (dC, dI)) (ci := 0) (v := .int 0) (C := R_U) (T := F_U) (N := 14) hx hb (u_U hT) (fun _ h => h) hown hK hP 0 rfl rfl 1 (by decide) (ux_T_at hT tw_444 rfl) (fun _ h9 => h9) rfl d_U_arrive_1 ?_
  refine lv_sipush (v := 1518) hx hb d_U_arrive_4 (by decide) ?_
  refine lv_icmp_le (tgt := 18) hx hb d_U_arrive_7 (by decide) (fun _ => ?_) (fun hc => absurd (by decide) hc)
  refine lv_aload_n hx hb d_U_arrive_18 rfl (lv_at hl 0 rfl) ?_
  refine va_get (D := (dC, dI)) (ci := 0) (v := .ref wi) (C := R_U) (T := F_U) (N := 14) hx hb (u_U hT) (fun _ h => h) hown hK hP 0 rfl rfl 4 (by decide) (ux_T_at hT tw_447 rfl) (fun _ h9 => h9) rfl d_U_arrive_19 ?_
  refine va_getN (D := (dC, dI)) (ci := 2) (v := .int 0) (C := R_Wi) (T := F_Wi) (N := 5) hx hb (u_Wi hT) (fun _ h => h) hown hK hP 1 rfl rfl 3 (by decide) (ux_T_at hT tw_81 rfl) (fun _ h9 => h9) rfl d_U_arrive_22 ?_
  refine lv_istore_n hx hb d_U_arrive_25 rfl hl (by decide) rfl (fun ls hl => ?_)
  have hl : lv_has ls 5 [(1, .int 0), (0, .ref h0)] := hl
  refine lv_aload_n hx hb d_U_arrive_26 rfl (lv_at hl 1 rfl) ?_
  refine va_get (D := (dC, dI)) (ci := 0) (v := .int 0) (C := R_U) (T := F_U) (N := 14) hx hb (u_U hT) (fun _ h => h) hown hK hP 0 rfl rfl 1 (by decide) (ux_T_at hT tw_444 rfl) (fun _ h9 => h9) rfl d_U_arrive_27 ?_
  refine lv_istore_n hx hb d_U_arrive_30 rfl hl (by decide) rfl (fun ls hl => ?_)
  have hl : lv_has ls 5 [(2, .int 0), (1, .int 0), (0, .ref h0)] := hl
  refine lv_aload_n hx hb d_U_arrive_31 rfl (lv_at hl 2 rfl) ?_
  refine lv_iconst (v := 0) hx hb d_U_arrive_32 (by decide) ?_
  refine va_put (D := (dC, dI)) (ci := 0) (v := .int 0) (ty := .int) (C := R_U) (T := F_U) (N := 14) hx hb (u_U hT) (fun _ h => h) t_U k_U n_U hown hK hP hD hS 0 rfl rfl 1 (by decide) (ux_T_at hT tw_444 rfl) (fun _ h9 => h9) rfl (by decide +kernel) rfl rfl (Nat.le_of_ble_eq_true rfl) d_U_arrive_33 (fun H locs hP hD hS => ?_)
  have hP : va_P (dC, dI) cls [(h0, .inr (0, [.ref row, .int 0, .int 0, .ref nb, .ref wi, .ref ga, .ref sg, .ref tc, .ref st, .ref hp, .ref ec, .ref row, .int 0, .int 0])), (wi, .inr (2, [.ref nb, .ref w1, .ref w2, .int 0, .int 0]))] H := hP
  have hD : va_D A [(h0, .inr (0, [.ref row, .int 0, .int 0, .ref nb, .ref wi, .ref ga, .ref sg, .ref tc, .ref st, .ref hp, .ref ec, .ref row, .int 0, .int 0])), (wi, .inr (2, [.ref nb, .ref w1, .ref w2, .int 0, .int 0]))] := hD
  refine lv_aload_n hx hb d_U_arrive_36 rfl (lv_at hl 2 rfl) ?_
  refine lv_iload_n hx hb d_U_arrive_37 rfl (lv_at hl 0 rfl) ?_
  have hPc := hP.sub (ws' := [(h0, .inr (0, [.ref row, .int 0, .int 0, .ref nb, .ref wi, .ref ga, .ref sg, .ref tc, .ref st, .ref hp, .ref ec, .ref row, .int 0, .int 0]))]) [0] rfl
  have hDc := hD.sub (ws' := [(h0, .inr (0, [.ref row, .int 0, .int 0, .ref nb, .ref wi, .ref ga, .ref sg, .ref tc, .ref st, .ref hp, .ref ec, .ref row, .int 0, .int 0]))]) [0] (by decide) rfl
  have hKc := hK.sub (tys' := []) [] rfl
  have hFc := va_free (wc := [(h0, .inr (0, [.ref row, .int 0, .int 0, .ref nb, .ref wi, .ref ga, .ref sg, .ref tc, .ref st, .ref hp, .ref ec, .ref row, .int 0, .int 0]))]) hD hS hA [0] rfl
  have hkc : 0 + 0 ≤ 0 := (Nat.le_of_ble_eq_true rfl)
  refine va_calli (va_runV (As := [.int 0]) (rest := []) hfx (c_U_isForMe l dC dI h0 row nb wi ga sg tc st hp ec H.size) ⟨(ux_cb 1 hT tw_596 tw_593 tw_1 rfl rfl (by decide +kernel) ⟨(Nat.le_of_ble_eq_true rfl), (Nat.le_of_ble_eq_true rfl)⟩), (ux_T_at hT tw_595 rfl), (ux_T_at hT (ux_tp (q := (⟨"UnikernelHttp", "isForMe", "(I)Z"⟩, 14)) (by decide +kernel)) rfl)⟩ (ux_preV (r := (R_U, F_U, 14)) (ci := 0) (q0 := 0) [.int 0] hT hPc hKc hDc rfl rfl) rfl rfl hl.1 rfl (lv_room (Nat.le_of_ble_eq_true rfl)) d_U_arrive_38 ⟨(Nat.le_of_ble_eq_true rfl), (Nat.le_of_ble_eq_true rfl)⟩) hS (fun q _ h => hFc q h) hFc (fun r1 u t H1 locs ht hvm hw hB hz1 hk1 hS => ?_)
  obtain ⟨hP1, hK1, hD1⟩ := hB
  rw [ht] at hP1
  have hK1 := va_K.moved hvm.symm hK1
  obtain ⟨hP, hD⟩ := va_join (wr := [(wi, .inr (2, [.ref nb, .ref w1, .ref w2, .int 0, .int 0]))]) (w1 := [(h0, .inr (0, [.ref row, .int 0, .int 0, .ref nb, .ref wi, .ref ga, .ref sg, .ref tc, .ref st, .ref hp, .ref ec, .ref row, .int 0, .int 0]))]) hP hD [0] [1] rfl rfl (by decide) (by decide) hk1 hFc hP1 hD1
  have hK := (hK.sub (tys' := []) [] rfl).app hK1
  generalize H1 = H at hP hS ⊢
  have hP : va_P (dC, dI) cls [(wi, .inr (2, [.ref nb, .ref w1, .ref w2, .int 0, .int 0])), (h0, .inr (0, [.ref row, .int 0, .int 0, .ref nb, .ref wi, .ref ga, .ref sg, .ref tc, .ref st, .ref hp, .ref ec, .ref row, .int 0, .int 0]))] H := hP
  have hD : va_D A [(wi, .inr (2, [.ref nb, .ref w1, .ref w2, .int 0, .int 0])), (h0, .inr (0, [.ref row, .int 0, .int 0, .ref nb, .ref wi, .ref ga, .ref sg, .ref tc, .ref st, .ref hp, .ref ec, .ref row, .int 0, .int 0]))] := hD
  have hK : va_K (dC, dI) cls [] s := hK
  obtain rfl : r1 = 0 := hw
  refine lv_if_eq (tgt := 56) hx hb d_U_arrive_41 (by decide) (fun _ => ?_) (fun hc => absurd (by decide) hc)
  refine lv_iconst (v := 0) hx hb d_U_arrive_56 (by decide) ?_
  refine lv_istore_n hx hb d_U_arrive_57 rfl hl (by decide) rfl (fun ls hl => ?_)
  have hl : lv_has ls 5 [(3, .int 0), (2, .int 0), (1, .int 0), (0, .ref h0)] := hl
  refine lv_iload_n hx hb d_U_arrive_58 rfl (lv_at hl 0 rfl) ?_
  refine lv_sipush (v := 2054) hx hb d_U_arrive_59 (by decide) ?_
  refine lv_icmp_ne (tgt := 73) hx hb d_U_arrive_62 (by decide) (fun _ => ?_) (fun hc => absurd hc (by decide))
  refine lv_iload_n hx hb d_U_arrive_73 rfl (lv_at hl 0 rfl) ?_
  refine lv_sipush (v := 2048) hx hb d_U_arrive_74 (by decide) ?_
  refine lv_icmp_ne (tgt := 130) hx hb d_U_arrive_77 (by decide) (fun _ => ?_) (fun hc => absurd hc (by decide))
  refine lv_aload_n hx hb d_U_arrive_130 rfl (lv_at hl 3 rfl) ?_
  refine va_get (D := (dC, dI)) (ci := 0) (v := .ref wi) (C := R_U) (T := F_U) (N := 14) hx hb (u_U hT) (fun _ h => h) hown hK hP 1 rfl rfl 4 (by decide) (ux_T_at hT tw_447 rfl) (fun _ h9 => h9) rfl d_U_arrive_131 ?_
  refine va_getN (D := (dC, dI)) (ci := 2) (v := .int 0) (C := R_Wi) (T := F_Wi) (N := 5) hx hb (u_Wi hT) (fun _ h => h) hown hK hP 0 rfl rfl 3 (by decide) (ux_T_at hT tw_81 rfl) (fun _ h9 => h9) rfl d_U_arrive_134 ?_
  refine lv_iload_n hx hb d_U_arrive_137 rfl (lv_at hl 2 rfl) ?_
  refine lv_isub hx hb d_U_arrive_138 ?_
  refine lv_topi (fun x2 ex2 => ?_)
  obtain rfl : x2 = 0 := ex2.trans (by decide)
  have hP9 := hP.sub (ws' := []) [] rfl
  have hD9 := hD.sub (ws' := []) [] (by decide) rfl
  have hK9 := hK.sub (tys' := []) [] rfl
  refine W.widen (k := 0) (n := 0) (Nat.le_of_ble_eq_true rfl) (Nat.le_of_ble_eq_true rfl) ?_
  exact W.iret (v := 0) hx hb hr (fun t ht hW => ⟨⟨_, (), rfl, rfl, by rw [ht]; exact hP9, va_K.moved hW.alike hK9, hD9⟩, hS.F ht⟩) hS.2.2 d_U_arrive_139
set_option maxHeartbeats 4000000 in
set_option maxRecDepth 100000 in
theorem c_U_page (l : Launch) (hfl : l.flags = flags0) (dC : Nat → ClassId) (dI : Nat → Nat → Nat) (h0 : Nat) (row : Nat) (nb : Nat) (wi : Nat) (ga : Nat) (sg : Nat) (tc : Nat) (st : Nat) (hp : Nat) (ec : Nat) (p0 : Int32) (sz : Nat) : ux_Met l y_U_page [Cond.code y_U_page b_U_page 3 (some .int)] ({ frames := 100, cells := 1, slots := 6, locals := 1500 }) (ux_PcH [.ref h0, .int p0] (dC, dI) cls [(h0, .inr (0, [.ref row, .int 0, .int 0, .ref nb, .ref wi, .ref ga, .ref sg, .ref tc, .ref st, .ref hp, .ref ec, .ref row, .int 0, .int 0]))] [] sz) (ux_X "java/lang/IllegalArgumentException" (va_A [(h0, .inr (0, [.ref row, .int 0, .int 0, .ref nb, .ref wi, .ref ga, .ref sg, .ref tc, .ref st, .ref hp, .ref ec, .ref row, .int 0, .int 0]))] sz)) 1 6 (va_A [(h0, .inr (0, [.ref row, .int 0, .int 0, .ref nb, .ref wi, .ref ga, .ref sg, .ref tc, .ref st, .ref hp, .ref ec, .ref row, .int 0, .int 0]))] sz) := by
  refine ux_ofW (cc := b_U_page) (maxL := 3) (ret := some .int) (by decide) rfl ?_
  intro p e s m args below meth c s₁ B hml hv
  obtain ⟨⟨rfl, hsz, hP, hK, hD0, hT⟩, hH⟩ := hv
  have hx := B.exec
  have hb := B.bytes
  have hr := B.returns
  have hown : s.vm.findClass "UnikernelHttp" = some m.cls := findClass_of_methodNamed B.named
  have hlocks := B.notSynchronized
  subst hsz
  have hD := hD0.self (sz := s.heap.size)
  have hns := ux_ns hP
  generalize hAe : va_A [(h0, .inr (0, [.ref row, .int 0, .int 0, .ref nb, .ref wi, .ref ga, .ref sg, .ref tc, .ref st, .ref hp, .ref ec, .ref row, .int 0, .int 0]))] s.heap.size = A at hD hns ⊢
  have hA : ∀ q : Nat, s.heap.size ≤ q → A q := fun q h => by rw [← hAe]; exact Or.inr h
  have hS : va_S A s.heap s.heap [] := va_S.rf
  have hl := lv_entry ([.ref h0, .int p0]) (n := 3) (Nat.le_of_ble_eq_true rfl)
  rw [lg_entry_eq]
  generalize (lg_sl ([.ref h0, .int p0]) ++ List.replicate (3 - (lg_sl ([.ref h0, .int p0])).length) Slot.unset).toArray = ls at hl ⊢
  have hl : lv_has ls 3 [(0, .ref h0), (1, .int p0)] := hl
  have hfx : CallFix p m c b_U_page 3 s ([.ref h0, .int p0] : List Value).toArray [] "UnikernelHttp" := ⟨hx, hb, hml, hown, fun _ h => by cases h⟩
  refine lv_iload_n hx hb d_U_page_0 rfl (lv_at hl 1 rfl) ?_
  refine lv_iconst (v := 1) hx hb d_U_page_1 (by decide) ?_
  refine lv_icmp_lt (tgt := 35) hx hb d_U_page_2 (by decide) (fun hc1 => ?_) (fun hc1 => ?_)
  · refine lv_iconst (v := 0) hx hb d_U_page_35 (by decide) ?_
    refine lv_istore_n hx hb d_U_page_36 rfl hl (by decide) rfl (fun ls hl => ?_)
    have hl : lv_has ls 3 [(2, .int 0), (0, .ref h0), (1, .int p0)] := hl
    refine lv_iload_n hx hb d_U_page_37 rfl (lv_at hl 0 rfl) ?_
    refine lv_if_eq (tgt := 52) hx hb d_U_page_38 (by decide) (fun _ => ?_) (fun hc => absurd (by decide) hc)
    exact ux_throwX (own := "UnikernelHttp") (E := "java/lang/IllegalArgumentException") (names := ["java/lang/RuntimeException", "java/lang/Exception"]) (ic := 89) (iN := 87) hx (ux_off hfl B.admits) hb hlocks (B.noHandlers (atoms_spec (ws := [Cond.code y_U_page b_U_page 3 (some .int)]) B.pre _ List.mem_cons_self)) hown (by decide +kernel) (by decide +kernel) (at_89_U hT hH) (ux_T_at hT tw_571 rfl) (ux_T_at hT tw_19 rfl) (by rw [hml]; exact hl.1) d_U_page_52 d_U_page_55 d_U_page_56 d_U_page_59 (Nat.le_of_ble_eq_true rfl) (Nat.le_of_ble_eq_true rfl) (Nat.le_of_ble_eq_true rfl) (Nat.le_of_ble_eq_true rfl) (Nat.le_of_ble_eq_true rfl) (Nat.le_of_ble_eq_true rfl) hS hns
  · refine lv_iload_n hx hb d_U_page_5 rfl (lv_at hl 1 rfl) ?_
    refine lv_bipush (v := 64) hx hb d_U_page_6 (by decide) ?_
    refine lv_icmp_gt (tgt := 35) hx hb d_U_page_8 (by decide) (fun hc2 => ?_) (fun hc2 => ?_)
    · refine lv_iconst (v := 0) hx hb d_U_page_35 (by decide) ?_
      refine lv_istore_n hx hb d_U_page_36 rfl hl (by decide) rfl (fun ls hl => ?_)
      have hl : lv_has ls 3 [(2, .int 0), (0, .ref h0), (1, .int p0)] := hl
      refine lv_iload_n hx hb d_U_page_37 rfl (lv_at hl 0 rfl) ?_
      refine lv_if_eq (tgt := 52) hx hb d_U_page_38 (by decide) (fun _ => ?_) (fun hc => absurd (by decide) hc)
      exact ux_throwX (own := "UnikernelHttp") (E := "java/lang/IllegalArgumentException") (names := ["java/lang/RuntimeException", "java/lang/Exception"]) (ic := 89) (iN := 87) hx (ux_off hfl B.admits) hb hlocks (B.noHandlers (atoms_spec (ws := [Cond.code y_U_page b_U_page 3 (some .int)]) B.pre _ List.mem_cons_self)) hown (by decide +kernel) (by decide +kernel) (at_89_U hT hH) (ux_T_at hT tw_571 rfl) (ux_T_at hT tw_19 rfl) (by rw [hml]; exact hl.1) d_U_page_52 d_U_page_55 d_U_page_56 d_U_page_59 (Nat.le_of_ble_eq_true rfl) (Nat.le_of_ble_eq_true rfl) (Nat.le_of_ble_eq_true rfl) (Nat.le_of_ble_eq_true rfl) (Nat.le_of_ble_eq_true rfl) (Nat.le_of_ble_eq_true rfl) hS hns
    · refine lv_iload_n hx hb d_U_page_11 rfl (lv_at hl 1 rfl) ?_
      refine lv_aload_n hx hb d_U_page_12 rfl (lv_at hl 0 rfl) ?_
      refine va_get (D := (dC, dI)) (ci := 0) (v := .int 0) (C := R_U) (T := F_U) (N := 14) hx hb (u_U hT) (fun _ h => h) hown hK hP 0 rfl rfl 1 (by decide) (ux_T_at hT tw_444 rfl) (fun _ h9 => h9) rfl d_U_page_13 ?_
      refine lv_icmp_gt (tgt := 35) hx hb d_U_page_16 (by decide) (fun _ => ?_) (fun hc3 => by exfalso; simp only [Int32.lt_iff_toInt_lt, Int32.le_iff_toInt_le, ← Int32.toInt_inj, ux_l0, ux_l1, ux_l64] at hc3 hc1 hc2; omega)
      refine lv_iconst (v := 0) hx hb d_U_page_35 (by decide) ?_
      refine lv_istore_n hx hb d_U_page_36 rfl hl (by decide) rfl (fun ls hl => ?_)
      have hl : lv_has ls 3 [(2, .int 0), (0, .ref h0), (1, .int p0)] := hl
      refine lv_iload_n hx hb d_U_page_37 rfl (lv_at hl 0 rfl) ?_
      refine lv_if_eq (tgt := 52) hx hb d_U_page_38 (by decide) (fun _ => ?_) (fun hc => absurd (by decide) hc)
      exact ux_throwX (own := "UnikernelHttp") (E := "java/lang/IllegalArgumentException") (names := ["java/lang/RuntimeException", "java/lang/Exception"]) (ic := 89) (iN := 87) hx (ux_off hfl B.admits) hb hlocks (B.noHandlers (atoms_spec (ws := [Cond.code y_U_page b_U_page 3 (some .int)]) B.pre _ List.mem_cons_self)) hown (by decide +kernel) (by decide +kernel) (at_89_U hT hH) (ux_T_at hT tw_571 rfl) (ux_T_at hT tw_19 rfl) (by rw [hml]; exact hl.1) d_U_page_52 d_U_page_55 d_U_page_56 d_U_page_59 (Nat.le_of_ble_eq_true rfl) (Nat.le_of_ble_eq_true rfl) (Nat.le_of_ble_eq_true rfl) (Nat.le_of_ble_eq_true rfl) (Nat.le_of_ble_eq_true rfl) (Nat.le_of_ble_eq_true rfl) hS hns
set_option maxHeartbeats 4000000 in
set_option maxRecDepth 100000 in
theorem c_U_damage (l : Launch) (hfl : l.flags = flags0) (dC : Nat → ClassId) (dI : Nat → Nat → Nat) (h0 : Nat) (row : Nat) (nb : Nat) (wi : Nat) (ga : Nat) (sg : Nat) (tc : Nat) (st : Nat) (hp : Nat) (ec : Nat) (s1 : Nat) (s2 : Nat) (s3 : Nat) (s4 : Nat) (s5 : Nat) (p0 : Int32) (p1 : Int32) (p2 : Int32) (sz : Nat) : ux_Met l y_U_damage [Cond.code y_U_damage b_U_damage 5 (some .int)] ({ frames := 100, cells := 1, slots := 6, locals := 1500 }) (ux_PcH [.ref h0, .int p0, .int p1, .int p2] (dC, dI) cls [(h0, .inr (0, [.ref row, .int 0, .int 0, .ref nb, .ref wi, .ref ga, .ref sg, .ref tc, .ref st, .ref hp, .ref ec, .ref row, .int 0, .int 0])), (st, .inr (10, [.ref s1, .ref s2, .ref s3, .ref s4, .ref s5, .int 0]))] [] sz) (ux_X "java/lang/IndexOutOfBoundsException" (va_A [(h0, .inr (0, [.ref row, .int 0, .int 0, .ref nb, .ref wi, .ref ga, .ref sg, .ref tc, .ref st, .ref hp, .ref ec, .ref row, .int 0, .int 0])), (st, .inr (10, [.ref s1, .ref s2, .ref s3, .ref s4, .ref s5, .int 0]))] sz)) 1 6 (va_A [(h0, .inr (0, [.ref row, .int 0, .int 0, .ref nb, .ref wi, .ref ga, .ref sg, .ref tc, .ref st, .ref hp, .ref ec, .ref row, .int 0, .int 0])), (st, .inr (10, [.ref s1, .ref s2, .ref s3, .ref s4, .ref s5, .int 0]))] sz) := by
  refine ux_ofW (cc := b_U_damage) (maxL := 5) (ret := some .int) (by decide) rfl ?_
  intro p e s m args below meth c s₁ B hml hv
  obtain ⟨⟨rfl, hsz, hP, hK, hD0, hT⟩, hH⟩ := hv
  have hx := B.exec
  have hb := B.bytes
  have hr := B.returns
  have hown : s.vm.findClass "UnikernelHttp" = some m.cls := findClass_of_methodNamed B.named
  have hlocks := B.notSynchronized
  subst hsz
  have hD := hD0.self (sz := s.heap.size)
  have hns := ux_ns hP
  generalize hAe : va_A [(h0, .inr (0, [.ref row, .int 0, .int 0, .ref nb, .ref wi, .ref ga, .ref sg, .ref tc, .ref st, .ref hp, .ref ec, .ref row, .int 0, .int 0])), (st, .inr (10, [.ref s1, .ref s2, .ref s3, .ref s4, .ref s5, .int 0]))] s.heap.size = A at hD hns ⊢
  have hA : ∀ q : Nat, s.heap.size ≤ q → A q := fun q h => by rw [← hAe]; exact Or.inr h
  have hS : va_S A s.heap s.heap [] := va_S.rf
  have hl := lv_entry ([.ref h0, .int p0, .int p1, .int p2]) (n := 5) (Nat.le_of_ble_eq_true rfl)
  rw [lg_entry_eq]
  generalize (lg_sl ([.ref h0, .int p0, .int p1, .int p2]) ++ List.replicate (5 - (lg_sl ([.ref h0, .int p0, .int p1, .int p2])).length) Slot.unset).toArray = ls at hl ⊢
  have hl : lv_has ls 5 [(0, .ref h0), (1, .int p0), (2, .int p1), (3, .int p2)] := hl
  have hfx : CallFix p m c b_U_damage 5 s ([.ref h0, .int p0, .int p1, .int p2] : List Value).toArray [] "UnikernelHttp" := ⟨hx, hb, hml, hown, fun _ h => by cases h⟩
  refine lv_iload_n hx hb d_U_damage_0 rfl (lv_at hl 1 rfl) ?_
  refine lv_if_lt (tgt := 32) hx hb d_U_damage_1 (by decide) (fun hc1 => ?_) (fun hc1 => ?_)
  · exact ux_throwX (own := "UnikernelHttp") (E := "java/lang/IndexOutOfBoundsException") (names := ["java/lang/RuntimeException", "java/lang/Exception"]) (ic := 137) (iN := 135) hx (ux_off hfl B.admits) hb hlocks (B.noHandlers (atoms_spec (ws := [Cond.code y_U_damage b_U_damage 5 (some .int)]) B.pre _ List.mem_cons_self)) hown (by decide +kernel) (by decide +kernel) (at_137_U hT hH) (ux_T_at hT tw_1365 rfl) (ux_T_at hT tw_31 rfl) (by rw [hml]; exact hl.1) d_U_damage_32 d_U_damage_35 d_U_damage_36 d_U_damage_39 (Nat.le_of_ble_eq_true rfl) (Nat.le_of_ble_eq_true rfl) (Nat.le_of_ble_eq_true rfl) (Nat.le_of_ble_eq_true rfl) (Nat.le_of_ble_eq_true rfl) (Nat.le_of_ble_eq_true rfl) hS hns
  · refine lv_iload_n hx hb d_U_damage_4 rfl (lv_at hl 1 rfl) ?_
    refine lv_aload_n hx hb d_U_damage_5 rfl (lv_at hl 0 rfl) ?_
    refine va_get (D := (dC, dI)) (ci := 0) (v := .ref st) (C := R_U) (T := F_U) (N := 14) hx hb (u_U hT) (fun _ h => h) hown hK hP 0 rfl rfl 8 (by decide) (ux_T_at hT tw_451 rfl) (fun _ h9 => h9) rfl d_U_damage_6 ?_
    refine va_getN (D := (dC, dI)) (ci := 10) (v := .int 0) (C := R_So) (T := F_So) (N := 6) hx hb (u_So hT) (fun _ h => h) hown hK hP 1 rfl rfl 5 (by decide) (ux_T_at hT tw_406 rfl) (fun _ h9 => h9) rfl d_U_damage_9 ?_
    refine lv_icmp_ge (tgt := 32) hx hb d_U_damage_12 (by decide) (fun _ => ?_) (fun hc2 => by exfalso; simp only [Int32.lt_iff_toInt_lt, Int32.le_iff_toInt_le, ← Int32.toInt_inj, ux_l0] at hc2 hc1; omega)
    exact ux_throwX (own := "UnikernelHttp") (E := "java/lang/IndexOutOfBoundsException") (names := ["java/lang/RuntimeException", "java/lang/Exception"]) (ic := 137) (iN := 135) hx (ux_off hfl B.admits) hb hlocks (B.noHandlers (atoms_spec (ws := [Cond.code y_U_damage b_U_damage 5 (some .int)]) B.pre _ List.mem_cons_self)) hown (by decide +kernel) (by decide +kernel) (at_137_U hT hH) (ux_T_at hT tw_1365 rfl) (ux_T_at hT tw_31 rfl) (by rw [hml]; exact hl.1) d_U_damage_32 d_U_damage_35 d_U_damage_36 d_U_damage_39 (Nat.le_of_ble_eq_true rfl) (Nat.le_of_ble_eq_true rfl) (Nat.le_of_ble_eq_true rfl) (Nat.le_of_ble_eq_true rfl) (Nat.le_of_ble_eq_true rfl) (Nat.le_of_ble_eq_true rfl) hS hns
set_option maxHeartbeats 4000000 in
set_option maxRecDepth 100000 in
theorem c_U_tick_ok (l : Launch) (dC : Nat → ClassId) (dI : Nat → Nat → Nat) (h0 : Nat) (row : Nat) (nb : Nat) (wi : Nat) (ga : Nat) (sg : Nat) (tc : Nat) (st : Nat) (hp : Nat) (ec : Nat) (w1 : Nat) (w2 : Nat) (g1 : Nat) (t1 : Nat) (t2 : Nat) (p0 : Int32) (hn : 0 ≤ p0.toInt ∧ p0.toInt ≤ 100000) (sz : Nat) : Met l y_U_tick [Cond.code y_U_tick b_U_tick 9 (some .int)] ({ frames := 100, cells := 0, slots := 0, locals := 1500 }) (ux_Pc [.ref h0, .int p0] (dC, dI) cls [(h0, .inr (0, [.ref row, .int 0, .int 0, .ref nb, .ref wi, .ref ga, .ref sg, .ref tc, .ref st, .ref hp, .ref ec, .ref row, .int 0, .int 0])), (wi, .inr (2, [.ref nb, .ref w1, .ref w2, .int 0, .int 0])), (ga, .inr (3, [.ref g1, .int 0])), (tc, .inr (6, [.ref t1, .ref t2, .ref wi, .int 0, .int 0]))] [] sz) (va_Qi (fun (r : Int32) (_ : Unit) => r = 0) (fun (_ : Unit) (t : State) => ux_B (dC, dI) cls (va_A [(h0, .inr (0, [.ref row, .int 0, .int 0, .ref nb, .ref wi, .ref ga, .ref sg, .ref tc, .ref st, .ref hp, .ref ec, .ref row, .int 0, .int 0])), (wi, .inr (2, [.ref nb, .ref w1, .ref w2, .int 0, .int 0])), (ga, .inr (3, [.ref g1, .int 0])), (tc, .inr (6, [.ref t1, .ref t2, .ref wi, .int 0, .int 0]))] sz) [] [] t) (va_A [(h0, .inr (0, [.ref row, .int 0, .int 0, .ref nb, .ref wi, .ref ga, .ref sg, .ref tc, .ref st, .ref hp, .ref ec, .ref row, .int 0, .int 0])), (wi, .inr (2, [.ref nb, .ref w1, .ref w2, .int 0, .int 0])), (ga, .inr (3, [.ref g1, .int 0])), (tc, .inr (6, [.ref t1, .ref t2, .ref wi, .int 0, .int 0]))] sz)) 0 0 (va_A [(h0, .inr (0, [.ref row, .int 0, .int 0, .ref nb, .ref wi, .ref ga, .ref sg, .ref tc, .ref st, .ref hp, .ref ec, .ref row, .int 0, .int 0])), (wi, .inr (2, [.ref nb, .ref w1, .ref w2, .int 0, .int 0])), (ga, .inr (3, [.ref g1, .int 0])), (tc, .inr (6, [.ref t1, .ref t2, .ref wi, .int 0, .int 0]))] sz) := by
  refine Met.ofW (cc := b_U_tick) (maxL := 9) (ret := some .int) (by decide) rfl ?_
  intro p e s m args below meth c s₁ B hml hv
  obtain ⟨rfl, hsz, hP, hK, hD0, hT⟩ := hv
  have hx := B.exec
  have hb := B.bytes
  have hr := B.returns
  have hown : s.vm.findClass "UnikernelHttp" = some m.cls := findClass_of_methodNamed B.named
  have hlocks := B.notSynchronized
  subst hsz
  have hD := hD0.self (sz := s.heap.size)
  have hns := ux_ns hP
  generalize hAe : va_A [(h0, .inr (0, [.ref row, .int 0, .int 0, .ref nb, .ref wi, .ref ga, .ref sg, .ref tc, .ref st, .ref hp, .ref ec, .ref row, .int 0, .int 0])), (wi, .inr (2, [.ref nb, .ref w1, .ref w2, .int 0, .int 0])), (ga, .inr (3, [.ref g1, .int 0])), (tc, .inr (6, [.ref t1, .ref t2, .ref wi, .int 0, .int 0]))] s.heap.size = A at hD hns ⊢
  have hA : ∀ q : Nat, s.heap.size ≤ q → A q := fun q h => by rw [← hAe]; exact Or.inr h
  have hS : va_S A s.heap s.heap [] := va_S.rf
  have hl := lv_entry ([.ref h0, .int p0]) (n := 9) (Nat.le_of_ble_eq_true rfl)
  rw [lg_entry_eq]
  generalize (lg_sl ([.ref h0, .int p0]) ++ List.replicate (9 - (lg_sl ([.ref h0, .int p0])).length) Slot.unset).toArray = ls at hl ⊢
  have hl : lv_has ls 9 [(0, .ref h0), (1, .int p0)] := hl
  have hfx : CallFix p m c b_U_tick 9 s ([.ref h0, .int p0] : List Value).toArray [] "UnikernelHttp" := ⟨hx, hb, hml, hown, fun _ h => by cases h⟩
  refine lv_iload_n hx hb d_U_tick_0 rfl (lv_at hl 1 rfl) ?_
  refine lv_if_lt (tgt := 10) hx hb d_U_tick_1 (by decide) (fun hc1 => by exfalso; simp only [Int32.lt_iff_toInt_lt, Int32.le_iff_toInt_le, ← Int32.toInt_inj, ux_l0] at hc1; omega) (fun _ => ?_)
  refine lv_iload_n hx hb d_U_tick_4 rfl (lv_at hl 1 rfl) ?_
  refine lv_ldc (own := "UnikernelHttp") (v := 100000) hx hb hown (ux_T_at hT tw_1387 rfl) d_U_tick_5 ?_
  refine lv_icmp_le (tgt := 18) hx hb d_U_tick_7 (by decide) (fun _ => ?_) (fun hc2 => by exfalso; simp only [Int32.lt_iff_toInt_lt, Int32.le_iff_toInt_le, ← Int32.toInt_inj, ux_l100000] at hc2; omega)
  refine lv_aload_n hx hb d_U_tick_18 rfl (lv_at hl 0 rfl) ?_
  refine va_get (D := (dC, dI)) (ci := 0) (v := .ref wi) (C := R_U) (T := F_U) (N := 14) hx hb (u_U hT) (fun _ h => h) hown hK hP 0 rfl rfl 4 (by decide) (ux_T_at hT tw_447 rfl) (fun _ h9 => h9) rfl d_U_tick_19 ?_
  refine va_getN (D := (dC, dI)) (ci := 2) (v := .int 0) (C := R_Wi) (T := F_Wi) (N := 5) hx hb (u_Wi hT) (fun _ h => h) hown hK hP 1 rfl rfl 3 (by decide) (ux_T_at hT tw_81 rfl) (fun _ h9 => h9) rfl d_U_tick_22 ?_
  refine lv_istore_n hx hb d_U_tick_25 rfl hl (by decide) rfl (fun ls hl => ?_)
  have hl : lv_has ls 9 [(2, .int 0), (0, .ref h0), (1, .int p0)] := hl
  refine lv_aload_n hx hb d_U_tick_26 rfl (lv_at hl 1 rfl) ?_
  refine va_get (D := (dC, dI)) (ci := 0) (v := .int 0) (C := R_U) (T := F_U) (N := 14) hx hb (u_U hT) (fun _ h => h) hown hK hP 0 rfl rfl 2 (by decide) (ux_T_at hT tw_445 rfl) (fun _ h9 => h9) rfl d_U_tick_27 ?_
  refine lv_iload_n hx hb d_U_tick_30 rfl (lv_at hl 2 rfl) ?_
  refine lv_iadd hx hb d_U_tick_31 ?_
  refine lv_topi (fun x3 ex3 => ?_)
  refine lv_istore_n hx hb d_U_tick_32 rfl hl (by decide) rfl (fun ls hl => ?_)
  have hl : lv_has ls 9 [(3, .int x3), (2, .int 0), (0, .ref h0), (1, .int p0)] := hl
  refine lv_iconst (v := 0) hx hb d_U_tick_33 (by decide) ?_
  refine lv_istore hx hb d_U_tick_34 hl (by decide) rfl (fun ls hl => ?_)
  have hl : lv_has ls 9 [(4, .int 0), (3, .int x3), (2, .int 0), (0, .ref h0), (1, .int p0)] := hl
  refine lv_iload hx hb d_U_tick_36 (lv_at hl 0 rfl) ?_
  refine lv_sipush (v := 10000) hx hb d_U_tick_38 (by decide) ?_
  refine lv_icmp_ge (tgt := 152) hx hb d_U_tick_41 (by decide) (fun hc => absurd hc (by decide)) (fun _ => ?_)
  refine lv_aload_n hx hb d_U_tick_44 rfl (lv_at hl 3 rfl) ?_
  refine va_get (D := (dC, dI)) (ci := 0) (v := .ref ga) (C := R_U) (T := F_U) (N := 14) hx hb (u_U hT) (fun _ h => h) hown hK hP 0 rfl rfl 5 (by decide) (ux_T_at hT tw_448 rfl) (fun _ h9 => h9) rfl d_U_tick_45 ?_
  have hPc := hP.sub (ws' := [(ga, .inr (3, [.ref g1, .int 0]))]) [2] rfl
  have hDc := hD.sub (ws' := [(ga, .inr (3, [.ref g1, .int 0]))]) [2] (by decide) rfl
  have hKc := hK.sub (tys' := []) [] rfl
  have hFc := va_free (wc := [(ga, .inr (3, [.ref g1, .int 0]))]) hD hS hA [2] rfl
  have hkc : 0 + 0 ≤ 0 := (Nat.le_of_ble_eq_true rfl)
  refine va_calli (va_runVN (As := []) (rest := []) hfx (c_Gs_due l dC dI ga g1 s.heap.size) ⟨(ux_cn 0 hT tw_1391 tw_1388 tw_4 rfl rfl (by decide +kernel) ⟨(Nat.le_of_ble_eq_true rfl), (Nat.le_of_ble_eq_true rfl)⟩), (ux_T_at hT tw_1390 rfl), (ux_T_at hT (ux_tp (q := (⟨"UnikernelHttp$Gatherings", "due", "()I"⟩, 2)) (by decide +kernel)) rfl)⟩ (ux_preV (r := (R_Gs, F_Gs, 2)) (ci := 3) (q0 := 0) [] hT hPc hKc hDc rfl rfl) rfl rfl hl.1 rfl (lv_room (Nat.le_of_ble_eq_true rfl)) d_U_tick_48 ⟨(Nat.le_of_ble_eq_true rfl), (Nat.le_of_ble_eq_true rfl)⟩) hS (fun q _ h => hFc q h) hFc (fun r4 u t H1 locs ht hvm hw hB hz1 hk1 hS => ?_)
  obtain ⟨hP1, hK1, hD1⟩ := hB
  rw [ht] at hP1
  have hK1 := va_K.moved hvm.symm hK1
  obtain ⟨hP, hD⟩ := va_join (wr := [(h0, .inr (0, [.ref row, .int 0, .int 0, .ref nb, .ref wi, .ref ga, .ref sg, .ref tc, .ref st, .ref hp, .ref ec, .ref row, .int 0, .int 0])), (wi, .inr (2, [.ref nb, .ref w1, .ref w2, .int 0, .int 0])), (tc, .inr (6, [.ref t1, .ref t2, .ref wi, .int 0, .int 0]))]) (w1 := [(ga, .inr (3, [.ref g1, .int 0]))]) hP hD [2] [0, 1, 3] rfl rfl (by decide) (by decide) hk1 hFc hP1 hD1
  have hK := (hK.sub (tys' := []) [] rfl).app hK1
  generalize H1 = H at hP hS ⊢
  have hP : va_P (dC, dI) cls [(h0, .inr (0, [.ref row, .int 0, .int 0, .ref nb, .ref wi, .ref ga, .ref sg, .ref tc, .ref st, .ref hp, .ref ec, .ref row, .int 0, .int 0])), (wi, .inr (2, [.ref nb, .ref w1, .ref w2, .int 0, .int 0])), (tc, .inr (6, [.ref t1, .ref t2, .ref wi, .int 0, .int 0])), (ga, .inr (3, [.ref g1, .int 0]))] H := hP
  have hD : va_D A [(h0, .inr (0, [.ref row, .int 0, .int 0, .ref nb, .ref wi, .ref ga, .ref sg, .ref tc, .ref st, .ref hp, .ref ec, .ref row, .int 0, .int 0])), (wi, .inr (2, [.ref nb, .ref w1, .ref w2, .int 0, .int 0])), (tc, .inr (6, [.ref t1, .ref t2, .ref wi, .int 0, .int 0])), (ga, .inr (3, [.ref g1, .int 0]))] := hD
  have hK : va_K (dC, dI) cls [] s := hK
  obtain rfl : r4 = 2147483647 := hw
  refine lv_istore hx hb d_U_tick_51 hl (by decide) rfl (fun ls hl => ?_)
  have hl : lv_has ls 9 [(5, .int 2147483647), (4, .int 0), (3, .int x3), (2, .int 0), (0, .ref h0), (1, .int p0)] := hl
  refine lv_aload_n hx hb d_U_tick_53 rfl (lv_at hl 4 rfl) ?_
  refine va_get (D := (dC, dI)) (ci := 0) (v := .ref tc) (C := R_U) (T := F_U) (N := 14) hx hb (u_U hT) (fun _ h => h) hown hK hP 0 rfl rfl 7 (by decide) (ux_T_at hT tw_450 rfl) (fun _ h9 => h9) rfl d_U_tick_54 ?_
  have hPc := hP.sub (ws' := [(tc, .inr (6, [.ref t1, .ref t2, .ref wi, .int 0, .int 0]))]) [2] rfl
  have hDc := hD.sub (ws' := [(tc, .inr (6, [.ref t1, .ref t2, .ref wi, .int 0, .int 0]))]) [2] (by decide) rfl
  have hKc := hK.sub (tys' := []) [] rfl
  have hFc := va_free (wc := [(tc, .inr (6, [.ref t1, .ref t2, .ref wi, .int 0, .int 0]))]) hD hS hA [2] rfl
  have hkc : 0 + 0 ≤ 0 := (Nat.le_of_ble_eq_true rfl)
  refine va_callq (va_runVN (As := []) (rest := []) hfx (c_Tc_firstDue l dC dI tc t1 t2 wi H.size) ⟨(ux_cn 0 hT tw_1396 tw_1393 tw_7 rfl rfl (by decide +kernel) ⟨(Nat.le_of_ble_eq_true rfl), (Nat.le_of_ble_eq_true rfl)⟩), (ux_T_at hT tw_1395 rfl), (ux_T_at hT (ux_tp (q := (⟨"UnikernelHttp$Tcp", "firstDue", "()LUnikernelHttp$Connection;"⟩, 5)) (by decide +kernel)) rfl)⟩ (ux_preV (r := (R_Tc, F_Tc, 5)) (ci := 6) (q0 := 0) [] hT hPc hKc hDc rfl rfl) rfl rfl hl.1 rfl (lv_room (Nat.le_of_ble_eq_true rfl)) d_U_tick_57 ⟨(Nat.le_of_ble_eq_true rfl), (Nat.le_of_ble_eq_true rfl)⟩) hS (fun q _ h => hFc q h) hFc (fun r5 u t H1 locs ht hvm hw hB hz1 hk1 hS => ?_)
  obtain ⟨hP1, hK1, hD1⟩ := hB
  rw [ht] at hP1
  have hK1 := va_K.moved hvm.symm hK1
  obtain ⟨hP, hD⟩ := va_join (wr := [(h0, .inr (0, [.ref row, .int 0, .int 0, .ref nb, .ref wi, .ref ga, .ref sg, .ref tc, .ref st, .ref hp, .ref ec, .ref row, .int 0, .int 0])), (wi, .inr (2, [.ref nb, .ref w1, .ref w2, .int 0, .int 0])), (ga, .inr (3, [.ref g1, .int 0]))]) (w1 := [(tc, .inr (6, [.ref t1, .ref t2, .ref wi, .int 0, .int 0]))]) hP hD [2] [0, 1, 3] rfl rfl (by decide) (by decide) hk1 hFc hP1 hD1
  have hK := (hK.sub (tys' := []) [] rfl).app hK1
  generalize H1 = H at hP hS ⊢
  have hP : va_P (dC, dI) cls [(h0, .inr (0, [.ref row, .int 0, .int 0, .ref nb, .ref wi, .ref ga, .ref sg, .ref tc, .ref st, .ref hp, .ref ec, .ref row, .int 0, .int 0])), (wi, .inr (2, [.ref nb, .ref w1, .ref w2, .int 0, .int 0])), (ga, .inr (3, [.ref g1, .int 0])), (tc, .inr (6, [.ref t1, .ref t2, .ref wi, .int 0, .int 0]))] H := hP
  have hD : va_D A [(h0, .inr (0, [.ref row, .int 0, .int 0, .ref nb, .ref wi, .ref ga, .ref sg, .ref tc, .ref st, .ref hp, .ref ec, .ref row, .int 0, .int 0])), (wi, .inr (2, [.ref nb, .ref w1, .ref w2, .int 0, .int 0])), (ga, .inr (3, [.ref g1, .int 0])), (tc, .inr (6, [.ref t1, .ref t2, .ref wi, .int 0, .int 0]))] := hD
  have hK : va_K (dC, dI) cls [] s := hK
  obtain rfl : r5 = none := hw
  refine W.eq (g2 := F0 m 60 ls [.null]) rfl ?_
  refine lv_astoreN hx hb d_U_tick_60 hl (by decide) rfl (fun ls hl => ?_)
  have hl : lv_has ls 9 [(6, .null), (5, .int 2147483647), (4, .int 0), (3, .int x3), (2, .int 0), (0, .ref h0), (1, .int p0)] := hl
  refine lv_aloadN hx hb d_U_tick_62 (lv_at hl 0 rfl) ?_
  refine lv_ifnonnullN hx hb d_U_tick_64 ?_
  refine lv_ldc (own := "UnikernelHttp") (v := 2147483647) hx hb hown (ux_T_at hT tw_1401 rfl) d_U_tick_67 ?_
  refine lv_goto hx hb d_U_tick_69 (tgt := 77) (by decide) ?_
  refine lv_istore hx hb d_U_tick_77 hl (by decide) rfl (fun ls hl => ?_)
  have hl : lv_has ls 9 [(7, .int 2147483647), (6, .null), (5, .int 2147483647), (4, .int 0), (3, .int x3), (2, .int 0), (0, .ref h0), (1, .int p0)] := hl
  refine lv_iload hx hb d_U_tick_79 (lv_at hl 2 rfl) ?_
  refine lv_iload hx hb d_U_tick_81 (lv_at hl 0 rfl) ?_
  refine va_mmin hx hb (by rw [hml]; exact hl.1.symm) hown (ux_T_at hT tw_1403 rfl) (ux_T_at hT tw_754 rfl) (ux_T_at hT tw_21 rfl) (ux_T_at hT tw_755 rfl) (Nat.le_of_ble_eq_true rfl) (Nat.le_of_ble_eq_true rfl) (Nat.le_of_ble_eq_true rfl) (Nat.le_of_ble_eq_true rfl) d_U_tick_83 ?_
  refine lv_topi (fun x6 ex6 => ?_)
  obtain rfl : x6 = 2147483647 := ex6.trans (by decide)
  refine lv_istore hx hb d_U_tick_86 hl (by decide) rfl (fun ls hl => ?_)
  have hl : lv_has ls 9 [(8, .int 2147483647), (7, .int 2147483647), (6, .null), (5, .int 2147483647), (4, .int 0), (3, .int x3), (2, .int 0), (0, .ref h0), (1, .int p0)] := hl
  refine lv_iload hx hb d_U_tick_88 (lv_at hl 0 rfl) ?_
  refine lv_ldc (own := "UnikernelHttp") (v := 2147483647) hx hb hown (ux_T_at hT tw_1401 rfl) d_U_tick_90 ?_
  refine lv_icmp_eq (tgt := 152) hx hb d_U_tick_92 (by decide) (fun _ => ?_) (fun hc => absurd (by decide) hc)
  refine lv_aload_n hx hb d_U_tick_152 rfl (lv_at hl 7 rfl) ?_
  refine lv_iload_n hx hb d_U_tick_153 rfl (lv_at hl 5 rfl) ?_
  refine va_put (D := (dC, dI)) (ci := 0) (v := .int x3) (ty := .int) (C := R_U) (T := F_U) (N := 14) hx hb (u_U hT) (fun _ h => h) t_U k_U n_U hown hK hP hD hS 0 rfl rfl 2 (by decide) (ux_T_at hT tw_445 rfl) (fun _ h9 => h9) rfl (by decide +kernel) rfl rfl (Nat.le_of_ble_eq_true rfl) d_U_tick_154 (fun H locs hP hD hS => ?_)
  have hP : va_P (dC, dI) cls [(h0, .inr (0, [.ref row, .int 0, .int x3, .ref nb, .ref wi, .ref ga, .ref sg, .ref tc, .ref st, .ref hp, .ref ec, .ref row, .int 0, .int 0])), (wi, .inr (2, [.ref nb, .ref w1, .ref w2, .int 0, .int 0])), (ga, .inr (3, [.ref g1, .int 0])), (tc, .inr (6, [.ref t1, .ref t2, .ref wi, .int 0, .int 0]))] H := hP
  have hD : va_D A [(h0, .inr (0, [.ref row, .int 0, .int x3, .ref nb, .ref wi, .ref ga, .ref sg, .ref tc, .ref st, .ref hp, .ref ec, .ref row, .int 0, .int 0])), (wi, .inr (2, [.ref nb, .ref w1, .ref w2, .int 0, .int 0])), (ga, .inr (3, [.ref g1, .int 0])), (tc, .inr (6, [.ref t1, .ref t2, .ref wi, .int 0, .int 0]))] := hD
  refine lv_aload_n hx hb d_U_tick_157 rfl (lv_at hl 7 rfl) ?_
  refine va_get (D := (dC, dI)) (ci := 0) (v := .ref wi) (C := R_U) (T := F_U) (N := 14) hx hb (u_U hT) (fun _ h => h) hown hK hP 0 rfl rfl 4 (by decide) (ux_T_at hT tw_447 rfl) (fun _ h9 => h9) rfl d_U_tick_158 ?_
  refine va_getN (D := (dC, dI)) (ci := 2) (v := .int 0) (C := R_Wi) (T := F_Wi) (N := 5) hx hb (u_Wi hT) (fun _ h => h) hown hK hP 1 rfl rfl 3 (by decide) (ux_T_at hT tw_81 rfl) (fun _ h9 => h9) rfl d_U_tick_161 ?_
  refine lv_iload_n hx hb d_U_tick_164 rfl (lv_at hl 6 rfl) ?_
  refine lv_isub hx hb d_U_tick_165 ?_
  refine lv_topi (fun x7 ex7 => ?_)
  obtain rfl : x7 = 0 := ex7.trans (by decide)
  have hP9 := hP.sub (ws' := []) [] rfl
  have hD9 := hD.sub (ws' := []) [] (by decide) rfl
  have hK9 := hK.sub (tys' := []) [] rfl
  refine W.widen (k := 0) (n := 0) (Nat.le_of_ble_eq_true rfl) (Nat.le_of_ble_eq_true rfl) ?_
  exact W.iret (v := 0) hx hb hr (fun t ht hW => ⟨⟨_, (), rfl, rfl, by rw [ht]; exact hP9, va_K.moved hW.alike hK9, hD9⟩, hS.F ht⟩) hS.2.2 d_U_tick_166
set_option maxHeartbeats 4000000 in
set_option maxRecDepth 100000 in
theorem c_U_tick_no (l : Launch) (hfl : l.flags = flags0) (dC : Nat → ClassId) (dI : Nat → Nat → Nat) (h0 : Nat) (row : Nat) (nb : Nat) (wi : Nat) (ga : Nat) (sg : Nat) (tc : Nat) (st : Nat) (hp : Nat) (ec : Nat) (p0 : Int32) (hn : p0.toInt < 0 ∨ 100000 < p0.toInt) (sz : Nat) : ux_Met l y_U_tick [Cond.code y_U_tick b_U_tick 9 (some .int)] ({ frames := 100, cells := 1, slots := 6, locals := 1500 }) (ux_PcH [.ref h0, .int p0] (dC, dI) cls [(h0, .inr (0, [.ref row, .int 0, .int 0, .ref nb, .ref wi, .ref ga, .ref sg, .ref tc, .ref st, .ref hp, .ref ec, .ref row, .int 0, .int 0]))] [] sz) (ux_X "java/lang/IllegalArgumentException" (va_A [(h0, .inr (0, [.ref row, .int 0, .int 0, .ref nb, .ref wi, .ref ga, .ref sg, .ref tc, .ref st, .ref hp, .ref ec, .ref row, .int 0, .int 0]))] sz)) 1 6 (va_A [(h0, .inr (0, [.ref row, .int 0, .int 0, .ref nb, .ref wi, .ref ga, .ref sg, .ref tc, .ref st, .ref hp, .ref ec, .ref row, .int 0, .int 0]))] sz) := by
  refine ux_ofW (cc := b_U_tick) (maxL := 9) (ret := some .int) (by decide) rfl ?_
  intro p e s m args below meth c s₁ B hml hv
  obtain ⟨⟨rfl, hsz, hP, hK, hD0, hT⟩, hH⟩ := hv
  have hx := B.exec
  have hb := B.bytes
  have hr := B.returns
  have hown : s.vm.findClass "UnikernelHttp" = some m.cls := findClass_of_methodNamed B.named
  have hlocks := B.notSynchronized
  subst hsz
  have hD := hD0.self (sz := s.heap.size)
  have hns := ux_ns hP
  generalize hAe : va_A [(h0, .inr (0, [.ref row, .int 0, .int 0, .ref nb, .ref wi, .ref ga, .ref sg, .ref tc, .ref st, .ref hp, .ref ec, .ref row, .int 0, .int 0]))] s.heap.size = A at hD hns ⊢
  have hA : ∀ q : Nat, s.heap.size ≤ q → A q := fun q h => by rw [← hAe]; exact Or.inr h
  have hS : va_S A s.heap s.heap [] := va_S.rf
  have hl := lv_entry ([.ref h0, .int p0]) (n := 9) (Nat.le_of_ble_eq_true rfl)
  rw [lg_entry_eq]
  generalize (lg_sl ([.ref h0, .int p0]) ++ List.replicate (9 - (lg_sl ([.ref h0, .int p0])).length) Slot.unset).toArray = ls at hl ⊢
  have hl : lv_has ls 9 [(0, .ref h0), (1, .int p0)] := hl
  have hfx : CallFix p m c b_U_tick 9 s ([.ref h0, .int p0] : List Value).toArray [] "UnikernelHttp" := ⟨hx, hb, hml, hown, fun _ h => by cases h⟩
  refine lv_iload_n hx hb d_U_tick_0 rfl (lv_at hl 1 rfl) ?_
  refine lv_if_lt (tgt := 10) hx hb d_U_tick_1 (by decide) (fun hc1 => ?_) (fun hc1 => ?_)
  · exact ux_throwX (own := "UnikernelHttp") (E := "java/lang/IllegalArgumentException") (names := ["java/lang/RuntimeException", "java/lang/Exception"]) (ic := 89) (iN := 87) hx (ux_off hfl B.admits) hb hlocks (B.noHandlers (atoms_spec (ws := [Cond.code y_U_tick b_U_tick 9 (some .int)]) B.pre _ List.mem_cons_self)) hown (by decide +kernel) (by decide +kernel) (at_89_U hT hH) (ux_T_at hT tw_571 rfl) (ux_T_at hT tw_19 rfl) (by rw [hml]; exact hl.1) d_U_tick_10 d_U_tick_13 d_U_tick_14 d_U_tick_17 (Nat.le_of_ble_eq_true rfl) (Nat.le_of_ble_eq_true rfl) (Nat.le_of_ble_eq_true rfl) (Nat.le_of_ble_eq_true rfl) (Nat.le_of_ble_eq_true rfl) (Nat.le_of_ble_eq_true rfl) hS hns
  · refine lv_iload_n hx hb d_U_tick_4 rfl (lv_at hl 1 rfl) ?_
    refine lv_ldc (own := "UnikernelHttp") (v := 100000) hx hb hown (ux_T_at hT tw_1387 rfl) d_U_tick_5 ?_
    refine lv_icmp_le (tgt := 18) hx hb d_U_tick_7 (by decide) (fun hc2 => by exfalso; simp only [Int32.lt_iff_toInt_lt, Int32.le_iff_toInt_le, ← Int32.toInt_inj, ux_l0, ux_l100000] at hc2 hc1; omega) (fun _ => ?_)
    exact ux_throwX (own := "UnikernelHttp") (E := "java/lang/IllegalArgumentException") (names := ["java/lang/RuntimeException", "java/lang/Exception"]) (ic := 89) (iN := 87) hx (ux_off hfl B.admits) hb hlocks (B.noHandlers (atoms_spec (ws := [Cond.code y_U_tick b_U_tick 9 (some .int)]) B.pre _ List.mem_cons_self)) hown (by decide +kernel) (by decide +kernel) (at_89_U hT hH) (ux_T_at hT tw_571 rfl) (ux_T_at hT tw_19 rfl) (by rw [hml]; exact hl.1) d_U_tick_10 d_U_tick_13 d_U_tick_14 d_U_tick_17 (Nat.le_of_ble_eq_true rfl) (Nat.le_of_ble_eq_true rfl) (Nat.le_of_ble_eq_true rfl) (Nat.le_of_ble_eq_true rfl) (Nat.le_of_ble_eq_true rfl) (Nat.le_of_ble_eq_true rfl) hS hns
set_option maxHeartbeats 4000000 in
set_option maxRecDepth 100000 in
theorem c_U_size (l : Launch) (hfl : l.flags = flags0) (dC : Nat → ClassId) (dI : Nat → Nat → Nat) (h0 : Nat) (row : Nat) (nb : Nat) (wi : Nat) (ga : Nat) (sg : Nat) (tc : Nat) (st : Nat) (hp : Nat) (ec : Nat) (w1 : Nat) (w2 : Nat) (p0 : Int32) (sz : Nat) : ux_Met l y_U_size [Cond.code y_U_size b_U_size 2 (some .int)] ({ frames := 100, cells := 1, slots := 6, locals := 1500 }) (ux_PcH [.ref h0, .int p0] (dC, dI) cls [(h0, .inr (0, [.ref row, .int 0, .int 0, .ref nb, .ref wi, .ref ga, .ref sg, .ref tc, .ref st, .ref hp, .ref ec, .ref row, .int 0, .int 0])), (wi, .inr (2, [.ref nb, .ref w1, .ref w2, .int 0, .int 0]))] [] sz) (ux_X "java/lang/IndexOutOfBoundsException" (va_A [(h0, .inr (0, [.ref row, .int 0, .int 0, .ref nb, .ref wi, .ref ga, .ref sg, .ref tc, .ref st, .ref hp, .ref ec, .ref row, .int 0, .int 0])), (wi, .inr (2, [.ref nb, .ref w1, .ref w2, .int 0, .int 0]))] sz)) 1 6 (va_A [(h0, .inr (0, [.ref row, .int 0, .int 0, .ref nb, .ref wi, .ref ga, .ref sg, .ref tc, .ref st, .ref hp, .ref ec, .ref row, .int 0, .int 0])), (wi, .inr (2, [.ref nb, .ref w1, .ref w2, .int 0, .int 0]))] sz) := by
  refine ux_ofW (cc := b_U_size) (maxL := 2) (ret := some .int) (by decide) rfl ?_
  intro p e s m args below meth c s₁ B hml hv
  obtain ⟨⟨rfl, hsz, hP, hK, hD0, hT⟩, hH⟩ := hv
  have hx := B.exec
  have hb := B.bytes
  have hr := B.returns
  have hown : s.vm.findClass "UnikernelHttp" = some m.cls := findClass_of_methodNamed B.named
  have hlocks := B.notSynchronized
  subst hsz
  have hD := hD0.self (sz := s.heap.size)
  have hns := ux_ns hP
  generalize hAe : va_A [(h0, .inr (0, [.ref row, .int 0, .int 0, .ref nb, .ref wi, .ref ga, .ref sg, .ref tc, .ref st, .ref hp, .ref ec, .ref row, .int 0, .int 0])), (wi, .inr (2, [.ref nb, .ref w1, .ref w2, .int 0, .int 0]))] s.heap.size = A at hD hns ⊢
  have hA : ∀ q : Nat, s.heap.size ≤ q → A q := fun q h => by rw [← hAe]; exact Or.inr h
  have hS : va_S A s.heap s.heap [] := va_S.rf
  have hl := lv_entry ([.ref h0, .int p0]) (n := 2) (Nat.le_of_ble_eq_true rfl)
  rw [lg_entry_eq]
  generalize (lg_sl ([.ref h0, .int p0]) ++ List.replicate (2 - (lg_sl ([.ref h0, .int p0])).length) Slot.unset).toArray = ls at hl ⊢
  have hl : lv_has ls 2 [(0, .ref h0), (1, .int p0)] := hl
  have hfx : CallFix p m c b_U_size 2 s ([.ref h0, .int p0] : List Value).toArray [] "UnikernelHttp" := ⟨hx, hb, hml, hown, fun _ h => by cases h⟩
  refine lv_aload_n hx hb d_U_size_0 rfl (lv_at hl 0 rfl) ?_
  refine va_get (D := (dC, dI)) (ci := 0) (v := .ref wi) (C := R_U) (T := F_U) (N := 14) hx hb (u_U hT) (fun _ h => h) hown hK hP 0 rfl rfl 4 (by decide) (ux_T_at hT tw_447 rfl) (fun _ h9 => h9) rfl d_U_size_1 ?_
  refine lv_iload_n hx hb d_U_size_4 rfl (lv_at hl 1 rfl) ?_
  have hPc := hP.sub (ws' := [(wi, .inr (2, [.ref nb, .ref w1, .ref w2, .int 0, .int 0]))]) [1] rfl
  have hDc := hD.sub (ws' := [(wi, .inr (2, [.ref nb, .ref w1, .ref w2, .int 0, .int 0]))]) [1] (by decide) rfl
  have hKc := hK.sub (tys' := []) [] rfl
  have hFc := va_free (wc := [(wi, .inr (2, [.ref nb, .ref w1, .ref w2, .int 0, .int 0]))]) hD hS hA [1] rfl
  have hkc : 0 + 0 ≤ 1 := (Nat.le_of_ble_eq_true rfl)
  refine va_calli (va_runVN (As := [.int p0]) (rest := []) hfx (c_Wi_keeps l dC dI wi nb w1 w2 p0 s.heap.size) ⟨(ux_cn 1 hT tw_1434 tw_1431 tw_3 rfl rfl (by decide +kernel) ⟨(Nat.le_of_ble_eq_true rfl), (Nat.le_of_ble_eq_true rfl)⟩), (ux_T_at hT tw_1433 rfl), (ux_T_at hT (ux_tp (q := (⟨"UnikernelHttp$Wire", "keeps", "(I)Z"⟩, 5)) (by decide +kernel)) rfl)⟩ (ux_preV (r := (R_Wi, F_Wi, 5)) (ci := 2) (q0 := 0) [.int p0] hT hPc hKc hDc rfl rfl) rfl rfl hl.1 rfl (lv_room (Nat.le_of_ble_eq_true rfl)) d_U_size_5 ⟨(Nat.le_of_ble_eq_true rfl), (Nat.le_of_ble_eq_true rfl)⟩) hS (fun q _ h => hFc q h) hFc (fun r1 u t H1 locs ht hvm hw hB hz1 hk1 hS => ?_)
  obtain ⟨hP1, hK1, hD1⟩ := hB
  rw [ht] at hP1
  have hK1 := va_K.moved hvm.symm hK1
  obtain ⟨hP, hD⟩ := va_join (wr := [(h0, .inr (0, [.ref row, .int 0, .int 0, .ref nb, .ref wi, .ref ga, .ref sg, .ref tc, .ref st, .ref hp, .ref ec, .ref row, .int 0, .int 0]))]) (w1 := [(wi, .inr (2, [.ref nb, .ref w1, .ref w2, .int 0, .int 0]))]) hP hD [1] [0] rfl rfl (by decide) (by decide) hk1 hFc hP1 hD1
  have hK := (hK.sub (tys' := []) [] rfl).app hK1
  generalize H1 = H at hP hS ⊢
  have hP : va_P (dC, dI) cls [(h0, .inr (0, [.ref row, .int 0, .int 0, .ref nb, .ref wi, .ref ga, .ref sg, .ref tc, .ref st, .ref hp, .ref ec, .ref row, .int 0, .int 0])), (wi, .inr (2, [.ref nb, .ref w1, .ref w2, .int 0, .int 0]))] H := hP
  have hD : va_D A [(h0, .inr (0, [.ref row, .int 0, .int 0, .ref nb, .ref wi, .ref ga, .ref sg, .ref tc, .ref st, .ref hp, .ref ec, .ref row, .int 0, .int 0])), (wi, .inr (2, [.ref nb, .ref w1, .ref w2, .int 0, .int 0]))] := hD
  have hK : va_K (dC, dI) cls [] s := hK
  obtain rfl : r1 = 0 := hw
  refine lv_if_ne (tgt := 19) hx hb d_U_size_8 (by decide) (fun hc => absurd (by decide) hc) (fun _ => ?_)
  exact ux_throwX (own := "UnikernelHttp") (E := "java/lang/IndexOutOfBoundsException") (names := ["java/lang/RuntimeException", "java/lang/Exception"]) (ic := 137) (iN := 135) hx (ux_off hfl B.admits) hb hlocks (B.noHandlers (atoms_spec (ws := [Cond.code y_U_size b_U_size 2 (some .int)]) B.pre _ List.mem_cons_self)) hown (by decide +kernel) (by decide +kernel) (at_137_U hT hH) (ux_T_at hT tw_1365 rfl) (ux_T_at hT tw_31 rfl) (by rw [hml]; exact hl.1) d_U_size_11 d_U_size_14 d_U_size_15 d_U_size_18 (Nat.le_of_ble_eq_true rfl) (Nat.le_of_ble_eq_true rfl) (Nat.le_of_ble_eq_true rfl) (Nat.le_of_ble_eq_true rfl) (Nat.le_of_ble_eq_true rfl) (Nat.le_of_ble_eq_true rfl) hS hns
set_option maxHeartbeats 4000000 in
set_option maxRecDepth 100000 in
theorem c_U_bytes (l : Launch) (hfl : l.flags = flags0) (dC : Nat → ClassId) (dI : Nat → Nat → Nat) (h0 : Nat) (row : Nat) (nb : Nat) (wi : Nat) (ga : Nat) (sg : Nat) (tc : Nat) (st : Nat) (hp : Nat) (ec : Nat) (w1 : Nat) (w2 : Nat) (p0 : Int32) (p1 : Int32) (sz : Nat) : ux_Met l y_U_bytes [Cond.code y_U_bytes b_U_bytes 3 (some .long)] ({ frames := 100, cells := 1, slots := 6, locals := 1500 }) (ux_PcH [.ref h0, .int p0, .int p1] (dC, dI) cls [(h0, .inr (0, [.ref row, .int 0, .int 0, .ref nb, .ref wi, .ref ga, .ref sg, .ref tc, .ref st, .ref hp, .ref ec, .ref row, .int 0, .int 0])), (wi, .inr (2, [.ref nb, .ref w1, .ref w2, .int 0, .int 0]))] [] sz) (ux_X "java/lang/IndexOutOfBoundsException" (va_A [(h0, .inr (0, [.ref row, .int 0, .int 0, .ref nb, .ref wi, .ref ga, .ref sg, .ref tc, .ref st, .ref hp, .ref ec, .ref row, .int 0, .int 0])), (wi, .inr (2, [.ref nb, .ref w1, .ref w2, .int 0, .int 0]))] sz)) 1 6 (va_A [(h0, .inr (0, [.ref row, .int 0, .int 0, .ref nb, .ref wi, .ref ga, .ref sg, .ref tc, .ref st, .ref hp, .ref ec, .ref row, .int 0, .int 0])), (wi, .inr (2, [.ref nb, .ref w1, .ref w2, .int 0, .int 0]))] sz) := by
  refine ux_ofW (cc := b_U_bytes) (maxL := 3) (ret := some .long) (by decide) rfl ?_
  intro p e s m args below meth c s₁ B hml hv
  obtain ⟨⟨rfl, hsz, hP, hK, hD0, hT⟩, hH⟩ := hv
  have hx := B.exec
  have hb := B.bytes
  have hr := B.returns
  have hown : s.vm.findClass "UnikernelHttp" = some m.cls := findClass_of_methodNamed B.named
  have hlocks := B.notSynchronized
  subst hsz
  have hD := hD0.self (sz := s.heap.size)
  have hns := ux_ns hP
  generalize hAe : va_A [(h0, .inr (0, [.ref row, .int 0, .int 0, .ref nb, .ref wi, .ref ga, .ref sg, .ref tc, .ref st, .ref hp, .ref ec, .ref row, .int 0, .int 0])), (wi, .inr (2, [.ref nb, .ref w1, .ref w2, .int 0, .int 0]))] s.heap.size = A at hD hns ⊢
  have hA : ∀ q : Nat, s.heap.size ≤ q → A q := fun q h => by rw [← hAe]; exact Or.inr h
  have hS : va_S A s.heap s.heap [] := va_S.rf
  have hl := lv_entry ([.ref h0, .int p0, .int p1]) (n := 3) (Nat.le_of_ble_eq_true rfl)
  rw [lg_entry_eq]
  generalize (lg_sl ([.ref h0, .int p0, .int p1]) ++ List.replicate (3 - (lg_sl ([.ref h0, .int p0, .int p1])).length) Slot.unset).toArray = ls at hl ⊢
  have hl : lv_has ls 3 [(0, .ref h0), (1, .int p0), (2, .int p1)] := hl
  have hfx : CallFix p m c b_U_bytes 3 s ([.ref h0, .int p0, .int p1] : List Value).toArray [] "UnikernelHttp" := ⟨hx, hb, hml, hown, fun _ h => by cases h⟩
  refine lv_aload_n hx hb d_U_bytes_0 rfl (lv_at hl 0 rfl) ?_
  refine va_get (D := (dC, dI)) (ci := 0) (v := .ref wi) (C := R_U) (T := F_U) (N := 14) hx hb (u_U hT) (fun _ h => h) hown hK hP 0 rfl rfl 4 (by decide) (ux_T_at hT tw_447 rfl) (fun _ h9 => h9) rfl d_U_bytes_1 ?_
  refine lv_iload_n hx hb d_U_bytes_4 rfl (lv_at hl 1 rfl) ?_
  have hPc := hP.sub (ws' := [(wi, .inr (2, [.ref nb, .ref w1, .ref w2, .int 0, .int 0]))]) [1] rfl
  have hDc := hD.sub (ws' := [(wi, .inr (2, [.ref nb, .ref w1, .ref w2, .int 0, .int 0]))]) [1] (by decide) rfl
  have hKc := hK.sub (tys' := []) [] rfl
  have hFc := va_free (wc := [(wi, .inr (2, [.ref nb, .ref w1, .ref w2, .int 0, .int 0]))]) hD hS hA [1] rfl
  have hkc : 0 + 0 ≤ 1 := (Nat.le_of_ble_eq_true rfl)
  refine va_calli (va_runVN (As := [.int p0]) (rest := []) hfx (c_Wi_keeps l dC dI wi nb w1 w2 p0 s.heap.size) ⟨(ux_cn 1 hT tw_1434 tw_1431 tw_3 rfl rfl (by decide +kernel) ⟨(Nat.le_of_ble_eq_true rfl), (Nat.le_of_ble_eq_true rfl)⟩), (ux_T_at hT tw_1433 rfl), (ux_T_at hT (ux_tp (q := (⟨"UnikernelHttp$Wire", "keeps", "(I)Z"⟩, 5)) (by decide +kernel)) rfl)⟩ (ux_preV (r := (R_Wi, F_Wi, 5)) (ci := 2) (q0 := 0) [.int p0] hT hPc hKc hDc rfl rfl) rfl rfl hl.1 rfl (lv_room (Nat.le_of_ble_eq_true rfl)) d_U_bytes_5 ⟨(Nat.le_of_ble_eq_true rfl), (Nat.le_of_ble_eq_true rfl)⟩) hS (fun q _ h => hFc q h) hFc (fun r1 u t H1 locs ht hvm hw hB hz1 hk1 hS => ?_)
  obtain ⟨hP1, hK1, hD1⟩ := hB
  rw [ht] at hP1
  have hK1 := va_K.moved hvm.symm hK1
  obtain ⟨hP, hD⟩ := va_join (wr := [(h0, .inr (0, [.ref row, .int 0, .int 0, .ref nb, .ref wi, .ref ga, .ref sg, .ref tc, .ref st, .ref hp, .ref ec, .ref row, .int 0, .int 0]))]) (w1 := [(wi, .inr (2, [.ref nb, .ref w1, .ref w2, .int 0, .int 0]))]) hP hD [1] [0] rfl rfl (by decide) (by decide) hk1 hFc hP1 hD1
  have hK := (hK.sub (tys' := []) [] rfl).app hK1
  generalize H1 = H at hP hS ⊢
  have hP : va_P (dC, dI) cls [(h0, .inr (0, [.ref row, .int 0, .int 0, .ref nb, .ref wi, .ref ga, .ref sg, .ref tc, .ref st, .ref hp, .ref ec, .ref row, .int 0, .int 0])), (wi, .inr (2, [.ref nb, .ref w1, .ref w2, .int 0, .int 0]))] H := hP
  have hD : va_D A [(h0, .inr (0, [.ref row, .int 0, .int 0, .ref nb, .ref wi, .ref ga, .ref sg, .ref tc, .ref st, .ref hp, .ref ec, .ref row, .int 0, .int 0])), (wi, .inr (2, [.ref nb, .ref w1, .ref w2, .int 0, .int 0]))] := hD
  have hK : va_K (dC, dI) cls [] s := hK
  obtain rfl : r1 = 0 := hw
  refine lv_if_eq (tgt := 22) hx hb d_U_bytes_8 (by decide) (fun _ => ?_) (fun hc => absurd (by decide) hc)
  exact ux_throwX (own := "UnikernelHttp") (E := "java/lang/IndexOutOfBoundsException") (names := ["java/lang/RuntimeException", "java/lang/Exception"]) (ic := 137) (iN := 135) hx (ux_off hfl B.admits) hb hlocks (B.noHandlers (atoms_spec (ws := [Cond.code y_U_bytes b_U_bytes 3 (some .long)]) B.pre _ List.mem_cons_self)) hown (by decide +kernel) (by decide +kernel) (at_137_U hT hH) (ux_T_at hT tw_1365 rfl) (ux_T_at hT tw_31 rfl) (by rw [hml]; exact hl.1) d_U_bytes_22 d_U_bytes_25 d_U_bytes_26 d_U_bytes_29 (Nat.le_of_ble_eq_true rfl) (Nat.le_of_ble_eq_true rfl) (Nat.le_of_ble_eq_true rfl) (Nat.le_of_ble_eq_true rfl) (Nat.le_of_ble_eq_true rfl) (Nat.le_of_ble_eq_true rfl) hS hns
set_option maxHeartbeats 4000000 in
set_option maxRecDepth 100000 in
theorem c_U_count_0 (l : Launch) (dC : Nat → ClassId) (dI : Nat → Nat → Nat) (h0 : Nat) (row : Nat) (nb : Nat) (wi : Nat) (ga : Nat) (sg : Nat) (tc : Nat) (st : Nat) (hp : Nat) (ec : Nat) (w1 : Nat) (w2 : Nat) (t1 : Nat) (t2 : Nat) (n1 : Nat) (n2 : Nat) (n3 : Nat) (g1 : Nat) (s1 : Nat) (s2 : Nat) (s3 : Nat) (s4 : Nat) (s5 : Nat) (sz : Nat) : Met l y_U_count [Cond.code y_U_count b_U_count 2 (some .int)] ({ frames := 100, cells := 0, slots := 0, locals := 1500 }) (ux_Pc [.ref h0, .int 0] (dC, dI) cls [(h0, .inr (0, [.ref row, .int 0, .int 0, .ref nb, .ref wi, .ref ga, .ref sg, .ref tc, .ref st, .ref hp, .ref ec, .ref row, .int 0, .int 0])), (wi, .inr (2, [.ref nb, .ref w1, .ref w2, .int 0, .int 0])), (tc, .inr (6, [.ref t1, .ref t2, .ref wi, .int 0, .int 0])), (nb, .inr (1, [.ref n1, .ref n2, .ref n3, .int 0, .int 0])), (ga, .inr (3, [.ref g1, .int 0])), (st, .inr (10, [.ref s1, .ref s2, .ref s3, .ref s4, .ref s5, .int 0]))] [] sz) (va_Qi (fun (r : Int32) (_ : Unit) => r = 0) (fun (_ : Unit) (t : State) => ux_B (dC, dI) cls (va_A [(h0, .inr (0, [.ref row, .int 0, .int 0, .ref nb, .ref wi, .ref ga, .ref sg, .ref tc, .ref st, .ref hp, .ref ec, .ref row, .int 0, .int 0])), (wi, .inr (2, [.ref nb, .ref w1, .ref w2, .int 0, .int 0])), (tc, .inr (6, [.ref t1, .ref t2, .ref wi, .int 0, .int 0])), (nb, .inr (1, [.ref n1, .ref n2, .ref n3, .int 0, .int 0])), (ga, .inr (3, [.ref g1, .int 0])), (st, .inr (10, [.ref s1, .ref s2, .ref s3, .ref s4, .ref s5, .int 0]))] sz) [] [] t) (va_A [(h0, .inr (0, [.ref row, .int 0, .int 0, .ref nb, .ref wi, .ref ga, .ref sg, .ref tc, .ref st, .ref hp, .ref ec, .ref row, .int 0, .int 0])), (wi, .inr (2, [.ref nb, .ref w1, .ref w2, .int 0, .int 0])), (tc, .inr (6, [.ref t1, .ref t2, .ref wi, .int 0, .int 0])), (nb, .inr (1, [.ref n1, .ref n2, .ref n3, .int 0, .int 0])), (ga, .inr (3, [.ref g1, .int 0])), (st, .inr (10, [.ref s1, .ref s2, .ref s3, .ref s4, .ref s5, .int 0]))] sz)) 0 0 (va_A [(h0, .inr (0, [.ref row, .int 0, .int 0, .ref nb, .ref wi, .ref ga, .ref sg, .ref tc, .ref st, .ref hp, .ref ec, .ref row, .int 0, .int 0])), (wi, .inr (2, [.ref nb, .ref w1, .ref w2, .int 0, .int 0])), (tc, .inr (6, [.ref t1, .ref t2, .ref wi, .int 0, .int 0])), (nb, .inr (1, [.ref n1, .ref n2, .ref n3, .int 0, .int 0])), (ga, .inr (3, [.ref g1, .int 0])), (st, .inr (10, [.ref s1, .ref s2, .ref s3, .ref s4, .ref s5, .int 0]))] sz) := by
  refine Met.ofW (cc := b_U_count) (maxL := 2) (ret := some .int) (by decide) rfl ?_
  intro p e s m args below meth c s₁ B hml hv
  obtain ⟨rfl, hsz, hP, hK, hD0, hT⟩ := hv
  have hx := B.exec
  have hb := B.bytes
  have hr := B.returns
  have hown : s.vm.findClass "UnikernelHttp" = some m.cls := findClass_of_methodNamed B.named
  have hlocks := B.notSynchronized
  subst hsz
  have hD := hD0.self (sz := s.heap.size)
  have hns := ux_ns hP
  generalize hAe : va_A [(h0, .inr (0, [.ref row, .int 0, .int 0, .ref nb, .ref wi, .ref ga, .ref sg, .ref tc, .ref st, .ref hp, .ref ec, .ref row, .int 0, .int 0])), (wi, .inr (2, [.ref nb, .ref w1, .ref w2, .int 0, .int 0])), (tc, .inr (6, [.ref t1, .ref t2, .ref wi, .int 0, .int 0])), (nb, .inr (1, [.ref n1, .ref n2, .ref n3, .int 0, .int 0])), (ga, .inr (3, [.ref g1, .int 0])), (st, .inr (10, [.ref s1, .ref s2, .ref s3, .ref s4, .ref s5, .int 0]))] s.heap.size = A at hD hns ⊢
  have hA : ∀ q : Nat, s.heap.size ≤ q → A q := fun q h => by rw [← hAe]; exact Or.inr h
  have hS : va_S A s.heap s.heap [] := va_S.rf
  have hl := lv_entry ([.ref h0, .int 0]) (n := 2) (Nat.le_of_ble_eq_true rfl)
  rw [lg_entry_eq]
  generalize (lg_sl ([.ref h0, .int 0]) ++ List.replicate (2 - (lg_sl ([.ref h0, .int 0])).length) Slot.unset).toArray = ls at hl ⊢
  have hl : lv_has ls 2 [(0, .ref h0), (1, .int 0)] := hl
  have hfx : CallFix p m c b_U_count 2 s ([.ref h0, .int 0] : List Value).toArray [] "UnikernelHttp" := ⟨hx, hb, hml, hown, fun _ h => by cases h⟩
  refine lv_iload_n hx hb d_U_count_0 rfl (lv_at hl 1 rfl) ?_
  refine lv_tableIn (tgt := 48) hx hb d_U_count_1 (by decide) (by decide) rfl (by decide) ?_
  refine lv_aload_n hx hb d_U_count_48 rfl (lv_at hl 0 rfl) ?_
  refine va_get (D := (dC, dI)) (ci := 0) (v := .ref wi) (C := R_U) (T := F_U) (N := 14) hx hb (u_U hT) (fun _ h => h) hown hK hP 0 rfl rfl 4 (by decide) (ux_T_at hT tw_447 rfl) (fun _ h9 => h9) rfl d_U_count_49 ?_
  refine va_getN (D := (dC, dI)) (ci := 2) (v := .int 0) (C := R_Wi) (T := F_Wi) (N := 5) hx hb (u_Wi hT) (fun _ h => h) hown hK hP 1 rfl rfl 3 (by decide) (ux_T_at hT tw_81 rfl) (fun _ h9 => h9) rfl d_U_count_52 ?_
  have hP9 := hP.sub (ws' := []) [] rfl
  have hD9 := hD.sub (ws' := []) [] (by decide) rfl
  have hK9 := hK.sub (tys' := []) [] rfl
  refine W.widen (k := 0) (n := 0) (Nat.le_of_ble_eq_true rfl) (Nat.le_of_ble_eq_true rfl) ?_
  exact W.iret (v := 0) hx hb hr (fun t ht hW => ⟨⟨_, (), rfl, rfl, by rw [ht]; exact hP9, va_K.moved hW.alike hK9, hD9⟩, hS.F ht⟩) hS.2.2 d_U_count_55
set_option maxHeartbeats 4000000 in
set_option maxRecDepth 100000 in
theorem c_U_count_1 (l : Launch) (dC : Nat → ClassId) (dI : Nat → Nat → Nat) (h0 : Nat) (row : Nat) (nb : Nat) (wi : Nat) (ga : Nat) (sg : Nat) (tc : Nat) (st : Nat) (hp : Nat) (ec : Nat) (w1 : Nat) (w2 : Nat) (t1 : Nat) (t2 : Nat) (n1 : Nat) (n2 : Nat) (n3 : Nat) (g1 : Nat) (s1 : Nat) (s2 : Nat) (s3 : Nat) (s4 : Nat) (s5 : Nat) (sz : Nat) : Met l y_U_count [Cond.code y_U_count b_U_count 2 (some .int)] ({ frames := 100, cells := 0, slots := 0, locals := 1500 }) (ux_Pc [.ref h0, .int 1] (dC, dI) cls [(h0, .inr (0, [.ref row, .int 0, .int 0, .ref nb, .ref wi, .ref ga, .ref sg, .ref tc, .ref st, .ref hp, .ref ec, .ref row, .int 0, .int 0])), (wi, .inr (2, [.ref nb, .ref w1, .ref w2, .int 0, .int 0])), (tc, .inr (6, [.ref t1, .ref t2, .ref wi, .int 0, .int 0])), (nb, .inr (1, [.ref n1, .ref n2, .ref n3, .int 0, .int 0])), (ga, .inr (3, [.ref g1, .int 0])), (st, .inr (10, [.ref s1, .ref s2, .ref s3, .ref s4, .ref s5, .int 0]))] [] sz) (va_Qi (fun (r : Int32) (_ : Unit) => r = 0) (fun (_ : Unit) (t : State) => ux_B (dC, dI) cls (va_A [(h0, .inr (0, [.ref row, .int 0, .int 0, .ref nb, .ref wi, .ref ga, .ref sg, .ref tc, .ref st, .ref hp, .ref ec, .ref row, .int 0, .int 0])), (wi, .inr (2, [.ref nb, .ref w1, .ref w2, .int 0, .int 0])), (tc, .inr (6, [.ref t1, .ref t2, .ref wi, .int 0, .int 0])), (nb, .inr (1, [.ref n1, .ref n2, .ref n3, .int 0, .int 0])), (ga, .inr (3, [.ref g1, .int 0])), (st, .inr (10, [.ref s1, .ref s2, .ref s3, .ref s4, .ref s5, .int 0]))] sz) [] [] t) (va_A [(h0, .inr (0, [.ref row, .int 0, .int 0, .ref nb, .ref wi, .ref ga, .ref sg, .ref tc, .ref st, .ref hp, .ref ec, .ref row, .int 0, .int 0])), (wi, .inr (2, [.ref nb, .ref w1, .ref w2, .int 0, .int 0])), (tc, .inr (6, [.ref t1, .ref t2, .ref wi, .int 0, .int 0])), (nb, .inr (1, [.ref n1, .ref n2, .ref n3, .int 0, .int 0])), (ga, .inr (3, [.ref g1, .int 0])), (st, .inr (10, [.ref s1, .ref s2, .ref s3, .ref s4, .ref s5, .int 0]))] sz)) 0 0 (va_A [(h0, .inr (0, [.ref row, .int 0, .int 0, .ref nb, .ref wi, .ref ga, .ref sg, .ref tc, .ref st, .ref hp, .ref ec, .ref row, .int 0, .int 0])), (wi, .inr (2, [.ref nb, .ref w1, .ref w2, .int 0, .int 0])), (tc, .inr (6, [.ref t1, .ref t2, .ref wi, .int 0, .int 0])), (nb, .inr (1, [.ref n1, .ref n2, .ref n3, .int 0, .int 0])), (ga, .inr (3, [.ref g1, .int 0])), (st, .inr (10, [.ref s1, .ref s2, .ref s3, .ref s4, .ref s5, .int 0]))] sz) := by
  refine Met.ofW (cc := b_U_count) (maxL := 2) (ret := some .int) (by decide) rfl ?_
  intro p e s m args below meth c s₁ B hml hv
  obtain ⟨rfl, hsz, hP, hK, hD0, hT⟩ := hv
  have hx := B.exec
  have hb := B.bytes
  have hr := B.returns
  have hown : s.vm.findClass "UnikernelHttp" = some m.cls := findClass_of_methodNamed B.named
  have hlocks := B.notSynchronized
  subst hsz
  have hD := hD0.self (sz := s.heap.size)
  have hns := ux_ns hP
  generalize hAe : va_A [(h0, .inr (0, [.ref row, .int 0, .int 0, .ref nb, .ref wi, .ref ga, .ref sg, .ref tc, .ref st, .ref hp, .ref ec, .ref row, .int 0, .int 0])), (wi, .inr (2, [.ref nb, .ref w1, .ref w2, .int 0, .int 0])), (tc, .inr (6, [.ref t1, .ref t2, .ref wi, .int 0, .int 0])), (nb, .inr (1, [.ref n1, .ref n2, .ref n3, .int 0, .int 0])), (ga, .inr (3, [.ref g1, .int 0])), (st, .inr (10, [.ref s1, .ref s2, .ref s3, .ref s4, .ref s5, .int 0]))] s.heap.size = A at hD hns ⊢
  have hA : ∀ q : Nat, s.heap.size ≤ q → A q := fun q h => by rw [← hAe]; exact Or.inr h
  have hS : va_S A s.heap s.heap [] := va_S.rf
  have hl := lv_entry ([.ref h0, .int 1]) (n := 2) (Nat.le_of_ble_eq_true rfl)
  rw [lg_entry_eq]
  generalize (lg_sl ([.ref h0, .int 1]) ++ List.replicate (2 - (lg_sl ([.ref h0, .int 1])).length) Slot.unset).toArray = ls at hl ⊢
  have hl : lv_has ls 2 [(0, .ref h0), (1, .int 1)] := hl
  have hfx : CallFix p m c b_U_count 2 s ([.ref h0, .int 1] : List Value).toArray [] "UnikernelHttp" := ⟨hx, hb, hml, hown, fun _ h => by cases h⟩
  refine lv_iload_n hx hb d_U_count_0 rfl (lv_at hl 1 rfl) ?_
  refine lv_tableIn (tgt := 56) hx hb d_U_count_1 (by decide) (by decide) rfl (by decide) ?_
  refine lv_aload_n hx hb d_U_count_56 rfl (lv_at hl 0 rfl) ?_
  refine va_get (D := (dC, dI)) (ci := 0) (v := .int 0) (C := R_U) (T := F_U) (N := 14) hx hb (u_U hT) (fun _ h => h) hown hK hP 0 rfl rfl 2 (by decide) (ux_T_at hT tw_445 rfl) (fun _ h9 => h9) rfl d_U_count_57 ?_
  have hP9 := hP.sub (ws' := []) [] rfl
  have hD9 := hD.sub (ws' := []) [] (by decide) rfl
  have hK9 := hK.sub (tys' := []) [] rfl
  refine W.widen (k := 0) (n := 0) (Nat.le_of_ble_eq_true rfl) (Nat.le_of_ble_eq_true rfl) ?_
  exact W.iret (v := 0) hx hb hr (fun t ht hW => ⟨⟨_, (), rfl, rfl, by rw [ht]; exact hP9, va_K.moved hW.alike hK9, hD9⟩, hS.F ht⟩) hS.2.2 d_U_count_60
set_option maxHeartbeats 4000000 in
set_option maxRecDepth 100000 in
theorem c_U_count_2 (l : Launch) (dC : Nat → ClassId) (dI : Nat → Nat → Nat) (h0 : Nat) (row : Nat) (nb : Nat) (wi : Nat) (ga : Nat) (sg : Nat) (tc : Nat) (st : Nat) (hp : Nat) (ec : Nat) (w1 : Nat) (w2 : Nat) (t1 : Nat) (t2 : Nat) (n1 : Nat) (n2 : Nat) (n3 : Nat) (g1 : Nat) (s1 : Nat) (s2 : Nat) (s3 : Nat) (s4 : Nat) (s5 : Nat) (sz : Nat) : Met l y_U_count [Cond.code y_U_count b_U_count 2 (some .int)] ({ frames := 100, cells := 0, slots := 0, locals := 1500 }) (ux_Pc [.ref h0, .int 2] (dC, dI) cls [(h0, .inr (0, [.ref row, .int 0, .int 0, .ref nb, .ref wi, .ref ga, .ref sg, .ref tc, .ref st, .ref hp, .ref ec, .ref row, .int 0, .int 0])), (wi, .inr (2, [.ref nb, .ref w1, .ref w2, .int 0, .int 0])), (tc, .inr (6, [.ref t1, .ref t2, .ref wi, .int 0, .int 0])), (nb, .inr (1, [.ref n1, .ref n2, .ref n3, .int 0, .int 0])), (ga, .inr (3, [.ref g1, .int 0])), (st, .inr (10, [.ref s1, .ref s2, .ref s3, .ref s4, .ref s5, .int 0]))] [] sz) (va_Qi (fun (r : Int32) (_ : Unit) => r = 0) (fun (_ : Unit) (t : State) => ux_B (dC, dI) cls (va_A [(h0, .inr (0, [.ref row, .int 0, .int 0, .ref nb, .ref wi, .ref ga, .ref sg, .ref tc, .ref st, .ref hp, .ref ec, .ref row, .int 0, .int 0])), (wi, .inr (2, [.ref nb, .ref w1, .ref w2, .int 0, .int 0])), (tc, .inr (6, [.ref t1, .ref t2, .ref wi, .int 0, .int 0])), (nb, .inr (1, [.ref n1, .ref n2, .ref n3, .int 0, .int 0])), (ga, .inr (3, [.ref g1, .int 0])), (st, .inr (10, [.ref s1, .ref s2, .ref s3, .ref s4, .ref s5, .int 0]))] sz) [] [] t) (va_A [(h0, .inr (0, [.ref row, .int 0, .int 0, .ref nb, .ref wi, .ref ga, .ref sg, .ref tc, .ref st, .ref hp, .ref ec, .ref row, .int 0, .int 0])), (wi, .inr (2, [.ref nb, .ref w1, .ref w2, .int 0, .int 0])), (tc, .inr (6, [.ref t1, .ref t2, .ref wi, .int 0, .int 0])), (nb, .inr (1, [.ref n1, .ref n2, .ref n3, .int 0, .int 0])), (ga, .inr (3, [.ref g1, .int 0])), (st, .inr (10, [.ref s1, .ref s2, .ref s3, .ref s4, .ref s5, .int 0]))] sz)) 0 0 (va_A [(h0, .inr (0, [.ref row, .int 0, .int 0, .ref nb, .ref wi, .ref ga, .ref sg, .ref tc, .ref st, .ref hp, .ref ec, .ref row, .int 0, .int 0])), (wi, .inr (2, [.ref nb, .ref w1, .ref w2, .int 0, .int 0])), (tc, .inr (6, [.ref t1, .ref t2, .ref wi, .int 0, .int 0])), (nb, .inr (1, [.ref n1, .ref n2, .ref n3, .int 0, .int 0])), (ga, .inr (3, [.ref g1, .int 0])), (st, .inr (10, [.ref s1, .ref s2, .ref s3, .ref s4, .ref s5, .int 0]))] sz) := by
  refine Met.ofW (cc := b_U_count) (maxL := 2) (ret := some .int) (by decide) rfl ?_
  intro p e s m args below meth c s₁ B hml hv
  obtain ⟨rfl, hsz, hP, hK, hD0, hT⟩ := hv
  have hx := B.exec
  have hb := B.bytes
  have hr := B.returns
  have hown : s.vm.findClass "UnikernelHttp" = some m.cls := findClass_of_methodNamed B.named
  have hlocks := B.notSynchronized
  subst hsz
  have hD := hD0.self (sz := s.heap.size)
  have hns := ux_ns hP
  generalize hAe : va_A [(h0, .inr (0, [.ref row, .int 0, .int 0, .ref nb, .ref wi, .ref ga, .ref sg, .ref tc, .ref st, .ref hp, .ref ec, .ref row, .int 0, .int 0])), (wi, .inr (2, [.ref nb, .ref w1, .ref w2, .int 0, .int 0])), (tc, .inr (6, [.ref t1, .ref t2, .ref wi, .int 0, .int 0])), (nb, .inr (1, [.ref n1, .ref n2, .ref n3, .int 0, .int 0])), (ga, .inr (3, [.ref g1, .int 0])), (st, .inr (10, [.ref s1, .ref s2, .ref s3, .ref s4, .ref s5, .int 0]))] s.heap.size = A at hD hns ⊢
  have hA : ∀ q : Nat, s.heap.size ≤ q → A q := fun q h => by rw [← hAe]; exact Or.inr h
  have hS : va_S A s.heap s.heap [] := va_S.rf
  have hl := lv_entry ([.ref h0, .int 2]) (n := 2) (Nat.le_of_ble_eq_true rfl)
  rw [lg_entry_eq]
  generalize (lg_sl ([.ref h0, .int 2]) ++ List.replicate (2 - (lg_sl ([.ref h0, .int 2])).length) Slot.unset).toArray = ls at hl ⊢
  have hl : lv_has ls 2 [(0, .ref h0), (1, .int 2)] := hl
  have hfx : CallFix p m c b_U_count 2 s ([.ref h0, .int 2] : List Value).toArray [] "UnikernelHttp" := ⟨hx, hb, hml, hown, fun _ h => by cases h⟩
  refine lv_iload_n hx hb d_U_count_0 rfl (lv_at hl 1 rfl) ?_
  refine lv_tableIn (tgt := 61) hx hb d_U_count_1 (by decide) (by decide) rfl (by decide) ?_
  refine lv_aload_n hx hb d_U_count_61 rfl (lv_at hl 0 rfl) ?_
  refine va_get (D := (dC, dI)) (ci := 0) (v := .ref tc) (C := R_U) (T := F_U) (N := 14) hx hb (u_U hT) (fun _ h => h) hown hK hP 0 rfl rfl 7 (by decide) (ux_T_at hT tw_450 rfl) (fun _ h9 => h9) rfl d_U_count_62 ?_
  refine va_getN (D := (dC, dI)) (ci := 6) (v := .int 0) (C := R_Tc) (T := F_Tc) (N := 5) hx hb (u_Tc hT) (fun _ h => h) hown hK hP 2 rfl rfl 3 (by decide) (ux_T_at hT tw_374 rfl) (fun _ h9 => h9) rfl d_U_count_65 ?_
  have hP9 := hP.sub (ws' := []) [] rfl
  have hD9 := hD.sub (ws' := []) [] (by decide) rfl
  have hK9 := hK.sub (tys' := []) [] rfl
  refine W.widen (k := 0) (n := 0) (Nat.le_of_ble_eq_true rfl) (Nat.le_of_ble_eq_true rfl) ?_
  exact W.iret (v := 0) hx hb hr (fun t ht hW => ⟨⟨_, (), rfl, rfl, by rw [ht]; exact hP9, va_K.moved hW.alike hK9, hD9⟩, hS.F ht⟩) hS.2.2 d_U_count_68
set_option maxHeartbeats 4000000 in
set_option maxRecDepth 100000 in
theorem c_U_count_3 (l : Launch) (dC : Nat → ClassId) (dI : Nat → Nat → Nat) (h0 : Nat) (row : Nat) (nb : Nat) (wi : Nat) (ga : Nat) (sg : Nat) (tc : Nat) (st : Nat) (hp : Nat) (ec : Nat) (w1 : Nat) (w2 : Nat) (t1 : Nat) (t2 : Nat) (n1 : Nat) (n2 : Nat) (n3 : Nat) (g1 : Nat) (s1 : Nat) (s2 : Nat) (s3 : Nat) (s4 : Nat) (s5 : Nat) (sz : Nat) : Met l y_U_count [Cond.code y_U_count b_U_count 2 (some .int)] ({ frames := 100, cells := 0, slots := 0, locals := 1500 }) (ux_Pc [.ref h0, .int 3] (dC, dI) cls [(h0, .inr (0, [.ref row, .int 0, .int 0, .ref nb, .ref wi, .ref ga, .ref sg, .ref tc, .ref st, .ref hp, .ref ec, .ref row, .int 0, .int 0])), (wi, .inr (2, [.ref nb, .ref w1, .ref w2, .int 0, .int 0])), (tc, .inr (6, [.ref t1, .ref t2, .ref wi, .int 0, .int 0])), (nb, .inr (1, [.ref n1, .ref n2, .ref n3, .int 0, .int 0])), (ga, .inr (3, [.ref g1, .int 0])), (st, .inr (10, [.ref s1, .ref s2, .ref s3, .ref s4, .ref s5, .int 0]))] [] sz) (va_Qi (fun (r : Int32) (_ : Unit) => r = 0) (fun (_ : Unit) (t : State) => ux_B (dC, dI) cls (va_A [(h0, .inr (0, [.ref row, .int 0, .int 0, .ref nb, .ref wi, .ref ga, .ref sg, .ref tc, .ref st, .ref hp, .ref ec, .ref row, .int 0, .int 0])), (wi, .inr (2, [.ref nb, .ref w1, .ref w2, .int 0, .int 0])), (tc, .inr (6, [.ref t1, .ref t2, .ref wi, .int 0, .int 0])), (nb, .inr (1, [.ref n1, .ref n2, .ref n3, .int 0, .int 0])), (ga, .inr (3, [.ref g1, .int 0])), (st, .inr (10, [.ref s1, .ref s2, .ref s3, .ref s4, .ref s5, .int 0]))] sz) [] [] t) (va_A [(h0, .inr (0, [.ref row, .int 0, .int 0, .ref nb, .ref wi, .ref ga, .ref sg, .ref tc, .ref st, .ref hp, .ref ec, .ref row, .int 0, .int 0])), (wi, .inr (2, [.ref nb, .ref w1, .ref w2, .int 0, .int 0])), (tc, .inr (6, [.ref t1, .ref t2, .ref wi, .int 0, .int 0])), (nb, .inr (1, [.ref n1, .ref n2, .ref n3, .int 0, .int 0])), (ga, .inr (3, [.ref g1, .int 0])), (st, .inr (10, [.ref s1, .ref s2, .ref s3, .ref s4, .ref s5, .int 0]))] sz)) 0 0 (va_A [(h0, .inr (0, [.ref row, .int 0, .int 0, .ref nb, .ref wi, .ref ga, .ref sg, .ref tc, .ref st, .ref hp, .ref ec, .ref row, .int 0, .int 0])), (wi, .inr (2, [.ref nb, .ref w1, .ref w2, .int 0, .int 0])), (tc, .inr (6, [.ref t1, .ref t2, .ref wi, .int 0, .int 0])), (nb, .inr (1, [.ref n1, .ref n2, .ref n3, .int 0, .int 0])), (ga, .inr (3, [.ref g1, .int 0])), (st, .inr (10, [.ref s1, .ref s2, .ref s3, .ref s4, .ref s5, .int 0]))] sz) := by
  refine Met.ofW (cc := b_U_count) (maxL := 2) (ret := some .int) (by decide) rfl ?_
  intro p e s m args below meth c s₁ B hml hv
  obtain ⟨rfl, hsz, hP, hK, hD0, hT⟩ := hv
  have hx := B.exec
  have hb := B.bytes
  have hr := B.returns
  have hown : s.vm.findClass "UnikernelHttp" = some m.cls := findClass_of_methodNamed B.named
  have hlocks := B.notSynchronized
  subst hsz
  have hD := hD0.self (sz := s.heap.size)
  have hns := ux_ns hP
  generalize hAe : va_A [(h0, .inr (0, [.ref row, .int 0, .int 0, .ref nb, .ref wi, .ref ga, .ref sg, .ref tc, .ref st, .ref hp, .ref ec, .ref row, .int 0, .int 0])), (wi, .inr (2, [.ref nb, .ref w1, .ref w2, .int 0, .int 0])), (tc, .inr (6, [.ref t1, .ref t2, .ref wi, .int 0, .int 0])), (nb, .inr (1, [.ref n1, .ref n2, .ref n3, .int 0, .int 0])), (ga, .inr (3, [.ref g1, .int 0])), (st, .inr (10, [.ref s1, .ref s2, .ref s3, .ref s4, .ref s5, .int 0]))] s.heap.size = A at hD hns ⊢
  have hA : ∀ q : Nat, s.heap.size ≤ q → A q := fun q h => by rw [← hAe]; exact Or.inr h
  have hS : va_S A s.heap s.heap [] := va_S.rf
  have hl := lv_entry ([.ref h0, .int 3]) (n := 2) (Nat.le_of_ble_eq_true rfl)
  rw [lg_entry_eq]
  generalize (lg_sl ([.ref h0, .int 3]) ++ List.replicate (2 - (lg_sl ([.ref h0, .int 3])).length) Slot.unset).toArray = ls at hl ⊢
  have hl : lv_has ls 2 [(0, .ref h0), (1, .int 3)] := hl
  have hfx : CallFix p m c b_U_count 2 s ([.ref h0, .int 3] : List Value).toArray [] "UnikernelHttp" := ⟨hx, hb, hml, hown, fun _ h => by cases h⟩
  refine lv_iload_n hx hb d_U_count_0 rfl (lv_at hl 1 rfl) ?_
  refine lv_tableIn (tgt := 69) hx hb d_U_count_1 (by decide) (by decide) rfl (by decide) ?_
  refine lv_aload_n hx hb d_U_count_69 rfl (lv_at hl 0 rfl) ?_
  refine va_get (D := (dC, dI)) (ci := 0) (v := .ref tc) (C := R_U) (T := F_U) (N := 14) hx hb (u_U hT) (fun _ h => h) hown hK hP 0 rfl rfl 7 (by decide) (ux_T_at hT tw_450 rfl) (fun _ h9 => h9) rfl d_U_count_70 ?_
  refine va_getN (D := (dC, dI)) (ci := 6) (v := .int 0) (C := R_Tc) (T := F_Tc) (N := 5) hx hb (u_Tc hT) (fun _ h => h) hown hK hP 2 rfl rfl 4 (by decide) (ux_T_at hT tw_376 rfl) (fun _ h9 => h9) rfl d_U_count_73 ?_
  have hP9 := hP.sub (ws' := []) [] rfl
  have hD9 := hD.sub (ws' := []) [] (by decide) rfl
  have hK9 := hK.sub (tys' := []) [] rfl
  refine W.widen (k := 0) (n := 0) (Nat.le_of_ble_eq_true rfl) (Nat.le_of_ble_eq_true rfl) ?_
  exact W.iret (v := 0) hx hb hr (fun t ht hW => ⟨⟨_, (), rfl, rfl, by rw [ht]; exact hP9, va_K.moved hW.alike hK9, hD9⟩, hS.F ht⟩) hS.2.2 d_U_count_76
set_option maxHeartbeats 4000000 in
set_option maxRecDepth 100000 in
theorem c_U_count_4 (l : Launch) (dC : Nat → ClassId) (dI : Nat → Nat → Nat) (h0 : Nat) (row : Nat) (nb : Nat) (wi : Nat) (ga : Nat) (sg : Nat) (tc : Nat) (st : Nat) (hp : Nat) (ec : Nat) (w1 : Nat) (w2 : Nat) (t1 : Nat) (t2 : Nat) (n1 : Nat) (n2 : Nat) (n3 : Nat) (g1 : Nat) (s1 : Nat) (s2 : Nat) (s3 : Nat) (s4 : Nat) (s5 : Nat) (sz : Nat) : Met l y_U_count [Cond.code y_U_count b_U_count 2 (some .int)] ({ frames := 100, cells := 0, slots := 0, locals := 1500 }) (ux_Pc [.ref h0, .int 4] (dC, dI) cls [(h0, .inr (0, [.ref row, .int 0, .int 0, .ref nb, .ref wi, .ref ga, .ref sg, .ref tc, .ref st, .ref hp, .ref ec, .ref row, .int 0, .int 0])), (wi, .inr (2, [.ref nb, .ref w1, .ref w2, .int 0, .int 0])), (tc, .inr (6, [.ref t1, .ref t2, .ref wi, .int 0, .int 0])), (nb, .inr (1, [.ref n1, .ref n2, .ref n3, .int 0, .int 0])), (ga, .inr (3, [.ref g1, .int 0])), (st, .inr (10, [.ref s1, .ref s2, .ref s3, .ref s4, .ref s5, .int 0]))] [] sz) (va_Qi (fun (r : Int32) (_ : Unit) => r = 0) (fun (_ : Unit) (t : State) => ux_B (dC, dI) cls (va_A [(h0, .inr (0, [.ref row, .int 0, .int 0, .ref nb, .ref wi, .ref ga, .ref sg, .ref tc, .ref st, .ref hp, .ref ec, .ref row, .int 0, .int 0])), (wi, .inr (2, [.ref nb, .ref w1, .ref w2, .int 0, .int 0])), (tc, .inr (6, [.ref t1, .ref t2, .ref wi, .int 0, .int 0])), (nb, .inr (1, [.ref n1, .ref n2, .ref n3, .int 0, .int 0])), (ga, .inr (3, [.ref g1, .int 0])), (st, .inr (10, [.ref s1, .ref s2, .ref s3, .ref s4, .ref s5, .int 0]))] sz) [] [] t) (va_A [(h0, .inr (0, [.ref row, .int 0, .int 0, .ref nb, .ref wi, .ref ga, .ref sg, .ref tc, .ref st, .ref hp, .ref ec, .ref row, .int 0, .int 0])), (wi, .inr (2, [.ref nb, .ref w1, .ref w2, .int 0, .int 0])), (tc, .inr (6, [.ref t1, .ref t2, .ref wi, .int 0, .int 0])), (nb, .inr (1, [.ref n1, .ref n2, .ref n3, .int 0, .int 0])), (ga, .inr (3, [.ref g1, .int 0])), (st, .inr (10, [.ref s1, .ref s2, .ref s3, .ref s4, .ref s5, .int 0]))] sz)) 0 0 (va_A [(h0, .inr (0, [.ref row, .int 0, .int 0, .ref nb, .ref wi, .ref ga, .ref sg, .ref tc, .ref st, .ref hp, .ref ec, .ref row, .int 0, .int 0])), (wi, .inr (2, [.ref nb, .ref w1, .ref w2, .int 0, .int 0])), (tc, .inr (6, [.ref t1, .ref t2, .ref wi, .int 0, .int 0])), (nb, .inr (1, [.ref n1, .ref n2, .ref n3, .int 0, .int 0])), (ga, .inr (3, [.ref g1, .int 0])), (st, .inr (10, [.ref s1, .ref s2, .ref s3, .ref s4, .ref s5, .int 0]))] sz) := by
  refine Met.ofW (cc := b_U_count) (maxL := 2) (ret := some .int) (by decide) rfl ?_
  intro p e s m args below meth c s₁ B hml hv
  obtain ⟨rfl, hsz, hP, hK, hD0, hT⟩ := hv
  have hx := B.exec
  have hb := B.bytes
  have hr := B.returns
  have hown : s.vm.findClass "UnikernelHttp" = some m.cls := findClass_of_methodNamed B.named
  have hlocks := B.notSynchronized
  subst hsz
  have hD := hD0.self (sz := s.heap.size)
  have hns := ux_ns hP
  generalize hAe : va_A [(h0, .inr (0, [.ref row, .int 0, .int 0, .ref nb, .ref wi, .ref ga, .ref sg, .ref tc, .ref st, .ref hp, .ref ec, .ref row, .int 0, .int 0])), (wi, .inr (2, [.ref nb, .ref w1, .ref w2, .int 0, .int 0])), (tc, .inr (6, [.ref t1, .ref t2, .ref wi, .int 0, .int 0])), (nb, .inr (1, [.ref n1, .ref n2, .ref n3, .int 0, .int 0])), (ga, .inr (3, [.ref g1, .int 0])), (st, .inr (10, [.ref s1, .ref s2, .ref s3, .ref s4, .ref s5, .int 0]))] s.heap.size = A at hD hns ⊢
  have hA : ∀ q : Nat, s.heap.size ≤ q → A q := fun q h => by rw [← hAe]; exact Or.inr h
  have hS : va_S A s.heap s.heap [] := va_S.rf
  have hl := lv_entry ([.ref h0, .int 4]) (n := 2) (Nat.le_of_ble_eq_true rfl)
  rw [lg_entry_eq]
  generalize (lg_sl ([.ref h0, .int 4]) ++ List.replicate (2 - (lg_sl ([.ref h0, .int 4])).length) Slot.unset).toArray = ls at hl ⊢
  have hl : lv_has ls 2 [(0, .ref h0), (1, .int 4)] := hl
  have hfx : CallFix p m c b_U_count 2 s ([.ref h0, .int 4] : List Value).toArray [] "UnikernelHttp" := ⟨hx, hb, hml, hown, fun _ h => by cases h⟩
  refine lv_iload_n hx hb d_U_count_0 rfl (lv_at hl 1 rfl) ?_
  refine lv_tableIn (tgt := 77) hx hb d_U_count_1 (by decide) (by decide) rfl (by decide) ?_
  refine lv_aload_n hx hb d_U_count_77 rfl (lv_at hl 0 rfl) ?_
  refine va_get (D := (dC, dI)) (ci := 0) (v := .ref nb) (C := R_U) (T := F_U) (N := 14) hx hb (u_U hT) (fun _ h => h) hown hK hP 0 rfl rfl 3 (by decide) (ux_T_at hT tw_446 rfl) (fun _ h9 => h9) rfl d_U_count_78 ?_
  refine va_getN (D := (dC, dI)) (ci := 1) (v := .int 0) (C := R_N) (T := F_N) (N := 5) hx hb (u_N hT) (fun _ h => h) hown hK hP 3 rfl rfl 3 (by decide) (ux_T_at hT tw_53 rfl) (fun _ h9 => h9) rfl d_U_count_81 ?_
  have hP9 := hP.sub (ws' := []) [] rfl
  have hD9 := hD.sub (ws' := []) [] (by decide) rfl
  have hK9 := hK.sub (tys' := []) [] rfl
  refine W.widen (k := 0) (n := 0) (Nat.le_of_ble_eq_true rfl) (Nat.le_of_ble_eq_true rfl) ?_
  exact W.iret (v := 0) hx hb hr (fun t ht hW => ⟨⟨_, (), rfl, rfl, by rw [ht]; exact hP9, va_K.moved hW.alike hK9, hD9⟩, hS.F ht⟩) hS.2.2 d_U_count_84
set_option maxHeartbeats 4000000 in
set_option maxRecDepth 100000 in
theorem c_U_count_5 (l : Launch) (dC : Nat → ClassId) (dI : Nat → Nat → Nat) (h0 : Nat) (row : Nat) (nb : Nat) (wi : Nat) (ga : Nat) (sg : Nat) (tc : Nat) (st : Nat) (hp : Nat) (ec : Nat) (w1 : Nat) (w2 : Nat) (t1 : Nat) (t2 : Nat) (n1 : Nat) (n2 : Nat) (n3 : Nat) (g1 : Nat) (s1 : Nat) (s2 : Nat) (s3 : Nat) (s4 : Nat) (s5 : Nat) (sz : Nat) : Met l y_U_count [Cond.code y_U_count b_U_count 2 (some .int)] ({ frames := 100, cells := 0, slots := 0, locals := 1500 }) (ux_Pc [.ref h0, .int 5] (dC, dI) cls [(h0, .inr (0, [.ref row, .int 0, .int 0, .ref nb, .ref wi, .ref ga, .ref sg, .ref tc, .ref st, .ref hp, .ref ec, .ref row, .int 0, .int 0])), (wi, .inr (2, [.ref nb, .ref w1, .ref w2, .int 0, .int 0])), (tc, .inr (6, [.ref t1, .ref t2, .ref wi, .int 0, .int 0])), (nb, .inr (1, [.ref n1, .ref n2, .ref n3, .int 0, .int 0])), (ga, .inr (3, [.ref g1, .int 0])), (st, .inr (10, [.ref s1, .ref s2, .ref s3, .ref s4, .ref s5, .int 0]))] [] sz) (va_Qi (fun (r : Int32) (_ : Unit) => r = 0) (fun (_ : Unit) (t : State) => ux_B (dC, dI) cls (va_A [(h0, .inr (0, [.ref row, .int 0, .int 0, .ref nb, .ref wi, .ref ga, .ref sg, .ref tc, .ref st, .ref hp, .ref ec, .ref row, .int 0, .int 0])), (wi, .inr (2, [.ref nb, .ref w1, .ref w2, .int 0, .int 0])), (tc, .inr (6, [.ref t1, .ref t2, .ref wi, .int 0, .int 0])), (nb, .inr (1, [.ref n1, .ref n2, .ref n3, .int 0, .int 0])), (ga, .inr (3, [.ref g1, .int 0])), (st, .inr (10, [.ref s1, .ref s2, .ref s3, .ref s4, .ref s5, .int 0]))] sz) [] [] t) (va_A [(h0, .inr (0, [.ref row, .int 0, .int 0, .ref nb, .ref wi, .ref ga, .ref sg, .ref tc, .ref st, .ref hp, .ref ec, .ref row, .int 0, .int 0])), (wi, .inr (2, [.ref nb, .ref w1, .ref w2, .int 0, .int 0])), (tc, .inr (6, [.ref t1, .ref t2, .ref wi, .int 0, .int 0])), (nb, .inr (1, [.ref n1, .ref n2, .ref n3, .int 0, .int 0])), (ga, .inr (3, [.ref g1, .int 0])), (st, .inr (10, [.ref s1, .ref s2, .ref s3, .ref s4, .ref s5, .int 0]))] sz)) 0 0 (va_A [(h0, .inr (0, [.ref row, .int 0, .int 0, .ref nb, .ref wi, .ref ga, .ref sg, .ref tc, .ref st, .ref hp, .ref ec, .ref row, .int 0, .int 0])), (wi, .inr (2, [.ref nb, .ref w1, .ref w2, .int 0, .int 0])), (tc, .inr (6, [.ref t1, .ref t2, .ref wi, .int 0, .int 0])), (nb, .inr (1, [.ref n1, .ref n2, .ref n3, .int 0, .int 0])), (ga, .inr (3, [.ref g1, .int 0])), (st, .inr (10, [.ref s1, .ref s2, .ref s3, .ref s4, .ref s5, .int 0]))] sz) := by
  refine Met.ofW (cc := b_U_count) (maxL := 2) (ret := some .int) (by decide) rfl ?_
  intro p e s m args below meth c s₁ B hml hv
  obtain ⟨rfl, hsz, hP, hK, hD0, hT⟩ := hv
  have hx := B.exec
  have hb := B.bytes
  have hr := B.returns
  have hown : s.vm.findClass "UnikernelHttp" = some m.cls := findClass_of_methodNamed B.named
  have hlocks := B.notSynchronized
  subst hsz
  have hD := hD0.self (sz := s.heap.size)
  have hns := ux_ns hP
  generalize hAe : va_A [(h0, .inr (0, [.ref row, .int 0, .int 0, .ref nb, .ref wi, .ref ga, .ref sg, .ref tc, .ref st, .ref hp, .ref ec, .ref row, .int 0, .int 0])), (wi, .inr (2, [.ref nb, .ref w1, .ref w2, .int 0, .int 0])), (tc, .inr (6, [.ref t1, .ref t2, .ref wi, .int 0, .int 0])), (nb, .inr (1, [.ref n1, .ref n2, .ref n3, .int 0, .int 0])), (ga, .inr (3, [.ref g1, .int 0])), (st, .inr (10, [.ref s1, .ref s2, .ref s3, .ref s4, .ref s5, .int 0]))] s.heap.size = A at hD hns ⊢
  have hA : ∀ q : Nat, s.heap.size ≤ q → A q := fun q h => by rw [← hAe]; exact Or.inr h
  have hS : va_S A s.heap s.heap [] := va_S.rf
  have hl := lv_entry ([.ref h0, .int 5]) (n := 2) (Nat.le_of_ble_eq_true rfl)
  rw [lg_entry_eq]
  generalize (lg_sl ([.ref h0, .int 5]) ++ List.replicate (2 - (lg_sl ([.ref h0, .int 5])).length) Slot.unset).toArray = ls at hl ⊢
  have hl : lv_has ls 2 [(0, .ref h0), (1, .int 5)] := hl
  have hfx : CallFix p m c b_U_count 2 s ([.ref h0, .int 5] : List Value).toArray [] "UnikernelHttp" := ⟨hx, hb, hml, hown, fun _ h => by cases h⟩
  refine lv_iload_n hx hb d_U_count_0 rfl (lv_at hl 1 rfl) ?_
  refine lv_tableIn (tgt := 85) hx hb d_U_count_1 (by decide) (by decide) rfl (by decide) ?_
  refine lv_aload_n hx hb d_U_count_85 rfl (lv_at hl 0 rfl) ?_
  refine va_get (D := (dC, dI)) (ci := 0) (v := .ref ga) (C := R_U) (T := F_U) (N := 14) hx hb (u_U hT) (fun _ h => h) hown hK hP 0 rfl rfl 5 (by decide) (ux_T_at hT tw_448 rfl) (fun _ h9 => h9) rfl d_U_count_86 ?_
  refine va_getN (D := (dC, dI)) (ci := 3) (v := .int 0) (C := R_Gs) (T := F_Gs) (N := 2) hx hb (u_Gs hT) (fun _ h => h) hown hK hP 4 rfl rfl 1 (by decide) (ux_T_at hT tw_144 rfl) (fun _ h9 => h9) rfl d_U_count_89 ?_
  have hP9 := hP.sub (ws' := []) [] rfl
  have hD9 := hD.sub (ws' := []) [] (by decide) rfl
  have hK9 := hK.sub (tys' := []) [] rfl
  refine W.widen (k := 0) (n := 0) (Nat.le_of_ble_eq_true rfl) (Nat.le_of_ble_eq_true rfl) ?_
  exact W.iret (v := 0) hx hb hr (fun t ht hW => ⟨⟨_, (), rfl, rfl, by rw [ht]; exact hP9, va_K.moved hW.alike hK9, hD9⟩, hS.F ht⟩) hS.2.2 d_U_count_92
set_option maxHeartbeats 4000000 in
set_option maxRecDepth 100000 in
theorem c_U_count_6 (l : Launch) (dC : Nat → ClassId) (dI : Nat → Nat → Nat) (h0 : Nat) (row : Nat) (nb : Nat) (wi : Nat) (ga : Nat) (sg : Nat) (tc : Nat) (st : Nat) (hp : Nat) (ec : Nat) (w1 : Nat) (w2 : Nat) (t1 : Nat) (t2 : Nat) (n1 : Nat) (n2 : Nat) (n3 : Nat) (g1 : Nat) (s1 : Nat) (s2 : Nat) (s3 : Nat) (s4 : Nat) (s5 : Nat) (sz : Nat) : Met l y_U_count [Cond.code y_U_count b_U_count 2 (some .int)] ({ frames := 100, cells := 0, slots := 0, locals := 1500 }) (ux_Pc [.ref h0, .int 6] (dC, dI) cls [(h0, .inr (0, [.ref row, .int 0, .int 0, .ref nb, .ref wi, .ref ga, .ref sg, .ref tc, .ref st, .ref hp, .ref ec, .ref row, .int 0, .int 0])), (wi, .inr (2, [.ref nb, .ref w1, .ref w2, .int 0, .int 0])), (tc, .inr (6, [.ref t1, .ref t2, .ref wi, .int 0, .int 0])), (nb, .inr (1, [.ref n1, .ref n2, .ref n3, .int 0, .int 0])), (ga, .inr (3, [.ref g1, .int 0])), (st, .inr (10, [.ref s1, .ref s2, .ref s3, .ref s4, .ref s5, .int 0]))] [] sz) (va_Qi (fun (r : Int32) (_ : Unit) => r = 0) (fun (_ : Unit) (t : State) => ux_B (dC, dI) cls (va_A [(h0, .inr (0, [.ref row, .int 0, .int 0, .ref nb, .ref wi, .ref ga, .ref sg, .ref tc, .ref st, .ref hp, .ref ec, .ref row, .int 0, .int 0])), (wi, .inr (2, [.ref nb, .ref w1, .ref w2, .int 0, .int 0])), (tc, .inr (6, [.ref t1, .ref t2, .ref wi, .int 0, .int 0])), (nb, .inr (1, [.ref n1, .ref n2, .ref n3, .int 0, .int 0])), (ga, .inr (3, [.ref g1, .int 0])), (st, .inr (10, [.ref s1, .ref s2, .ref s3, .ref s4, .ref s5, .int 0]))] sz) [] [] t) (va_A [(h0, .inr (0, [.ref row, .int 0, .int 0, .ref nb, .ref wi, .ref ga, .ref sg, .ref tc, .ref st, .ref hp, .ref ec, .ref row, .int 0, .int 0])), (wi, .inr (2, [.ref nb, .ref w1, .ref w2, .int 0, .int 0])), (tc, .inr (6, [.ref t1, .ref t2, .ref wi, .int 0, .int 0])), (nb, .inr (1, [.ref n1, .ref n2, .ref n3, .int 0, .int 0])), (ga, .inr (3, [.ref g1, .int 0])), (st, .inr (10, [.ref s1, .ref s2, .ref s3, .ref s4, .ref s5, .int 0]))] sz)) 0 0 (va_A [(h0, .inr (0, [.ref row, .int 0, .int 0, .ref nb, .ref wi, .ref ga, .ref sg, .ref tc, .ref st, .ref hp, .ref ec, .ref row, .int 0, .int 0])), (wi, .inr (2, [.ref nb, .ref w1, .ref w2, .int 0, .int 0])), (tc, .inr (6, [.ref t1, .ref t2, .ref wi, .int 0, .int 0])), (nb, .inr (1, [.ref n1, .ref n2, .ref n3, .int 0, .int 0])), (ga, .inr (3, [.ref g1, .int 0])), (st, .inr (10, [.ref s1, .ref s2, .ref s3, .ref s4, .ref s5, .int 0]))] sz) := by
  refine Met.ofW (cc := b_U_count) (maxL := 2) (ret := some .int) (by decide) rfl ?_
  intro p e s m args below meth c s₁ B hml hv
  obtain ⟨rfl, hsz, hP, hK, hD0, hT⟩ := hv
  have hx := B.exec
  have hb := B.bytes
  have hr := B.returns
  have hown : s.vm.findClass "UnikernelHttp" = some m.cls := findClass_of_methodNamed B.named
  have hlocks := B.notSynchronized
  subst hsz
  have hD := hD0.self (sz := s.heap.size)
  have hns := ux_ns hP
  generalize hAe : va_A [(h0, .inr (0, [.ref row, .int 0, .int 0, .ref nb, .ref wi, .ref ga, .ref sg, .ref tc, .ref st, .ref hp, .ref ec, .ref row, .int 0, .int 0])), (wi, .inr (2, [.ref nb, .ref w1, .ref w2, .int 0, .int 0])), (tc, .inr (6, [.ref t1, .ref t2, .ref wi, .int 0, .int 0])), (nb, .inr (1, [.ref n1, .ref n2, .ref n3, .int 0, .int 0])), (ga, .inr (3, [.ref g1, .int 0])), (st, .inr (10, [.ref s1, .ref s2, .ref s3, .ref s4, .ref s5, .int 0]))] s.heap.size = A at hD hns ⊢
  have hA : ∀ q : Nat, s.heap.size ≤ q → A q := fun q h => by rw [← hAe]; exact Or.inr h
  have hS : va_S A s.heap s.heap [] := va_S.rf
  have hl := lv_entry ([.ref h0, .int 6]) (n := 2) (Nat.le_of_ble_eq_true rfl)
  rw [lg_entry_eq]
  generalize (lg_sl ([.ref h0, .int 6]) ++ List.replicate (2 - (lg_sl ([.ref h0, .int 6])).length) Slot.unset).toArray = ls at hl ⊢
  have hl : lv_has ls 2 [(0, .ref h0), (1, .int 6)] := hl
  have hfx : CallFix p m c b_U_count 2 s ([.ref h0, .int 6] : List Value).toArray [] "UnikernelHttp" := ⟨hx, hb, hml, hown, fun _ h => by cases h⟩
  refine lv_iload_n hx hb d_U_count_0 rfl (lv_at hl 1 rfl) ?_
  refine lv_tableIn (tgt := 93) hx hb d_U_count_1 (by decide) (by decide) rfl (by decide) ?_
  refine lv_aload_n hx hb d_U_count_93 rfl (lv_at hl 0 rfl) ?_
  refine va_get (D := (dC, dI)) (ci := 0) (v := .ref st) (C := R_U) (T := F_U) (N := 14) hx hb (u_U hT) (fun _ h => h) hown hK hP 0 rfl rfl 8 (by decide) (ux_T_at hT tw_451 rfl) (fun _ h9 => h9) rfl d_U_count_94 ?_
  refine va_getN (D := (dC, dI)) (ci := 10) (v := .int 0) (C := R_So) (T := F_So) (N := 6) hx hb (u_So hT) (fun _ h => h) hown hK hP 5 rfl rfl 5 (by decide) (ux_T_at hT tw_406 rfl) (fun _ h9 => h9) rfl d_U_count_97 ?_
  have hP9 := hP.sub (ws' := []) [] rfl
  have hD9 := hD.sub (ws' := []) [] (by decide) rfl
  have hK9 := hK.sub (tys' := []) [] rfl
  refine W.widen (k := 0) (n := 0) (Nat.le_of_ble_eq_true rfl) (Nat.le_of_ble_eq_true rfl) ?_
  exact W.iret (v := 0) hx hb hr (fun t ht hW => ⟨⟨_, (), rfl, rfl, by rw [ht]; exact hP9, va_K.moved hW.alike hK9, hD9⟩, hS.F ht⟩) hS.2.2 d_U_count_100
set_option maxHeartbeats 4000000 in
set_option maxRecDepth 100000 in
theorem c_U_count_7 (l : Launch) (dC : Nat → ClassId) (dI : Nat → Nat → Nat) (h0 : Nat) (row : Nat) (nb : Nat) (wi : Nat) (ga : Nat) (sg : Nat) (tc : Nat) (st : Nat) (hp : Nat) (ec : Nat) (w1 : Nat) (w2 : Nat) (t1 : Nat) (t2 : Nat) (n1 : Nat) (n2 : Nat) (n3 : Nat) (g1 : Nat) (s1 : Nat) (s2 : Nat) (s3 : Nat) (s4 : Nat) (s5 : Nat) (sz : Nat) : Met l y_U_count [Cond.code y_U_count b_U_count 2 (some .int)] ({ frames := 100, cells := 0, slots := 0, locals := 1500 }) (ux_Pc [.ref h0, .int 7] (dC, dI) cls [(h0, .inr (0, [.ref row, .int 0, .int 0, .ref nb, .ref wi, .ref ga, .ref sg, .ref tc, .ref st, .ref hp, .ref ec, .ref row, .int 0, .int 0])), (wi, .inr (2, [.ref nb, .ref w1, .ref w2, .int 0, .int 0])), (tc, .inr (6, [.ref t1, .ref t2, .ref wi, .int 0, .int 0])), (nb, .inr (1, [.ref n1, .ref n2, .ref n3, .int 0, .int 0])), (ga, .inr (3, [.ref g1, .int 0])), (st, .inr (10, [.ref s1, .ref s2, .ref s3, .ref s4, .ref s5, .int 0]))] [] sz) (va_Qi (fun (r : Int32) (_ : Unit) => r = 0) (fun (_ : Unit) (t : State) => ux_B (dC, dI) cls (va_A [(h0, .inr (0, [.ref row, .int 0, .int 0, .ref nb, .ref wi, .ref ga, .ref sg, .ref tc, .ref st, .ref hp, .ref ec, .ref row, .int 0, .int 0])), (wi, .inr (2, [.ref nb, .ref w1, .ref w2, .int 0, .int 0])), (tc, .inr (6, [.ref t1, .ref t2, .ref wi, .int 0, .int 0])), (nb, .inr (1, [.ref n1, .ref n2, .ref n3, .int 0, .int 0])), (ga, .inr (3, [.ref g1, .int 0])), (st, .inr (10, [.ref s1, .ref s2, .ref s3, .ref s4, .ref s5, .int 0]))] sz) [] [] t) (va_A [(h0, .inr (0, [.ref row, .int 0, .int 0, .ref nb, .ref wi, .ref ga, .ref sg, .ref tc, .ref st, .ref hp, .ref ec, .ref row, .int 0, .int 0])), (wi, .inr (2, [.ref nb, .ref w1, .ref w2, .int 0, .int 0])), (tc, .inr (6, [.ref t1, .ref t2, .ref wi, .int 0, .int 0])), (nb, .inr (1, [.ref n1, .ref n2, .ref n3, .int 0, .int 0])), (ga, .inr (3, [.ref g1, .int 0])), (st, .inr (10, [.ref s1, .ref s2, .ref s3, .ref s4, .ref s5, .int 0]))] sz)) 0 0 (va_A [(h0, .inr (0, [.ref row, .int 0, .int 0, .ref nb, .ref wi, .ref ga, .ref sg, .ref tc, .ref st, .ref hp, .ref ec, .ref row, .int 0, .int 0])), (wi, .inr (2, [.ref nb, .ref w1, .ref w2, .int 0, .int 0])), (tc, .inr (6, [.ref t1, .ref t2, .ref wi, .int 0, .int 0])), (nb, .inr (1, [.ref n1, .ref n2, .ref n3, .int 0, .int 0])), (ga, .inr (3, [.ref g1, .int 0])), (st, .inr (10, [.ref s1, .ref s2, .ref s3, .ref s4, .ref s5, .int 0]))] sz) := by
  refine Met.ofW (cc := b_U_count) (maxL := 2) (ret := some .int) (by decide) rfl ?_
  intro p e s m args below meth c s₁ B hml hv
  obtain ⟨rfl, hsz, hP, hK, hD0, hT⟩ := hv
  have hx := B.exec
  have hb := B.bytes
  have hr := B.returns
  have hown : s.vm.findClass "UnikernelHttp" = some m.cls := findClass_of_methodNamed B.named
  have hlocks := B.notSynchronized
  subst hsz
  have hD := hD0.self (sz := s.heap.size)
  have hns := ux_ns hP
  generalize hAe : va_A [(h0, .inr (0, [.ref row, .int 0, .int 0, .ref nb, .ref wi, .ref ga, .ref sg, .ref tc, .ref st, .ref hp, .ref ec, .ref row, .int 0, .int 0])), (wi, .inr (2, [.ref nb, .ref w1, .ref w2, .int 0, .int 0])), (tc, .inr (6, [.ref t1, .ref t2, .ref wi, .int 0, .int 0])), (nb, .inr (1, [.ref n1, .ref n2, .ref n3, .int 0, .int 0])), (ga, .inr (3, [.ref g1, .int 0])), (st, .inr (10, [.ref s1, .ref s2, .ref s3, .ref s4, .ref s5, .int 0]))] s.heap.size = A at hD hns ⊢
  have hA : ∀ q : Nat, s.heap.size ≤ q → A q := fun q h => by rw [← hAe]; exact Or.inr h
  have hS : va_S A s.heap s.heap [] := va_S.rf
  have hl := lv_entry ([.ref h0, .int 7]) (n := 2) (Nat.le_of_ble_eq_true rfl)
  rw [lg_entry_eq]
  generalize (lg_sl ([.ref h0, .int 7]) ++ List.replicate (2 - (lg_sl ([.ref h0, .int 7])).length) Slot.unset).toArray = ls at hl ⊢
  have hl : lv_has ls 2 [(0, .ref h0), (1, .int 7)] := hl
  have hfx : CallFix p m c b_U_count 2 s ([.ref h0, .int 7] : List Value).toArray [] "UnikernelHttp" := ⟨hx, hb, hml, hown, fun _ h => by cases h⟩
  refine lv_iload_n hx hb d_U_count_0 rfl (lv_at hl 1 rfl) ?_
  refine lv_tableIn (tgt := 101) hx hb d_U_count_1 (by decide) (by decide) rfl (by decide) ?_
  refine lv_aload_n hx hb d_U_count_101 rfl (lv_at hl 0 rfl) ?_
  refine va_get (D := (dC, dI)) (ci := 0) (v := .ref wi) (C := R_U) (T := F_U) (N := 14) hx hb (u_U hT) (fun _ h => h) hown hK hP 0 rfl rfl 4 (by decide) (ux_T_at hT tw_447 rfl) (fun _ h9 => h9) rfl d_U_count_102 ?_
  refine va_getN (D := (dC, dI)) (ci := 2) (v := .int 0) (C := R_Wi) (T := F_Wi) (N := 5) hx hb (u_Wi hT) (fun _ h => h) hown hK hP 1 rfl rfl 4 (by decide) (ux_T_at hT tw_83 rfl) (fun _ h9 => h9) rfl d_U_count_105 ?_
  have hP9 := hP.sub (ws' := []) [] rfl
  have hD9 := hD.sub (ws' := []) [] (by decide) rfl
  have hK9 := hK.sub (tys' := []) [] rfl
  refine W.widen (k := 0) (n := 0) (Nat.le_of_ble_eq_true rfl) (Nat.le_of_ble_eq_true rfl) ?_
  exact W.iret (v := 0) hx hb hr (fun t ht hW => ⟨⟨_, (), rfl, rfl, by rw [ht]; exact hP9, va_K.moved hW.alike hK9, hD9⟩, hS.F ht⟩) hS.2.2 d_U_count_108
set_option maxHeartbeats 4000000 in
set_option maxRecDepth 100000 in
theorem c_U_count_no (l : Launch) (hfl : l.flags = flags0) (dC : Nat → ClassId) (dI : Nat → Nat → Nat) (h0 : Nat) (row : Nat) (nb : Nat) (wi : Nat) (ga : Nat) (sg : Nat) (tc : Nat) (st : Nat) (hp : Nat) (ec : Nat) (p0 : Int32) (hn : p0.toInt < 0 ∨ 7 < p0.toInt) (sz : Nat) : ux_Met l y_U_count [Cond.code y_U_count b_U_count 2 (some .int)] ({ frames := 100, cells := 1, slots := 6, locals := 1500 }) (ux_PcH [.ref h0, .int p0] (dC, dI) cls [(h0, .inr (0, [.ref row, .int 0, .int 0, .ref nb, .ref wi, .ref ga, .ref sg, .ref tc, .ref st, .ref hp, .ref ec, .ref row, .int 0, .int 0]))] [] sz) (ux_X "java/lang/IllegalArgumentException" (va_A [(h0, .inr (0, [.ref row, .int 0, .int 0, .ref nb, .ref wi, .ref ga, .ref sg, .ref tc, .ref st, .ref hp, .ref ec, .ref row, .int 0, .int 0]))] sz)) 1 6 (va_A [(h0, .inr (0, [.ref row, .int 0, .int 0, .ref nb, .ref wi, .ref ga, .ref sg, .ref tc, .ref st, .ref hp, .ref ec, .ref row, .int 0, .int 0]))] sz) := by
  refine ux_ofW (cc := b_U_count) (maxL := 2) (ret := some .int) (by decide) rfl ?_
  intro p e s m args below meth c s₁ B hml hv
  obtain ⟨⟨rfl, hsz, hP, hK, hD0, hT⟩, hH⟩ := hv
  have hx := B.exec
  have hb := B.bytes
  have hr := B.returns
  have hown : s.vm.findClass "UnikernelHttp" = some m.cls := findClass_of_methodNamed B.named
  have hlocks := B.notSynchronized
  subst hsz
  have hD := hD0.self (sz := s.heap.size)
  have hns := ux_ns hP
  generalize hAe : va_A [(h0, .inr (0, [.ref row, .int 0, .int 0, .ref nb, .ref wi, .ref ga, .ref sg, .ref tc, .ref st, .ref hp, .ref ec, .ref row, .int 0, .int 0]))] s.heap.size = A at hD hns ⊢
  have hA : ∀ q : Nat, s.heap.size ≤ q → A q := fun q h => by rw [← hAe]; exact Or.inr h
  have hS : va_S A s.heap s.heap [] := va_S.rf
  have hl := lv_entry ([.ref h0, .int p0]) (n := 2) (Nat.le_of_ble_eq_true rfl)
  rw [lg_entry_eq]
  generalize (lg_sl ([.ref h0, .int p0]) ++ List.replicate (2 - (lg_sl ([.ref h0, .int p0])).length) Slot.unset).toArray = ls at hl ⊢
  have hl : lv_has ls 2 [(0, .ref h0), (1, .int p0)] := hl
  have hfx : CallFix p m c b_U_count 2 s ([.ref h0, .int p0] : List Value).toArray [] "UnikernelHttp" := ⟨hx, hb, hml, hown, fun _ h => by cases h⟩
  refine lv_iload_n hx hb d_U_count_0 rfl (lv_at hl 1 rfl) ?_
  refine lv_tableOut (tgt := 109) hx hb d_U_count_1 (by omega) (by decide) ?_
  exact ux_throwX (own := "UnikernelHttp") (E := "java/lang/IllegalArgumentException") (names := ["java/lang/RuntimeException", "java/lang/Exception"]) (ic := 89) (iN := 87) hx (ux_off hfl B.admits) hb hlocks (B.noHandlers (atoms_spec (ws := [Cond.code y_U_count b_U_count 2 (some .int)]) B.pre _ List.mem_cons_self)) hown (by decide +kernel) (by decide +kernel) (at_89_U hT hH) (ux_T_at hT tw_571 rfl) (ux_T_at hT tw_19 rfl) (by rw [hml]; exact hl.1) d_U_count_109 d_U_count_112 d_U_count_113 d_U_count_116 (Nat.le_of_ble_eq_true rfl) (Nat.le_of_ble_eq_true rfl) (Nat.le_of_ble_eq_true rfl) (Nat.le_of_ble_eq_true rfl) (Nat.le_of_ble_eq_true rfl) (Nat.le_of_ble_eq_true rfl) hS hns
set_option maxHeartbeats 4000000 in
set_option maxRecDepth 100000 in
theorem c_U_connection (l : Launch) (hfl : l.flags = flags0) (dC : Nat → ClassId) (dI : Nat → Nat → Nat) (h0 : Nat) (row : Nat) (nb : Nat) (wi : Nat) (ga : Nat) (sg : Nat) (tc : Nat) (st : Nat) (hp : Nat) (ec : Nat) (t1 : Nat) (t2 : Nat) (p0 : Int32) (p1 : Int32) (p2 : Int32) (sz : Nat) : ux_Met l y_U_connection [Cond.code y_U_connection b_U_connection 5 (some .int)] ({ frames := 100, cells := 1, slots := 6, locals := 1500 }) (ux_PcH [.ref h0, .int p0, .int p1, .int p2] (dC, dI) cls [(h0, .inr (0, [.ref row, .int 0, .int 0, .ref nb, .ref wi, .ref ga, .ref sg, .ref tc, .ref st, .ref hp, .ref ec, .ref row, .int 0, .int 0])), (tc, .inr (6, [.ref t1, .ref t2, .ref wi, .int 0, .int 0]))] [] sz) (ux_X "java/util/NoSuchElementException" (va_A [(h0, .inr (0, [.ref row, .int 0, .int 0, .ref nb, .ref wi, .ref ga, .ref sg, .ref tc, .ref st, .ref hp, .ref ec, .ref row, .int 0, .int 0])), (tc, .inr (6, [.ref t1, .ref t2, .ref wi, .int 0, .int 0]))] sz)) 1 6 (va_A [(h0, .inr (0, [.ref row, .int 0, .int 0, .ref nb, .ref wi, .ref ga, .ref sg, .ref tc, .ref st, .ref hp, .ref ec, .ref row, .int 0, .int 0])), (tc, .inr (6, [.ref t1, .ref t2, .ref wi, .int 0, .int 0]))] sz) := by
  refine ux_ofW (cc := b_U_connection) (maxL := 5) (ret := some .int) (by decide) rfl ?_
  intro p e s m args below meth c s₁ B hml hv
  obtain ⟨⟨rfl, hsz, hP, hK, hD0, hT⟩, hH⟩ := hv
  have hx := B.exec
  have hb := B.bytes
  have hr := B.returns
  have hown : s.vm.findClass "UnikernelHttp" = some m.cls := findClass_of_methodNamed B.named
  have hlocks := B.notSynchronized
  subst hsz
  have hD := hD0.self (sz := s.heap.size)
  have hns := ux_ns hP
  generalize hAe : va_A [(h0, .inr (0, [.ref row, .int 0, .int 0, .ref nb, .ref wi, .ref ga, .ref sg, .ref tc, .ref st, .ref hp, .ref ec, .ref row, .int 0, .int 0])), (tc, .inr (6, [.ref t1, .ref t2, .ref wi, .int 0, .int 0]))] s.heap.size = A at hD hns ⊢
  have hA : ∀ q : Nat, s.heap.size ≤ q → A q := fun q h => by rw [← hAe]; exact Or.inr h
  have hS : va_S A s.heap s.heap [] := va_S.rf
  have hl := lv_entry ([.ref h0, .int p0, .int p1, .int p2]) (n := 5) (Nat.le_of_ble_eq_true rfl)
  rw [lg_entry_eq]
  generalize (lg_sl ([.ref h0, .int p0, .int p1, .int p2]) ++ List.replicate (5 - (lg_sl ([.ref h0, .int p0, .int p1, .int p2])).length) Slot.unset).toArray = ls at hl ⊢
  have hl : lv_has ls 5 [(0, .ref h0), (1, .int p0), (2, .int p1), (3, .int p2)] := hl
  have hfx : CallFix p m c b_U_connection 5 s ([.ref h0, .int p0, .int p1, .int p2] : List Value).toArray [] "UnikernelHttp" := ⟨hx, hb, hml, hown, fun _ h => by cases h⟩
  refine lv_aload_n hx hb d_U_connection_0 rfl (lv_at hl 0 rfl) ?_
  refine va_get (D := (dC, dI)) (ci := 0) (v := .ref tc) (C := R_U) (T := F_U) (N := 14) hx hb (u_U hT) (fun _ h => h) hown hK hP 0 rfl rfl 7 (by decide) (ux_T_at hT tw_450 rfl) (fun _ h9 => h9) rfl d_U_connection_1 ?_
  refine lv_iload_n hx hb d_U_connection_4 rfl (lv_at hl 1 rfl) ?_
  refine lv_iload_n hx hb d_U_connection_5 rfl (lv_at hl 2 rfl) ?_
  have hPc := hP.sub (ws' := [(tc, .inr (6, [.ref t1, .ref t2, .ref wi, .int 0, .int 0]))]) [1] rfl
  have hDc := hD.sub (ws' := [(tc, .inr (6, [.ref t1, .ref t2, .ref wi, .int 0, .int 0]))]) [1] (by decide) rfl
  have hKc := hK.sub (tys' := []) [] rfl
  have hFc := va_free (wc := [(tc, .inr (6, [.ref t1, .ref t2, .ref wi, .int 0, .int 0]))]) hD hS hA [1] rfl
  have hkc : 0 + 0 ≤ 1 := (Nat.le_of_ble_eq_true rfl)
  refine va_callq (va_runVN (As := [.int p0, .int p1]) (rest := []) hfx (c_Tc_find l dC dI tc t1 t2 wi p0 p1 s.heap.size) ⟨(ux_cn 2 hT tw_760 tw_757 tw_7 rfl rfl (by decide +kernel) ⟨(Nat.le_of_ble_eq_true rfl), (Nat.le_of_ble_eq_true rfl)⟩), (ux_T_at hT tw_759 rfl), (ux_T_at hT (ux_tp (q := (⟨"UnikernelHttp$Tcp", "find", "(II)LUnikernelHttp$Connection;"⟩, 5)) (by decide +kernel)) rfl)⟩ (ux_preV (r := (R_Tc, F_Tc, 5)) (ci := 6) (q0 := 0) [.int p0, .int p1] hT hPc hKc hDc rfl rfl) rfl rfl hl.1 rfl (lv_room (Nat.le_of_ble_eq_true rfl)) d_U_connection_6 ⟨(Nat.le_of_ble_eq_true rfl), (Nat.le_of_ble_eq_true rfl)⟩) hS (fun q _ h => hFc q h) hFc (fun r1 u t H1 locs ht hvm hw hB hz1 hk1 hS => ?_)
  obtain ⟨hP1, hK1, hD1⟩ := hB
  rw [ht] at hP1
  have hK1 := va_K.moved hvm.symm hK1
  obtain ⟨hP, hD⟩ := va_join (wr := [(h0, .inr (0, [.ref row, .int 0, .int 0, .ref nb, .ref wi, .ref ga, .ref sg, .ref tc, .ref st, .ref hp, .ref ec, .ref row, .int 0, .int 0]))]) (w1 := [(tc, .inr (6, [.ref t1, .ref t2, .ref wi, .int 0, .int 0]))]) hP hD [1] [0] rfl rfl (by decide) (by decide) hk1 hFc hP1 hD1
  have hK := (hK.sub (tys' := []) [] rfl).app hK1
  generalize H1 = H at hP hS ⊢
  have hP : va_P (dC, dI) cls [(h0, .inr (0, [.ref row, .int 0, .int 0, .ref nb, .ref wi, .ref ga, .ref sg, .ref tc, .ref st, .ref hp, .ref ec, .ref row, .int 0, .int 0])), (tc, .inr (6, [.ref t1, .ref t2, .ref wi, .int 0, .int 0]))] H := hP
  have hD : va_D A [(h0, .inr (0, [.ref row, .int 0, .int 0, .ref nb, .ref wi, .ref ga, .ref sg, .ref tc, .ref st, .ref hp, .ref ec, .ref row, .int 0, .int 0])), (tc, .inr (6, [.ref t1, .ref t2, .ref wi, .int 0, .int 0]))] := hD
  have hK : va_K (dC, dI) cls [] s := hK
  obtain rfl : r1 = none := hw
  refine W.eq (g2 := F0 m 9 ls [.null]) rfl ?_
  refine lv_astoreN hx hb d_U_connection_9 hl (by decide) rfl (fun ls hl => ?_)
  have hl : lv_has ls 5 [(4, .null), (0, .ref h0), (1, .int p0), (2, .int p1), (3, .int p2)] := hl
  refine lv_aloadN hx hb d_U_connection_11 (lv_at hl 0 rfl) ?_
  refine lv_ifnonnullN hx hb d_U_connection_13 ?_
  exact ux_throwX (own := "UnikernelHttp") (E := "java/util/NoSuchElementException") (names := ["java/lang/RuntimeException", "java/lang/Exception"]) (ic := 198) (iN := 196) hx (ux_off hfl B.admits) hb hlocks (B.noHandlers (atoms_spec (ws := [Cond.code y_U_connection b_U_connection 5 (some .int)]) B.pre _ List.mem_cons_self)) hown (by decide +kernel) (by decide +kernel) (at_198_U hT hH) (ux_T_at hT tw_1463 rfl) (ux_T_at hT tw_33 rfl) (by rw [hml]; exact hl.1) d_U_connection_16 d_U_connection_19 d_U_connection_20 d_U_connection_23 (Nat.le_of_ble_eq_true rfl) (Nat.le_of_ble_eq_true rfl) (Nat.le_of_ble_eq_true rfl) (Nat.le_of_ble_eq_true rfl) (Nat.le_of_ble_eq_true rfl) (Nat.le_of_ble_eq_true rfl) hS hns
