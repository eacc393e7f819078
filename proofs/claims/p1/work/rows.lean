section
-- ===== PART A: goes FIRST, ahead of the names: the tables' words, and 'selects' of the private methods out of them =====
/-- a private method of a class that the tables say can be made, by its rows of tables_1 -/
def lw_okq (q : MethodName × Nat) : Prop := (q.1.cls ≠ "java/lang/invoke/MethodHandle" ∧ q.1.cls ≠ "java/lang/invoke/VarHandle") ∧ Cond.instantiable q.1.cls q.2 ∈ tables_1 ∧ Cond.privateMethod q.1 ∈ tables_1 ∧ Cond.instanceMethod q.1 ∈ tables_1
theorem lw_p0 : lw_okq (⟨"java/lang/Throwable", "fillInStackTrace", "(I)Ljava/lang/Throwable;"⟩, 6) := ⟨⟨by decide +kernel, by decide +kernel⟩, List.mem_of_getElem? (i := 535) (by decide +kernel), List.mem_of_getElem? (i := 533) (by decide +kernel), List.mem_of_getElem? (i := 534) (by decide +kernel)⟩
theorem lw_p1 : lw_okq (⟨"UnikernelHttp", "isForMe", "(I)Z"⟩, 14) := ⟨⟨by decide +kernel, by decide +kernel⟩, List.mem_of_getElem? (i := 35) (by decide +kernel), List.mem_of_getElem? (i := 594) (by decide +kernel), List.mem_of_getElem? (i := 595) (by decide +kernel)⟩
theorem lw_p2 : lw_okq (⟨"UnikernelHttp", "takeArp", "(I)V"⟩, 14) := ⟨⟨by decide +kernel, by decide +kernel⟩, List.mem_of_getElem? (i := 35) (by decide +kernel), List.mem_of_getElem? (i := 610) (by decide +kernel), List.mem_of_getElem? (i := 611) (by decide +kernel)⟩
theorem lw_p3 : lw_okq (⟨"UnikernelHttp$Neighbours", "hear", "(IJ)V"⟩, 5) := ⟨⟨by decide +kernel, by decide +kernel⟩, List.mem_of_getElem? (i := 43) (by decide +kernel), List.mem_of_getElem? (i := 616) (by decide +kernel), List.mem_of_getElem? (i := 617) (by decide +kernel)⟩
theorem lw_p4 : lw_okq (⟨"UnikernelHttp$Neighbours", "indexOf", "(I)I"⟩, 5) := ⟨⟨by decide +kernel, by decide +kernel⟩, List.mem_of_getElem? (i := 43) (by decide +kernel), List.mem_of_getElem? (i := 620) (by decide +kernel), List.mem_of_getElem? (i := 621) (by decide +kernel)⟩
theorem lw_p5 : lw_okq (⟨"UnikernelHttp$Neighbours", "freePlace", "()I"⟩, 5) := ⟨⟨by decide +kernel, by decide +kernel⟩, List.mem_of_getElem? (i := 43) (by decide +kernel), List.mem_of_getElem? (i := 624) (by decide +kernel), List.mem_of_getElem? (i := 625) (by decide +kernel)⟩
theorem lw_p6 : lw_okq (⟨"UnikernelHttp$Wire", "sendArpAnswer", "(JI)V"⟩, 5) := ⟨⟨by decide +kernel, by decide +kernel⟩, List.mem_of_getElem? (i := 70) (by decide +kernel), List.mem_of_getElem? (i := 628) (by decide +kernel), List.mem_of_getElem? (i := 629) (by decide +kernel)⟩
theorem lw_p7 : lw_okq (⟨"UnikernelHttp$Wire", "beginFrame", "(JII)I"⟩, 5) := ⟨⟨by decide +kernel, by decide +kernel⟩, List.mem_of_getElem? (i := 70) (by decide +kernel), List.mem_of_getElem? (i := 632) (by decide +kernel), List.mem_of_getElem? (i := 633) (by decide +kernel)⟩
theorem lw_p8 : lw_okq (⟨"UnikernelHttp", "isGoodPacket", "(I)Z"⟩, 14) := ⟨⟨by decide +kernel, by decide +kernel⟩, List.mem_of_getElem? (i := 35) (by decide +kernel), List.mem_of_getElem? (i := 650) (by decide +kernel), List.mem_of_getElem? (i := 651) (by decide +kernel)⟩
theorem lw_p9 : lw_okq (⟨"UnikernelHttp", "fillsDatagram", "()Z"⟩, 14) := ⟨⟨by decide +kernel, by decide +kernel⟩, List.mem_of_getElem? (i := 35) (by decide +kernel), List.mem_of_getElem? (i := 667) (by decide +kernel), List.mem_of_getElem? (i := 668) (by decide +kernel)⟩
theorem lw_p10 : lw_okq (⟨"UnikernelHttp$Gatherings", "take", "([BIII)LUnikernelHttp$Gathering;"⟩, 2) := ⟨⟨by decide +kernel, by decide +kernel⟩, List.mem_of_getElem? (i := 96) (by decide +kernel), List.mem_of_getElem? (i := 671) (by decide +kernel), List.mem_of_getElem? (i := 672) (by decide +kernel)⟩
theorem lw_p11 : lw_okq (⟨"UnikernelHttp$Gatherings", "indexOf", "([B)I"⟩, 2) := ⟨⟨by decide +kernel, by decide +kernel⟩, List.mem_of_getElem? (i := 96) (by decide +kernel), List.mem_of_getElem? (i := 676) (by decide +kernel), List.mem_of_getElem? (i := 677) (by decide +kernel)⟩
theorem lw_p12 : lw_okq (⟨"UnikernelHttp$Gathering", "isOf", "([B)Z"⟩, 9) := ⟨⟨by decide +kernel, by decide +kernel⟩, List.mem_of_getElem? (i := 103) (by decide +kernel), List.mem_of_getElem? (i := 680) (by decide +kernel), List.mem_of_getElem? (i := 681) (by decide +kernel)⟩
theorem lw_p13 : lw_okq (⟨"UnikernelHttp$Gatherings", "drop", "(I)V"⟩, 2) := ⟨⟨by decide +kernel, by decide +kernel⟩, List.mem_of_getElem? (i := 96) (by decide +kernel), List.mem_of_getElem? (i := 687) (by decide +kernel), List.mem_of_getElem? (i := 688) (by decide +kernel)⟩
theorem lw_p14 : lw_okq (⟨"UnikernelHttp$Gatherings", "begin", "([BI)I"⟩, 2) := ⟨⟨by decide +kernel, by decide +kernel⟩, List.mem_of_getElem? (i := 96) (by decide +kernel), List.mem_of_getElem? (i := 691) (by decide +kernel), List.mem_of_getElem? (i := 692) (by decide +kernel)⟩
theorem lw_p15 : lw_okq (⟨"UnikernelHttp$Gathering", "begin", "([BI)V"⟩, 9) := ⟨⟨by decide +kernel, by decide +kernel⟩, List.mem_of_getElem? (i := 103) (by decide +kernel), List.mem_of_getElem? (i := 695) (by decide +kernel), List.mem_of_getElem? (i := 696) (by decide +kernel)⟩
def lw_privs_1 : List (MethodName × Nat) := [(⟨"java/lang/Throwable", "fillInStackTrace", "(I)Ljava/lang/Throwable;"⟩, 6), (⟨"UnikernelHttp", "isForMe", "(I)Z"⟩, 14), (⟨"UnikernelHttp", "takeArp", "(I)V"⟩, 14), (⟨"UnikernelHttp$Neighbours", "hear", "(IJ)V"⟩, 5), (⟨"UnikernelHttp$Neighbours", "indexOf", "(I)I"⟩, 5), (⟨"UnikernelHttp$Neighbours", "freePlace", "()I"⟩, 5), (⟨"UnikernelHttp$Wire", "sendArpAnswer", "(JI)V"⟩, 5), (⟨"UnikernelHttp$Wire", "beginFrame", "(JII)I"⟩, 5), (⟨"UnikernelHttp", "isGoodPacket", "(I)Z"⟩, 14), (⟨"UnikernelHttp", "fillsDatagram", "()Z"⟩, 14), (⟨"UnikernelHttp$Gatherings", "take", "([BIII)LUnikernelHttp$Gathering;"⟩, 2), (⟨"UnikernelHttp$Gatherings", "indexOf", "([B)I"⟩, 2), (⟨"UnikernelHttp$Gathering", "isOf", "([B)Z"⟩, 9), (⟨"UnikernelHttp$Gatherings", "drop", "(I)V"⟩, 2), (⟨"UnikernelHttp$Gatherings", "begin", "([BI)I"⟩, 2), (⟨"UnikernelHttp$Gathering", "begin", "([BI)V"⟩, 9)]
theorem lw_r1 : ∀ q ∈ lw_privs_1, lw_okq q := List.forall_mem_cons.mpr ⟨lw_p0, List.forall_mem_cons.mpr ⟨lw_p1, List.forall_mem_cons.mpr ⟨lw_p2, List.forall_mem_cons.mpr ⟨lw_p3, List.forall_mem_cons.mpr ⟨lw_p4, List.forall_mem_cons.mpr ⟨lw_p5, List.forall_mem_cons.mpr ⟨lw_p6, List.forall_mem_cons.mpr ⟨lw_p7, List.forall_mem_cons.mpr ⟨lw_p8, List.forall_mem_cons.mpr ⟨lw_p9, List.forall_mem_cons.mpr ⟨lw_p10, List.forall_mem_cons.mpr ⟨lw_p11, List.forall_mem_cons.mpr ⟨lw_p12, List.forall_mem_cons.mpr ⟨lw_p13, List.forall_mem_cons.mpr ⟨lw_p14, List.forall_mem_cons.mpr ⟨lw_p15, fun _ h => absurd h List.not_mem_nil⟩⟩⟩⟩⟩⟩⟩⟩⟩⟩⟩⟩⟩⟩⟩⟩
theorem lw_p16 : lw_okq (⟨"UnikernelHttp$Gathering", "keep", "([BIII)V"⟩, 9) := ⟨⟨by decide +kernel, by decide +kernel⟩, List.mem_of_getElem? (i := 103) (by decide +kernel), List.mem_of_getElem? (i := 702) (by decide +kernel), List.mem_of_getElem? (i := 703) (by decide +kernel)⟩
theorem lw_p17 : lw_okq (⟨"UnikernelHttp", "takeEcho", "()V"⟩, 14) := ⟨⟨by decide +kernel, by decide +kernel⟩, List.mem_of_getElem? (i := 35) (by decide +kernel), List.mem_of_getElem? (i := 709) (by decide +kernel), List.mem_of_getElem? (i := 710) (by decide +kernel)⟩
theorem lw_p18 : lw_okq (⟨"UnikernelHttp$Wire", "sendPacket", "(II[BI)V"⟩, 5) := ⟨⟨by decide +kernel, by decide +kernel⟩, List.mem_of_getElem? (i := 70) (by decide +kernel), List.mem_of_getElem? (i := 720) (by decide +kernel), List.mem_of_getElem? (i := 721) (by decide +kernel)⟩
theorem lw_p19 : lw_okq (⟨"UnikernelHttp", "takeSegment", "()V"⟩, 14) := ⟨⟨by decide +kernel, by decide +kernel⟩, List.mem_of_getElem? (i := 35) (by decide +kernel), List.mem_of_getElem? (i := 730) (by decide +kernel), List.mem_of_getElem? (i := 731) (by decide +kernel)⟩
theorem lw_p20 : lw_okq (⟨"UnikernelHttp$Segment", "read", "([BIII)Z"⟩, 12) := ⟨⟨by decide +kernel, by decide +kernel⟩, List.mem_of_getElem? (i := 151) (by decide +kernel), List.mem_of_getElem? (i := 734) (by decide +kernel), List.mem_of_getElem? (i := 735) (by decide +kernel)⟩
theorem lw_p21 : lw_okq (⟨"UnikernelHttp$Segment", "has", "(I)Z"⟩, 12) := ⟨⟨by decide +kernel, by decide +kernel⟩, List.mem_of_getElem? (i := 151) (by decide +kernel), List.mem_of_getElem? (i := 746) (by decide +kernel), List.mem_of_getElem? (i := 747) (by decide +kernel)⟩
theorem lw_p22 : lw_okq (⟨"UnikernelHttp$Segment", "readOptions", "(II)V"⟩, 12) := ⟨⟨by decide +kernel, by decide +kernel⟩, List.mem_of_getElem? (i := 151) (by decide +kernel), List.mem_of_getElem? (i := 750) (by decide +kernel), List.mem_of_getElem? (i := 751) (by decide +kernel)⟩
theorem lw_p23 : lw_okq (⟨"UnikernelHttp$Tcp", "find", "(II)LUnikernelHttp$Connection;"⟩, 5) := ⟨⟨by decide +kernel, by decide +kernel⟩, List.mem_of_getElem? (i := 215) (by decide +kernel), List.mem_of_getElem? (i := 758) (by decide +kernel), List.mem_of_getElem? (i := 759) (by decide +kernel)⟩
theorem lw_p24 : lw_okq (⟨"UnikernelHttp$Tcp", "takeStranger", "(LUnikernelHttp$Segment;I)V"⟩, 5) := ⟨⟨by decide +kernel, by decide +kernel⟩, List.mem_of_getElem? (i := 215) (by decide +kernel), List.mem_of_getElem? (i := 762) (by decide +kernel), List.mem_of_getElem? (i := 763) (by decide +kernel)⟩
theorem lw_p25 : lw_okq (⟨"UnikernelHttp$Tcp", "sendReset", "(LUnikernelHttp$Segment;III)V"⟩, 5) := ⟨⟨by decide +kernel, by decide +kernel⟩, List.mem_of_getElem? (i := 215) (by decide +kernel), List.mem_of_getElem? (i := 767) (by decide +kernel), List.mem_of_getElem? (i := 768) (by decide +kernel)⟩
theorem lw_p26 : lw_okq (⟨"UnikernelHttp$Tcp", "writeHeader", "(IIIIII)V"⟩, 5) := ⟨⟨by decide +kernel, by decide +kernel⟩, List.mem_of_getElem? (i := 215) (by decide +kernel), List.mem_of_getElem? (i := 771) (by decide +kernel), List.mem_of_getElem? (i := 772) (by decide +kernel)⟩
theorem lw_p27 : lw_okq (⟨"UnikernelHttp$Tcp", "seal", "(II)V"⟩, 5) := ⟨⟨by decide +kernel, by decide +kernel⟩, List.mem_of_getElem? (i := 215) (by decide +kernel), List.mem_of_getElem? (i := 777) (by decide +kernel), List.mem_of_getElem? (i := 778) (by decide +kernel)⟩
theorem lw_p28 : lw_okq (⟨"UnikernelHttp$Connection", "begin", "(LUnikernelHttp$Segment;II)V"⟩, 17) := ⟨⟨by decide +kernel, by decide +kernel⟩, List.mem_of_getElem? (i := 222) (by decide +kernel), List.mem_of_getElem? (i := 786) (by decide +kernel), List.mem_of_getElem? (i := 787) (by decide +kernel)⟩
theorem lw_p29 : lw_okq (⟨"UnikernelHttp$Inbox", "begin", "(I)V"⟩, 7) := ⟨⟨by decide +kernel, by decide +kernel⟩, List.mem_of_getElem? (i := 228) (by decide +kernel), List.mem_of_getElem? (i := 790) (by decide +kernel), List.mem_of_getElem? (i := 791) (by decide +kernel)⟩
theorem lw_p30 : lw_okq (⟨"UnikernelHttp$Outbox", "begin", "(I)V"⟩, 5) := ⟨⟨by decide +kernel, by decide +kernel⟩, List.mem_of_getElem? (i := 263) (by decide +kernel), List.mem_of_getElem? (i := 795) (by decide +kernel), List.mem_of_getElem? (i := 796) (by decide +kernel)⟩
theorem lw_p31 : lw_okq (⟨"UnikernelHttp$Connection", "takeWindow", "(LUnikernelHttp$Segment;)V"⟩, 17) := ⟨⟨by decide +kernel, by decide +kernel⟩, List.mem_of_getElem? (i := 222) (by decide +kernel), List.mem_of_getElem? (i := 799) (by decide +kernel), List.mem_of_getElem? (i := 800) (by decide +kernel)⟩
def lw_privs_2 : List (MethodName × Nat) := [(⟨"UnikernelHttp$Gathering", "keep", "([BIII)V"⟩, 9), (⟨"UnikernelHttp", "takeEcho", "()V"⟩, 14), (⟨"UnikernelHttp$Wire", "sendPacket", "(II[BI)V"⟩, 5), (⟨"UnikernelHttp", "takeSegment", "()V"⟩, 14), (⟨"UnikernelHttp$Segment", "read", "([BIII)Z"⟩, 12), (⟨"UnikernelHttp$Segment", "has", "(I)Z"⟩, 12), (⟨"UnikernelHttp$Segment", "readOptions", "(II)V"⟩, 12), (⟨"UnikernelHttp$Tcp", "find", "(II)LUnikernelHttp$Connection;"⟩, 5), (⟨"UnikernelHttp$Tcp", "takeStranger", "(LUnikernelHttp$Segment;I)V"⟩, 5), (⟨"UnikernelHttp$Tcp", "sendReset", "(LUnikernelHttp$Segment;III)V"⟩, 5), (⟨"UnikernelHttp$Tcp", "writeHeader", "(IIIIII)V"⟩, 5), (⟨"UnikernelHttp$Tcp", "seal", "(II)V"⟩, 5), (⟨"UnikernelHttp$Connection", "begin", "(LUnikernelHttp$Segment;II)V"⟩, 17), (⟨"UnikernelHttp$Inbox", "begin", "(I)V"⟩, 7), (⟨"UnikernelHttp$Outbox", "begin", "(I)V"⟩, 5), (⟨"UnikernelHttp$Connection", "takeWindow", "(LUnikernelHttp$Segment;)V"⟩, 17)]
theorem lw_r2 : ∀ q ∈ lw_privs_2, lw_okq q := List.forall_mem_cons.mpr ⟨lw_p16, List.forall_mem_cons.mpr ⟨lw_p17, List.forall_mem_cons.mpr ⟨lw_p18, List.forall_mem_cons.mpr ⟨lw_p19, List.forall_mem_cons.mpr ⟨lw_p20, List.forall_mem_cons.mpr ⟨lw_p21, List.forall_mem_cons.mpr ⟨lw_p22, List.forall_mem_cons.mpr ⟨lw_p23, List.forall_mem_cons.mpr ⟨lw_p24, List.forall_mem_cons.mpr ⟨lw_p25, List.forall_mem_cons.mpr ⟨lw_p26, List.forall_mem_cons.mpr ⟨lw_p27, List.forall_mem_cons.mpr ⟨lw_p28, List.forall_mem_cons.mpr ⟨lw_p29, List.forall_mem_cons.mpr ⟨lw_p30, List.forall_mem_cons.mpr ⟨lw_p31, fun _ h => absurd h List.not_mem_nil⟩⟩⟩⟩⟩⟩⟩⟩⟩⟩⟩⟩⟩⟩⟩⟩
theorem lw_p32 : lw_okq (⟨"UnikernelHttp$Connection", "startTimer", "(I)V"⟩, 17) := ⟨⟨by decide +kernel, by decide +kernel⟩, List.mem_of_getElem? (i := 222) (by decide +kernel), List.mem_of_getElem? (i := 804) (by decide +kernel), List.mem_of_getElem? (i := 805) (by decide +kernel)⟩
theorem lw_p33 : lw_okq (⟨"UnikernelHttp$Tcp", "sendSyn", "(LUnikernelHttp$Connection;)V"⟩, 5) := ⟨⟨by decide +kernel, by decide +kernel⟩, List.mem_of_getElem? (i := 215) (by decide +kernel), List.mem_of_getElem? (i := 809) (by decide +kernel), List.mem_of_getElem? (i := 810) (by decide +kernel)⟩
theorem lw_p34 : lw_okq (⟨"UnikernelHttp$Inbox", "window", "()I"⟩, 7) := ⟨⟨by decide +kernel, by decide +kernel⟩, List.mem_of_getElem? (i := 228) (by decide +kernel), List.mem_of_getElem? (i := 813) (by decide +kernel), List.mem_of_getElem? (i := 814) (by decide +kernel)⟩
theorem lw_p35 : lw_okq (⟨"UnikernelHttp$Tcp", "accepts", "(LUnikernelHttp$Connection;LUnikernelHttp$Segment;)Z"⟩, 5) := ⟨⟨by decide +kernel, by decide +kernel⟩, List.mem_of_getElem? (i := 215) (by decide +kernel), List.mem_of_getElem? (i := 818) (by decide +kernel), List.mem_of_getElem? (i := 819) (by decide +kernel)⟩
theorem lw_p36 : lw_okq (⟨"UnikernelHttp$Inbox", "fits", "(LUnikernelHttp$Segment;)Z"⟩, 7) := ⟨⟨by decide +kernel, by decide +kernel⟩, List.mem_of_getElem? (i := 228) (by decide +kernel), List.mem_of_getElem? (i := 822) (by decide +kernel), List.mem_of_getElem? (i := 823) (by decide +kernel)⟩
theorem lw_p37 : lw_okq (⟨"UnikernelHttp$Inbox", "isInWindow", "(I)Z"⟩, 7) := ⟨⟨by decide +kernel, by decide +kernel⟩, List.mem_of_getElem? (i := 228) (by decide +kernel), List.mem_of_getElem? (i := 826) (by decide +kernel), List.mem_of_getElem? (i := 827) (by decide +kernel)⟩
theorem lw_p38 : lw_okq (⟨"UnikernelHttp$Tcp", "sendAck", "(LUnikernelHttp$Connection;)V"⟩, 5) := ⟨⟨by decide +kernel, by decide +kernel⟩, List.mem_of_getElem? (i := 215) (by decide +kernel), List.mem_of_getElem? (i := 831) (by decide +kernel), List.mem_of_getElem? (i := 832) (by decide +kernel)⟩
theorem lw_p39 : lw_okq (⟨"UnikernelHttp$Tcp", "sendBytes", "(LUnikernelHttp$Connection;III)V"⟩, 5) := ⟨⟨by decide +kernel, by decide +kernel⟩, List.mem_of_getElem? (i := 215) (by decide +kernel), List.mem_of_getElem? (i := 835) (by decide +kernel), List.mem_of_getElem? (i := 836) (by decide +kernel)⟩
theorem lw_p40 : lw_okq (⟨"UnikernelHttp$Tcp", "remove", "(LUnikernelHttp$Connection;)V"⟩, 5) := ⟨⟨by decide +kernel, by decide +kernel⟩, List.mem_of_getElem? (i := 215) (by decide +kernel), List.mem_of_getElem? (i := 840) (by decide +kernel), List.mem_of_getElem? (i := 841) (by decide +kernel)⟩
theorem lw_p41 : lw_okq (⟨"UnikernelHttp$Connection", "open", "(LUnikernelHttp$Segment;)V"⟩, 17) := ⟨⟨by decide +kernel, by decide +kernel⟩, List.mem_of_getElem? (i := 222) (by decide +kernel), List.mem_of_getElem? (i := 844) (by decide +kernel), List.mem_of_getElem? (i := 845) (by decide +kernel)⟩
theorem lw_p42 : lw_okq (⟨"UnikernelHttp$Outbox", "acknowledge", "(I)V"⟩, 5) := ⟨⟨by decide +kernel, by decide +kernel⟩, List.mem_of_getElem? (i := 263) (by decide +kernel), List.mem_of_getElem? (i := 848) (by decide +kernel), List.mem_of_getElem? (i := 849) (by decide +kernel)⟩
theorem lw_p43 : lw_okq (⟨"UnikernelHttp$Connection", "endTimer", "()V"⟩, 17) := ⟨⟨by decide +kernel, by decide +kernel⟩, List.mem_of_getElem? (i := 222) (by decide +kernel), List.mem_of_getElem? (i := 855) (by decide +kernel), List.mem_of_getElem? (i := 856) (by decide +kernel)⟩
theorem lw_p44 : lw_okq (⟨"UnikernelHttp$Tcp", "takes", "(LUnikernelHttp$Connection;LUnikernelHttp$Segment;I)Z"⟩, 5) := ⟨⟨by decide +kernel, by decide +kernel⟩, List.mem_of_getElem? (i := 215) (by decide +kernel), List.mem_of_getElem? (i := 859) (by decide +kernel), List.mem_of_getElem? (i := 860) (by decide +kernel)⟩
theorem lw_p45 : lw_okq (⟨"UnikernelHttp$Connection", "wantsAgain", "(LUnikernelHttp$Segment;I)Z"⟩, 17) := ⟨⟨by decide +kernel, by decide +kernel⟩, List.mem_of_getElem? (i := 222) (by decide +kernel), List.mem_of_getElem? (i := 863) (by decide +kernel), List.mem_of_getElem? (i := 864) (by decide +kernel)⟩
theorem lw_p46 : lw_okq (⟨"UnikernelHttp$Connection", "moveOn", "(II)V"⟩, 17) := ⟨⟨by decide +kernel, by decide +kernel⟩, List.mem_of_getElem? (i := 222) (by decide +kernel), List.mem_of_getElem? (i := 867) (by decide +kernel), List.mem_of_getElem? (i := 868) (by decide +kernel)⟩
theorem lw_p47 : lw_okq (⟨"UnikernelHttp$Outbox", "flying", "()I"⟩, 5) := ⟨⟨by decide +kernel, by decide +kernel⟩, List.mem_of_getElem? (i := 263) (by decide +kernel), List.mem_of_getElem? (i := 871) (by decide +kernel), List.mem_of_getElem? (i := 872) (by decide +kernel)⟩
def lw_privs_3 : List (MethodName × Nat) := [(⟨"UnikernelHttp$Connection", "startTimer", "(I)V"⟩, 17), (⟨"UnikernelHttp$Tcp", "sendSyn", "(LUnikernelHttp$Connection;)V"⟩, 5), (⟨"UnikernelHttp$Inbox", "window", "()I"⟩, 7), (⟨"UnikernelHttp$Tcp", "accepts", "(LUnikernelHttp$Connection;LUnikernelHttp$Segment;)Z"⟩, 5), (⟨"UnikernelHttp$Inbox", "fits", "(LUnikernelHttp$Segment;)Z"⟩, 7), (⟨"UnikernelHttp$Inbox", "isInWindow", "(I)Z"⟩, 7), (⟨"UnikernelHttp$Tcp", "sendAck", "(LUnikernelHttp$Connection;)V"⟩, 5), (⟨"UnikernelHttp$Tcp", "sendBytes", "(LUnikernelHttp$Connection;III)V"⟩, 5), (⟨"UnikernelHttp$Tcp", "remove", "(LUnikernelHttp$Connection;)V"⟩, 5), (⟨"UnikernelHttp$Connection", "open", "(LUnikernelHttp$Segment;)V"⟩, 17), (⟨"UnikernelHttp$Outbox", "acknowledge", "(I)V"⟩, 5), (⟨"UnikernelHttp$Connection", "endTimer", "()V"⟩, 17), (⟨"UnikernelHttp$Tcp", "takes", "(LUnikernelHttp$Connection;LUnikernelHttp$Segment;I)Z"⟩, 5), (⟨"UnikernelHttp$Connection", "wantsAgain", "(LUnikernelHttp$Segment;I)Z"⟩, 17), (⟨"UnikernelHttp$Connection", "moveOn", "(II)V"⟩, 17), (⟨"UnikernelHttp$Outbox", "flying", "()I"⟩, 5)]
theorem lw_r3 : ∀ q ∈ lw_privs_3, lw_okq q := List.forall_mem_cons.mpr ⟨lw_p32, List.forall_mem_cons.mpr ⟨lw_p33, List.forall_mem_cons.mpr ⟨lw_p34, List.forall_mem_cons.mpr ⟨lw_p35, List.forall_mem_cons.mpr ⟨lw_p36, List.forall_mem_cons.mpr ⟨lw_p37, List.forall_mem_cons.mpr ⟨lw_p38, List.forall_mem_cons.mpr ⟨lw_p39, List.forall_mem_cons.mpr ⟨lw_p40, List.forall_mem_cons.mpr ⟨lw_p41, List.forall_mem_cons.mpr ⟨lw_p42, List.forall_mem_cons.mpr ⟨lw_p43, List.forall_mem_cons.mpr ⟨lw_p44, List.forall_mem_cons.mpr ⟨lw_p45, List.forall_mem_cons.mpr ⟨lw_p46, List.forall_mem_cons.mpr ⟨lw_p47, fun _ h => absurd h List.not_mem_nil⟩⟩⟩⟩⟩⟩⟩⟩⟩⟩⟩⟩⟩⟩⟩⟩
theorem lw_p48 : lw_okq (⟨"UnikernelHttp$Connection", "lowerLimit", "()V"⟩, 17) := ⟨⟨by decide +kernel, by decide +kernel⟩, List.mem_of_getElem? (i := 222) (by decide +kernel), List.mem_of_getElem? (i := 876) (by decide +kernel), List.mem_of_getElem? (i := 877) (by decide +kernel)⟩
theorem lw_p49 : lw_okq (⟨"UnikernelHttp$Tcp", "sendAgain", "(LUnikernelHttp$Connection;)V"⟩, 5) := ⟨⟨by decide +kernel, by decide +kernel⟩, List.mem_of_getElem? (i := 215) (by decide +kernel), List.mem_of_getElem? (i := 880) (by decide +kernel), List.mem_of_getElem? (i := 881) (by decide +kernel)⟩
theorem lw_p50 : lw_okq (⟨"UnikernelHttp$Outbox", "sentBytes", "()I"⟩, 5) := ⟨⟨by decide +kernel, by decide +kernel⟩, List.mem_of_getElem? (i := 263) (by decide +kernel), List.mem_of_getElem? (i := 884) (by decide +kernel), List.mem_of_getElem? (i := 885) (by decide +kernel)⟩
theorem lw_p51 : lw_okq (⟨"UnikernelHttp$Connection", "isWindowNews", "(LUnikernelHttp$Segment;)Z"⟩, 17) := ⟨⟨by decide +kernel, by decide +kernel⟩, List.mem_of_getElem? (i := 222) (by decide +kernel), List.mem_of_getElem? (i := 890) (by decide +kernel), List.mem_of_getElem? (i := 891) (by decide +kernel)⟩
theorem lw_p52 : lw_okq (⟨"UnikernelHttp$Outbox", "isFinAcknowledged", "()Z"⟩, 5) := ⟨⟨by decide +kernel, by decide +kernel⟩, List.mem_of_getElem? (i := 263) (by decide +kernel), List.mem_of_getElem? (i := 895) (by decide +kernel), List.mem_of_getElem? (i := 896) (by decide +kernel)⟩
theorem lw_p53 : lw_okq (⟨"UnikernelHttp$Connection", "leave", "(I)V"⟩, 17) := ⟨⟨by decide +kernel, by decide +kernel⟩, List.mem_of_getElem? (i := 222) (by decide +kernel), List.mem_of_getElem? (i := 899) (by decide +kernel), List.mem_of_getElem? (i := 900) (by decide +kernel)⟩
theorem lw_p54 : lw_okq (⟨"UnikernelHttp$Inbox", "keep", "(LUnikernelHttp$Segment;)V"⟩, 7) := ⟨⟨by decide +kernel, by decide +kernel⟩, List.mem_of_getElem? (i := 228) (by decide +kernel), List.mem_of_getElem? (i := 904) (by decide +kernel), List.mem_of_getElem? (i := 905) (by decide +kernel)⟩
theorem lw_p55 : lw_okq (⟨"UnikernelHttp$Inbox", "advance", "()V"⟩, 7) := ⟨⟨by decide +kernel, by decide +kernel⟩, List.mem_of_getElem? (i := 228) (by decide +kernel), List.mem_of_getElem? (i := 910) (by decide +kernel), List.mem_of_getElem? (i := 911) (by decide +kernel)⟩
theorem lw_p56 : lw_okq (⟨"UnikernelHttp$Http", "serve", "(LUnikernelHttp$Connection;)V"⟩, 5) := ⟨⟨by decide +kernel, by decide +kernel⟩, List.mem_of_getElem? (i := 422) (by decide +kernel), List.mem_of_getElem? (i := 914) (by decide +kernel), List.mem_of_getElem? (i := 915) (by decide +kernel)⟩
theorem lw_p57 : lw_okq (⟨"UnikernelHttp$Http", "answers", "(LUnikernelHttp$Connection;I)Z"⟩, 5) := ⟨⟨by decide +kernel, by decide +kernel⟩, List.mem_of_getElem? (i := 422) (by decide +kernel), List.mem_of_getElem? (i := 924) (by decide +kernel), List.mem_of_getElem? (i := 925) (by decide +kernel)⟩
theorem lw_p58 : lw_okq (⟨"UnikernelHttp$Http", "judge", "([BI)I"⟩, 5) := ⟨⟨by decide +kernel, by decide +kernel⟩, List.mem_of_getElem? (i := 422) (by decide +kernel), List.mem_of_getElem? (i := 928) (by decide +kernel), List.mem_of_getElem? (i := 929) (by decide +kernel)⟩
theorem lw_p59 : lw_okq (⟨"UnikernelHttp$Store", "find", "([BII)I"⟩, 6) := ⟨⟨by decide +kernel, by decide +kernel⟩, List.mem_of_getElem? (i := 389) (by decide +kernel), List.mem_of_getElem? (i := 1010) (by decide +kernel), List.mem_of_getElem? (i := 1011) (by decide +kernel)⟩
theorem lw_p60 : lw_okq (⟨"UnikernelHttp$Store", "isSound", "(I)Z"⟩, 6) := ⟨⟨by decide +kernel, by decide +kernel⟩, List.mem_of_getElem? (i := 389) (by decide +kernel), List.mem_of_getElem? (i := 1018) (by decide +kernel), List.mem_of_getElem? (i := 1019) (by decide +kernel)⟩
theorem lw_p61 : lw_okq (⟨"UnikernelHttp$Store", "sumNow", "(I)I"⟩, 6) := ⟨⟨by decide +kernel, by decide +kernel⟩, List.mem_of_getElem? (i := 389) (by decide +kernel), List.mem_of_getElem? (i := 1022) (by decide +kernel), List.mem_of_getElem? (i := 1023) (by decide +kernel)⟩
theorem lw_p62 : lw_okq (⟨"UnikernelHttp$Http", "writeAnswer", "(I)V"⟩, 5) := ⟨⟨by decide +kernel, by decide +kernel⟩, List.mem_of_getElem? (i := 422) (by decide +kernel), List.mem_of_getElem? (i := 1028) (by decide +kernel), List.mem_of_getElem? (i := 1029) (by decide +kernel)⟩
theorem lw_p63 : lw_okq (⟨"UnikernelHttp$Http", "addText", "(Ljava/lang/String;)V"⟩, 5) := ⟨⟨by decide +kernel, by decide +kernel⟩, List.mem_of_getElem? (i := 422) (by decide +kernel), List.mem_of_getElem? (i := 1041) (by decide +kernel), List.mem_of_getElem? (i := 1042) (by decide +kernel)⟩
def lw_privs_4 : List (MethodName × Nat) := [(⟨"UnikernelHttp$Connection", "lowerLimit", "()V"⟩, 17), (⟨"UnikernelHttp$Tcp", "sendAgain", "(LUnikernelHttp$Connection;)V"⟩, 5), (⟨"UnikernelHttp$Outbox", "sentBytes", "()I"⟩, 5), (⟨"UnikernelHttp$Connection", "isWindowNews", "(LUnikernelHttp$Segment;)Z"⟩, 17), (⟨"UnikernelHttp$Outbox", "isFinAcknowledged", "()Z"⟩, 5), (⟨"UnikernelHttp$Connection", "leave", "(I)V"⟩, 17), (⟨"UnikernelHttp$Inbox", "keep", "(LUnikernelHttp$Segment;)V"⟩, 7), (⟨"UnikernelHttp$Inbox", "advance", "()V"⟩, 7), (⟨"UnikernelHttp$Http", "serve", "(LUnikernelHttp$Connection;)V"⟩, 5), (⟨"UnikernelHttp$Http", "answers", "(LUnikernelHttp$Connection;I)Z"⟩, 5), (⟨"UnikernelHttp$Http", "judge", "([BI)I"⟩, 5), (⟨"UnikernelHttp$Store", "find", "([BII)I"⟩, 6), (⟨"UnikernelHttp$Store", "isSound", "(I)Z"⟩, 6), (⟨"UnikernelHttp$Store", "sumNow", "(I)I"⟩, 6), (⟨"UnikernelHttp$Http", "writeAnswer", "(I)V"⟩, 5), (⟨"UnikernelHttp$Http", "addText", "(Ljava/lang/String;)V"⟩, 5)]
theorem lw_r4 : ∀ q ∈ lw_privs_4, lw_okq q := List.forall_mem_cons.mpr ⟨lw_p48, List.forall_mem_cons.mpr ⟨lw_p49, List.forall_mem_cons.mpr ⟨lw_p50, List.forall_mem_cons.mpr ⟨lw_p51, List.forall_mem_cons.mpr ⟨lw_p52, List.forall_mem_cons.mpr ⟨lw_p53, List.forall_mem_cons.mpr ⟨lw_p54, List.forall_mem_cons.mpr ⟨lw_p55, List.forall_mem_cons.mpr ⟨lw_p56, List.forall_mem_cons.mpr ⟨lw_p57, List.forall_mem_cons.mpr ⟨lw_p58, List.forall_mem_cons.mpr ⟨lw_p59, List.forall_mem_cons.mpr ⟨lw_p60, List.forall_mem_cons.mpr ⟨lw_p61, List.forall_mem_cons.mpr ⟨lw_p62, List.forall_mem_cons.mpr ⟨lw_p63, fun _ h => absurd h List.not_mem_nil⟩⟩⟩⟩⟩⟩⟩⟩⟩⟩⟩⟩⟩⟩⟩⟩
theorem lw_p64 : lw_okq (⟨"UnikernelHttp$Http", "addByte", "(I)V"⟩, 5) := ⟨⟨by decide +kernel, by decide +kernel⟩, List.mem_of_getElem? (i := 422) (by decide +kernel), List.mem_of_getElem? (i := 1045) (by decide +kernel), List.mem_of_getElem? (i := 1046) (by decide +kernel)⟩
theorem lw_p65 : lw_okq (⟨"UnikernelHttp$Http", "addNumber", "(I)V"⟩, 5) := ⟨⟨by decide +kernel, by decide +kernel⟩, List.mem_of_getElem? (i := 422) (by decide +kernel), List.mem_of_getElem? (i := 1050) (by decide +kernel), List.mem_of_getElem? (i := 1051) (by decide +kernel)⟩
theorem lw_p66 : lw_okq (⟨"UnikernelHttp$Outbox", "takes", "([BI)Z"⟩, 5) := ⟨⟨by decide +kernel, by decide +kernel⟩, List.mem_of_getElem? (i := 263) (by decide +kernel), List.mem_of_getElem? (i := 1057) (by decide +kernel), List.mem_of_getElem? (i := 1058) (by decide +kernel)⟩
theorem lw_p67 : lw_okq (⟨"UnikernelHttp$Inbox", "drop", "(I)V"⟩, 7) := ⟨⟨by decide +kernel, by decide +kernel⟩, List.mem_of_getElem? (i := 228) (by decide +kernel), List.mem_of_getElem? (i := 1061) (by decide +kernel), List.mem_of_getElem? (i := 1062) (by decide +kernel)⟩
theorem lw_p68 : lw_okq (⟨"UnikernelHttp$Tcp", "sendWhatMay", "(LUnikernelHttp$Connection;ZI)V"⟩, 5) := ⟨⟨by decide +kernel, by decide +kernel⟩, List.mem_of_getElem? (i := 215) (by decide +kernel), List.mem_of_getElem? (i := 1318) (by decide +kernel), List.mem_of_getElem? (i := 1319) (by decide +kernel)⟩
theorem lw_p69 : lw_okq (⟨"UnikernelHttp$Outbox", "unsentBytes", "()I"⟩, 5) := ⟨⟨by decide +kernel, by decide +kernel⟩, List.mem_of_getElem? (i := 263) (by decide +kernel), List.mem_of_getElem? (i := 1323) (by decide +kernel), List.mem_of_getElem? (i := 1324) (by decide +kernel)⟩
theorem lw_p70 : lw_okq (⟨"UnikernelHttp$Tcp", "sendNew", "(LUnikernelHttp$Connection;II)V"⟩, 5) := ⟨⟨by decide +kernel, by decide +kernel⟩, List.mem_of_getElem? (i := 215) (by decide +kernel), List.mem_of_getElem? (i := 1328) (by decide +kernel), List.mem_of_getElem? (i := 1329) (by decide +kernel)⟩
theorem lw_p71 : lw_okq (⟨"UnikernelHttp$Connection", "mindTimer", "(I)V"⟩, 17) := ⟨⟨by decide +kernel, by decide +kernel⟩, List.mem_of_getElem? (i := 222) (by decide +kernel), List.mem_of_getElem? (i := 1333) (by decide +kernel), List.mem_of_getElem? (i := 1334) (by decide +kernel)⟩
theorem lw_p72 : lw_okq (⟨"UnikernelHttp$Connection", "isShut", "()Z"⟩, 17) := ⟨⟨by decide +kernel, by decide +kernel⟩, List.mem_of_getElem? (i := 222) (by decide +kernel), List.mem_of_getElem? (i := 1337) (by decide +kernel), List.mem_of_getElem? (i := 1338) (by decide +kernel)⟩
theorem lw_p73 : lw_okq (⟨"UnikernelHttp$Store", "put", "([BII)V"⟩, 6) := ⟨⟨by decide +kernel, by decide +kernel⟩, List.mem_of_getElem? (i := 389) (by decide +kernel), List.mem_of_getElem? (i := 1351) (by decide +kernel), List.mem_of_getElem? (i := 1352) (by decide +kernel)⟩
theorem lw_p74 : lw_okq (⟨"UnikernelHttp$Gatherings", "due", "()I"⟩, 2) := ⟨⟨by decide +kernel, by decide +kernel⟩, List.mem_of_getElem? (i := 96) (by decide +kernel), List.mem_of_getElem? (i := 1389) (by decide +kernel), List.mem_of_getElem? (i := 1390) (by decide +kernel)⟩
theorem lw_p75 : lw_okq (⟨"UnikernelHttp$Tcp", "firstDue", "()LUnikernelHttp$Connection;"⟩, 5) := ⟨⟨by decide +kernel, by decide +kernel⟩, List.mem_of_getElem? (i := 215) (by decide +kernel), List.mem_of_getElem? (i := 1394) (by decide +kernel), List.mem_of_getElem? (i := 1395) (by decide +kernel)⟩
theorem lw_p76 : lw_okq (⟨"UnikernelHttp$Connection", "due", "()I"⟩, 17) := ⟨⟨by decide +kernel, by decide +kernel⟩, List.mem_of_getElem? (i := 222) (by decide +kernel), List.mem_of_getElem? (i := 1398) (by decide +kernel), List.mem_of_getElem? (i := 1399) (by decide +kernel)⟩
theorem lw_p77 : lw_okq (⟨"UnikernelHttp$Tcp", "fire", "(LUnikernelHttp$Connection;I)V"⟩, 5) := ⟨⟨by decide +kernel, by decide +kernel⟩, List.mem_of_getElem? (i := 215) (by decide +kernel), List.mem_of_getElem? (i := 1406) (by decide +kernel), List.mem_of_getElem? (i := 1407) (by decide +kernel)⟩
theorem lw_p78 : lw_okq (⟨"UnikernelHttp$Tcp", "sendProbe", "(LUnikernelHttp$Connection;)V"⟩, 5) := ⟨⟨by decide +kernel, by decide +kernel⟩, List.mem_of_getElem? (i := 215) (by decide +kernel), List.mem_of_getElem? (i := 1411) (by decide +kernel), List.mem_of_getElem? (i := 1412) (by decide +kernel)⟩
theorem lw_p79 : lw_okq (⟨"UnikernelHttp$Tcp", "giveUp", "(LUnikernelHttp$Connection;)V"⟩, 5) := ⟨⟨by decide +kernel, by decide +kernel⟩, List.mem_of_getElem? (i := 215) (by decide +kernel), List.mem_of_getElem? (i := 1415) (by decide +kernel), List.mem_of_getElem? (i := 1416) (by decide +kernel)⟩
def lw_privs_5 : List (MethodName × Nat) := [(⟨"UnikernelHttp$Http", "addByte", "(I)V"⟩, 5), (⟨"UnikernelHttp$Http", "addNumber", "(I)V"⟩, 5), (⟨"UnikernelHttp$Outbox", "takes", "([BI)Z"⟩, 5), (⟨"UnikernelHttp$Inbox", "drop", "(I)V"⟩, 7), (⟨"UnikernelHttp$Tcp", "sendWhatMay", "(LUnikernelHttp$Connection;ZI)V"⟩, 5), (⟨"UnikernelHttp$Outbox", "unsentBytes", "()I"⟩, 5), (⟨"UnikernelHttp$Tcp", "sendNew", "(LUnikernelHttp$Connection;II)V"⟩, 5), (⟨"UnikernelHttp$Connection", "mindTimer", "(I)V"⟩, 17), (⟨"UnikernelHttp$Connection", "isShut", "()Z"⟩, 17), (⟨"UnikernelHttp$Store", "put", "([BII)V"⟩, 6), (⟨"UnikernelHttp$Gatherings", "due", "()I"⟩, 2), (⟨"UnikernelHttp$Tcp", "firstDue", "()LUnikernelHttp$Connection;"⟩, 5), (⟨"UnikernelHttp$Connection", "due", "()I"⟩, 17), (⟨"UnikernelHttp$Tcp", "fire", "(LUnikernelHttp$Connection;I)V"⟩, 5), (⟨"UnikernelHttp$Tcp", "sendProbe", "(LUnikernelHttp$Connection;)V"⟩, 5), (⟨"UnikernelHttp$Tcp", "giveUp", "(LUnikernelHttp$Connection;)V"⟩, 5)]
theorem lw_r5 : ∀ q ∈ lw_privs_5, lw_okq q := List.forall_mem_cons.mpr ⟨lw_p64, List.forall_mem_cons.mpr ⟨lw_p65, List.forall_mem_cons.mpr ⟨lw_p66, List.forall_mem_cons.mpr ⟨lw_p67, List.forall_mem_cons.mpr ⟨lw_p68, List.forall_mem_cons.mpr ⟨lw_p69, List.forall_mem_cons.mpr ⟨lw_p70, List.forall_mem_cons.mpr ⟨lw_p71, List.forall_mem_cons.mpr ⟨lw_p72, List.forall_mem_cons.mpr ⟨lw_p73, List.forall_mem_cons.mpr ⟨lw_p74, List.forall_mem_cons.mpr ⟨lw_p75, List.forall_mem_cons.mpr ⟨lw_p76, List.forall_mem_cons.mpr ⟨lw_p77, List.forall_mem_cons.mpr ⟨lw_p78, List.forall_mem_cons.mpr ⟨lw_p79, fun _ h => absurd h List.not_mem_nil⟩⟩⟩⟩⟩⟩⟩⟩⟩⟩⟩⟩⟩⟩⟩⟩
theorem lw_p80 : lw_okq (⟨"UnikernelHttp$Connection", "doubleTimeout", "()V"⟩, 17) := ⟨⟨by decide +kernel, by decide +kernel⟩, List.mem_of_getElem? (i := 222) (by decide +kernel), List.mem_of_getElem? (i := 1420) (by decide +kernel), List.mem_of_getElem? (i := 1421) (by decide +kernel)⟩
theorem lw_p81 : lw_okq (⟨"UnikernelHttp$Wire", "keeps", "(I)Z"⟩, 5) := ⟨⟨by decide +kernel, by decide +kernel⟩, List.mem_of_getElem? (i := 70) (by decide +kernel), List.mem_of_getElem? (i := 1432) (by decide +kernel), List.mem_of_getElem? (i := 1433) (by decide +kernel)⟩
theorem lw_p82 : lw_okq (⟨"UnikernelHttp$Wire", "eightBytes", "(II)J"⟩, 5) := ⟨⟨by decide +kernel, by decide +kernel⟩, List.mem_of_getElem? (i := 70) (by decide +kernel), List.mem_of_getElem? (i := 1444) (by decide +kernel), List.mem_of_getElem? (i := 1445) (by decide +kernel)⟩
theorem lw_p83 : lw_okq (⟨"UnikernelHttpModel", "four4", "(I)V"⟩, 39) := ⟨⟨by decide +kernel, by decide +kernel⟩, List.mem_of_getElem? (i := 1479) (by decide +kernel), List.mem_of_getElem? (i := 1720) (by decide +kernel), List.mem_of_getElem? (i := 1721) (by decide +kernel)⟩
theorem lw_p84 : lw_okq (⟨"UnikernelHttpModel", "comes", "()V"⟩, 39) := ⟨⟨by decide +kernel, by decide +kernel⟩, List.mem_of_getElem? (i := 1479) (by decide +kernel), List.mem_of_getElem? (i := 1732) (by decide +kernel), List.mem_of_getElem? (i := 1733) (by decide +kernel)⟩
theorem lw_p85 : lw_okq (⟨"UnikernelHttpModel", "six", "(I)J"⟩, 39) := ⟨⟨by decide +kernel, by decide +kernel⟩, List.mem_of_getElem? (i := 1479) (by decide +kernel), List.mem_of_getElem? (i := 1737) (by decide +kernel), List.mem_of_getElem? (i := 1738) (by decide +kernel)⟩
theorem lw_p86 : lw_okq (⟨"UnikernelHttpModel", "two", "(I)I"⟩, 39) := ⟨⟨by decide +kernel, by decide +kernel⟩, List.mem_of_getElem? (i := 1479) (by decide +kernel), List.mem_of_getElem? (i := 1741) (by decide +kernel), List.mem_of_getElem? (i := 1742) (by decide +kernel)⟩
theorem lw_p87 : lw_okq (⟨"UnikernelHttpModel", "four", "(I)I"⟩, 39) := ⟨⟨by decide +kernel, by decide +kernel⟩, List.mem_of_getElem? (i := 1479) (by decide +kernel), List.mem_of_getElem? (i := 1745) (by decide +kernel), List.mem_of_getElem? (i := 1746) (by decide +kernel)⟩
theorem lw_p88 : lw_okq (⟨"UnikernelHttpModel", "resolves", "()V"⟩, 39) := ⟨⟨by decide +kernel, by decide +kernel⟩, List.mem_of_getElem? (i := 1479) (by decide +kernel), List.mem_of_getElem? (i := 1752) (by decide +kernel), List.mem_of_getElem? (i := 1753) (by decide +kernel)⟩
theorem lw_p89 : lw_okq (⟨"UnikernelHttpModel", "hears", "(IJ)V"⟩, 39) := ⟨⟨by decide +kernel, by decide +kernel⟩, List.mem_of_getElem? (i := 1479) (by decide +kernel), List.mem_of_getElem? (i := 1757) (by decide +kernel), List.mem_of_getElem? (i := 1758) (by decide +kernel)⟩
theorem lw_p90 : lw_okq (⟨"UnikernelHttpModel", "neighbour", "(I)I"⟩, 39) := ⟨⟨by decide +kernel, by decide +kernel⟩, List.mem_of_getElem? (i := 1479) (by decide +kernel), List.mem_of_getElem? (i := 1761) (by decide +kernel), List.mem_of_getElem? (i := 1762) (by decide +kernel)⟩
theorem lw_p91 : lw_okq (⟨"UnikernelHttpModel", "putSix", "(J)V"⟩, 39) := ⟨⟨by decide +kernel, by decide +kernel⟩, List.mem_of_getElem? (i := 1479) (by decide +kernel), List.mem_of_getElem? (i := 1765) (by decide +kernel), List.mem_of_getElem? (i := 1766) (by decide +kernel)⟩
theorem lw_p92 : lw_okq (⟨"UnikernelHttpModel", "put", "(II)V"⟩, 39) := ⟨⟨by decide +kernel, by decide +kernel⟩, List.mem_of_getElem? (i := 1479) (by decide +kernel), List.mem_of_getElem? (i := 1769) (by decide +kernel), List.mem_of_getElem? (i := 1770) (by decide +kernel)⟩
theorem lw_p93 : lw_okq (⟨"UnikernelHttpModel", "frame", "()V"⟩, 39) := ⟨⟨by decide +kernel, by decide +kernel⟩, List.mem_of_getElem? (i := 1479) (by decide +kernel), List.mem_of_getElem? (i := 1773) (by decide +kernel), List.mem_of_getElem? (i := 1774) (by decide +kernel)⟩
theorem lw_p94 : lw_okq (⟨"UnikernelHttpModel", "internet", "()V"⟩, 39) := ⟨⟨by decide +kernel, by decide +kernel⟩, List.mem_of_getElem? (i := 1479) (by decide +kernel), List.mem_of_getElem? (i := 1777) (by decide +kernel), List.mem_of_getElem? (i := 1778) (by decide +kernel)⟩
theorem lw_p95 : lw_okq (⟨"UnikernelHttpModel", "datagram", "(IIII)V"⟩, 39) := ⟨⟨by decide +kernel, by decide +kernel⟩, List.mem_of_getElem? (i := 1479) (by decide +kernel), List.mem_of_getElem? (i := 1785) (by decide +kernel), List.mem_of_getElem? (i := 1786) (by decide +kernel)⟩
def lw_privs_6 : List (MethodName × Nat) := [(⟨"UnikernelHttp$Connection", "doubleTimeout", "()V"⟩, 17), (⟨"UnikernelHttp$Wire", "keeps", "(I)Z"⟩, 5), (⟨"UnikernelHttp$Wire", "eightBytes", "(II)J"⟩, 5), (⟨"UnikernelHttpModel", "four4", "(I)V"⟩, 39), (⟨"UnikernelHttpModel", "comes", "()V"⟩, 39), (⟨"UnikernelHttpModel", "six", "(I)J"⟩, 39), (⟨"UnikernelHttpModel", "two", "(I)I"⟩, 39), (⟨"UnikernelHttpModel", "four", "(I)I"⟩, 39), (⟨"UnikernelHttpModel", "resolves", "()V"⟩, 39), (⟨"UnikernelHttpModel", "hears", "(IJ)V"⟩, 39), (⟨"UnikernelHttpModel", "neighbour", "(I)I"⟩, 39), (⟨"UnikernelHttpModel", "putSix", "(J)V"⟩, 39), (⟨"UnikernelHttpModel", "put", "(II)V"⟩, 39), (⟨"UnikernelHttpModel", "frame", "()V"⟩, 39), (⟨"UnikernelHttpModel", "internet", "()V"⟩, 39), (⟨"UnikernelHttpModel", "datagram", "(IIII)V"⟩, 39)]
theorem lw_r6 : ∀ q ∈ lw_privs_6, lw_okq q := List.forall_mem_cons.mpr ⟨lw_p80, List.forall_mem_cons.mpr ⟨lw_p81, List.forall_mem_cons.mpr ⟨lw_p82, List.forall_mem_cons.mpr ⟨lw_p83, List.forall_mem_cons.mpr ⟨lw_p84, List.forall_mem_cons.mpr ⟨lw_p85, List.forall_mem_cons.mpr ⟨lw_p86, List.forall_mem_cons.mpr ⟨lw_p87, List.forall_mem_cons.mpr ⟨lw_p88, List.forall_mem_cons.mpr ⟨lw_p89, List.forall_mem_cons.mpr ⟨lw_p90, List.forall_mem_cons.mpr ⟨lw_p91, List.forall_mem_cons.mpr ⟨lw_p92, List.forall_mem_cons.mpr ⟨lw_p93, List.forall_mem_cons.mpr ⟨lw_p94, List.forall_mem_cons.mpr ⟨lw_p95, fun _ h => absurd h List.not_mem_nil⟩⟩⟩⟩⟩⟩⟩⟩⟩⟩⟩⟩⟩⟩⟩⟩
theorem lw_p96 : lw_okq (⟨"UnikernelHttpModel", "echo", "(III)V"⟩, 39) := ⟨⟨by decide +kernel, by decide +kernel⟩, List.mem_of_getElem? (i := 1479) (by decide +kernel), List.mem_of_getElem? (i := 1789) (by decide +kernel), List.mem_of_getElem? (i := 1790) (by decide +kernel)⟩
theorem lw_p97 : lw_okq (⟨"UnikernelHttpModel", "packet", "(III)V"⟩, 39) := ⟨⟨by decide +kernel, by decide +kernel⟩, List.mem_of_getElem? (i := 1479) (by decide +kernel), List.mem_of_getElem? (i := 1793) (by decide +kernel), List.mem_of_getElem? (i := 1794) (by decide +kernel)⟩
theorem lw_p98 : lw_okq (⟨"UnikernelHttpModel", "gone", "(I)Z"⟩, 39) := ⟨⟨by decide +kernel, by decide +kernel⟩, List.mem_of_getElem? (i := 1479) (by decide +kernel), List.mem_of_getElem? (i := 1800) (by decide +kernel), List.mem_of_getElem? (i := 1801) (by decide +kernel)⟩
theorem lw_p99 : lw_okq (⟨"UnikernelHttpModel", "tcp", "(III)V"⟩, 39) := ⟨⟨by decide +kernel, by decide +kernel⟩, List.mem_of_getElem? (i := 1479) (by decide +kernel), List.mem_of_getElem? (i := 1804) (by decide +kernel), List.mem_of_getElem? (i := 1805) (by decide +kernel)⟩
theorem lw_p100 : lw_okq (⟨"UnikernelHttpModel", "find", "(II)I"⟩, 39) := ⟨⟨by decide +kernel, by decide +kernel⟩, List.mem_of_getElem? (i := 1479) (by decide +kernel), List.mem_of_getElem? (i := 1811) (by decide +kernel), List.mem_of_getElem? (i := 1812) (by decide +kernel)⟩
theorem lw_p101 : lw_okq (⟨"UnikernelHttpModel", "with", "(LUnikernelHttpModel$Peer;IIIIIII)V"⟩, 39) := ⟨⟨by decide +kernel, by decide +kernel⟩, List.mem_of_getElem? (i := 1479) (by decide +kernel), List.mem_of_getElem? (i := 1815) (by decide +kernel), List.mem_of_getElem? (i := 1816) (by decide +kernel)⟩
theorem lw_p102 : lw_okq (⟨"UnikernelHttpModel", "windowOf", "(LUnikernelHttpModel$Peer;)I"⟩, 39) := ⟨⟨by decide +kernel, by decide +kernel⟩, List.mem_of_getElem? (i := 1479) (by decide +kernel), List.mem_of_getElem? (i := 1819) (by decide +kernel), List.mem_of_getElem? (i := 1820) (by decide +kernel)⟩
theorem lw_p103 : lw_okq (⟨"UnikernelHttpModel", "tells", "(LUnikernelHttpModel$Peer;IIII)V"⟩, 39) := ⟨⟨by decide +kernel, by decide +kernel⟩, List.mem_of_getElem? (i := 1479) (by decide +kernel), List.mem_of_getElem? (i := 1823) (by decide +kernel), List.mem_of_getElem? (i := 1824) (by decide +kernel)⟩
theorem lw_p104 : lw_okq (⟨"UnikernelHttpModel", "segment", "(IIIIIII[BII)V"⟩, 39) := ⟨⟨by decide +kernel, by decide +kernel⟩, List.mem_of_getElem? (i := 1479) (by decide +kernel), List.mem_of_getElem? (i := 1827) (by decide +kernel), List.mem_of_getElem? (i := 1828) (by decide +kernel)⟩
theorem lw_p105 : lw_okq (⟨"UnikernelHttpModel", "leaves", "(LUnikernelHttpModel$Peer;)V"⟩, 39) := ⟨⟨by decide +kernel, by decide +kernel⟩, List.mem_of_getElem? (i := 1479) (by decide +kernel), List.mem_of_getElem? (i := 1831) (by decide +kernel), List.mem_of_getElem? (i := 1832) (by decide +kernel)⟩
theorem lw_p106 : lw_okq (⟨"UnikernelHttpModel", "acknowledged", "(LUnikernelHttpModel$Peer;I)V"⟩, 39) := ⟨⟨by decide +kernel, by decide +kernel⟩, List.mem_of_getElem? (i := 1479) (by decide +kernel), List.mem_of_getElem? (i := 1835) (by decide +kernel), List.mem_of_getElem? (i := 1836) (by decide +kernel)⟩
theorem lw_p107 : lw_okq (⟨"UnikernelHttpModel", "doubled", "(LUnikernelHttpModel$Peer;)V"⟩, 39) := ⟨⟨by decide +kernel, by decide +kernel⟩, List.mem_of_getElem? (i := 1479) (by decide +kernel), List.mem_of_getElem? (i := 1841) (by decide +kernel), List.mem_of_getElem? (i := 1842) (by decide +kernel)⟩
theorem lw_p108 : lw_okq (⟨"UnikernelHttpModel", "half", "(LUnikernelHttpModel$Peer;)I"⟩, 39) := ⟨⟨by decide +kernel, by decide +kernel⟩, List.mem_of_getElem? (i := 1479) (by decide +kernel), List.mem_of_getElem? (i := 1845) (by decide +kernel), List.mem_of_getElem? (i := 1846) (by decide +kernel)⟩
theorem lw_p109 : lw_okq (⟨"UnikernelHttpModel", "again", "(LUnikernelHttpModel$Peer;)V"⟩, 39) := ⟨⟨by decide +kernel, by decide +kernel⟩, List.mem_of_getElem? (i := 1479) (by decide +kernel), List.mem_of_getElem? (i := 1849) (by decide +kernel), List.mem_of_getElem? (i := 1850) (by decide +kernel)⟩
theorem lw_p110 : lw_okq (⟨"UnikernelHttpModel", "keeps", "(LUnikernelHttpModel$Peer;IIIZ)V"⟩, 39) := ⟨⟨by decide +kernel, by decide +kernel⟩, List.mem_of_getElem? (i := 1479) (by decide +kernel), List.mem_of_getElem? (i := 1854) (by decide +kernel), List.mem_of_getElem? (i := 1855) (by decide +kernel)⟩
theorem lw_p111 : lw_okq (⟨"UnikernelHttpModel", "pages", "(LUnikernelHttpModel$Peer;)V"⟩, 39) := ⟨⟨by decide +kernel, by decide +kernel⟩, List.mem_of_getElem? (i := 1479) (by decide +kernel), List.mem_of_getElem? (i := 1858) (by decide +kernel), List.mem_of_getElem? (i := 1859) (by decide +kernel)⟩
def lw_privs_7 : List (MethodName × Nat) := [(⟨"UnikernelHttpModel", "echo", "(III)V"⟩, 39), (⟨"UnikernelHttpModel", "packet", "(III)V"⟩, 39), (⟨"UnikernelHttpModel", "gone", "(I)Z"⟩, 39), (⟨"UnikernelHttpModel", "tcp", "(III)V"⟩, 39), (⟨"UnikernelHttpModel", "find", "(II)I"⟩, 39), (⟨"UnikernelHttpModel", "with", "(LUnikernelHttpModel$Peer;IIIIIII)V"⟩, 39), (⟨"UnikernelHttpModel", "windowOf", "(LUnikernelHttpModel$Peer;)I"⟩, 39), (⟨"UnikernelHttpModel", "tells", "(LUnikernelHttpModel$Peer;IIII)V"⟩, 39), (⟨"UnikernelHttpModel", "segment", "(IIIIIII[BII)V"⟩, 39), (⟨"UnikernelHttpModel", "leaves", "(LUnikernelHttpModel$Peer;)V"⟩, 39), (⟨"UnikernelHttpModel", "acknowledged", "(LUnikernelHttpModel$Peer;I)V"⟩, 39), (⟨"UnikernelHttpModel", "doubled", "(LUnikernelHttpModel$Peer;)V"⟩, 39), (⟨"UnikernelHttpModel", "half", "(LUnikernelHttpModel$Peer;)I"⟩, 39), (⟨"UnikernelHttpModel", "again", "(LUnikernelHttpModel$Peer;)V"⟩, 39), (⟨"UnikernelHttpModel", "keeps", "(LUnikernelHttpModel$Peer;IIIZ)V"⟩, 39), (⟨"UnikernelHttpModel", "pages", "(LUnikernelHttpModel$Peer;)V"⟩, 39)]
theorem lw_r7 : ∀ q ∈ lw_privs_7, lw_okq q := List.forall_mem_cons.mpr ⟨lw_p96, List.forall_mem_cons.mpr ⟨lw_p97, List.forall_mem_cons.mpr ⟨lw_p98, List.forall_mem_cons.mpr ⟨lw_p99, List.forall_mem_cons.mpr ⟨lw_p100, List.forall_mem_cons.mpr ⟨lw_p101, List.forall_mem_cons.mpr ⟨lw_p102, List.forall_mem_cons.mpr ⟨lw_p103, List.forall_mem_cons.mpr ⟨lw_p104, List.forall_mem_cons.mpr ⟨lw_p105, List.forall_mem_cons.mpr ⟨lw_p106, List.forall_mem_cons.mpr ⟨lw_p107, List.forall_mem_cons.mpr ⟨lw_p108, List.forall_mem_cons.mpr ⟨lw_p109, List.forall_mem_cons.mpr ⟨lw_p110, List.forall_mem_cons.mpr ⟨lw_p111, fun _ h => absurd h List.not_mem_nil⟩⟩⟩⟩⟩⟩⟩⟩⟩⟩⟩⟩⟩⟩⟩⟩
theorem lw_p112 : lw_okq (⟨"UnikernelHttpModel", "blank", "(LUnikernelHttpModel$Peer;)I"⟩, 39) := ⟨⟨by decide +kernel, by decide +kernel⟩, List.mem_of_getElem? (i := 1479) (by decide +kernel), List.mem_of_getElem? (i := 1862) (by decide +kernel), List.mem_of_getElem? (i := 1863) (by decide +kernel)⟩
theorem lw_p113 : lw_okq (⟨"UnikernelHttpModel", "answered", "(IIZ)V"⟩, 39) := ⟨⟨by decide +kernel, by decide +kernel⟩, List.mem_of_getElem? (i := 1479) (by decide +kernel), List.mem_of_getElem? (i := 1866) (by decide +kernel), List.mem_of_getElem? (i := 1867) (by decide +kernel)⟩
theorem lw_p114 : lw_okq (⟨"UnikernelHttpModel", "say", "(Ljava/lang/String;)V"⟩, 39) := ⟨⟨by decide +kernel, by decide +kernel⟩, List.mem_of_getElem? (i := 1479) (by decide +kernel), List.mem_of_getElem? (i := 1871) (by decide +kernel), List.mem_of_getElem? (i := 1872) (by decide +kernel)⟩
theorem lw_p115 : lw_okq (⟨"UnikernelHttpModel", "decimal", "(I)V"⟩, 39) := ⟨⟨by decide +kernel, by decide +kernel⟩, List.mem_of_getElem? (i := 1479) (by decide +kernel), List.mem_of_getElem? (i := 1877) (by decide +kernel), List.mem_of_getElem? (i := 1878) (by decide +kernel)⟩
theorem lw_p116 : lw_okq (⟨"UnikernelHttpModel", "asked", "(LUnikernelHttpModel$Peer;I)Z"⟩, 39) := ⟨⟨by decide +kernel, by decide +kernel⟩, List.mem_of_getElem? (i := 1479) (by decide +kernel), List.mem_of_getElem? (i := 1890) (by decide +kernel), List.mem_of_getElem? (i := 1891) (by decide +kernel)⟩
theorem lw_p117 : lw_okq (⟨"UnikernelHttpModel", "run", "([BIII)I"⟩, 39) := ⟨⟨by decide +kernel, by decide +kernel⟩, List.mem_of_getElem? (i := 1479) (by decide +kernel), List.mem_of_getElem? (i := 1894) (by decide +kernel), List.mem_of_getElem? (i := 1895) (by decide +kernel)⟩
theorem lw_p118 : lw_okq (⟨"UnikernelHttpModel", "is", "([BILjava/lang/String;)Z"⟩, 39) := ⟨⟨by decide +kernel, by decide +kernel⟩, List.mem_of_getElem? (i := 1479) (by decide +kernel), List.mem_of_getElem? (i := 1899) (by decide +kernel), List.mem_of_getElem? (i := 1900) (by decide +kernel)⟩
theorem lw_p119 : lw_okq (⟨"UnikernelHttpModel", "pageOf", "([BII)I"⟩, 39) := ⟨⟨by decide +kernel, by decide +kernel⟩, List.mem_of_getElem? (i := 1479) (by decide +kernel), List.mem_of_getElem? (i := 1913) (by decide +kernel), List.mem_of_getElem? (i := 1914) (by decide +kernel)⟩
theorem lw_p120 : lw_okq (⟨"UnikernelHttpModel", "isSent", "(LUnikernelHttpModel$Peer;)Z"⟩, 39) := ⟨⟨by decide +kernel, by decide +kernel⟩, List.mem_of_getElem? (i := 1479) (by decide +kernel), List.mem_of_getElem? (i := 1917) (by decide +kernel), List.mem_of_getElem? (i := 1918) (by decide +kernel)⟩
theorem lw_p121 : lw_okq (⟨"UnikernelHttpModel", "watches", "(LUnikernelHttpModel$Peer;)V"⟩, 39) := ⟨⟨by decide +kernel, by decide +kernel⟩, List.mem_of_getElem? (i := 1479) (by decide +kernel), List.mem_of_getElem? (i := 1921) (by decide +kernel), List.mem_of_getElem? (i := 1922) (by decide +kernel)⟩
theorem lw_p122 : lw_okq (⟨"UnikernelHttpModel", "mssOf", "(II)I"⟩, 39) := ⟨⟨by decide +kernel, by decide +kernel⟩, List.mem_of_getElem? (i := 1479) (by decide +kernel), List.mem_of_getElem? (i := 1925) (by decide +kernel), List.mem_of_getElem? (i := 1926) (by decide +kernel)⟩
theorem lw_p123 : lw_okq (⟨"UnikernelHttpModel", "begins", "(IIIII)V"⟩, 39) := ⟨⟨by decide +kernel, by decide +kernel⟩, List.mem_of_getElem? (i := 1479) (by decide +kernel), List.mem_of_getElem? (i := 1929) (by decide +kernel), List.mem_of_getElem? (i := 1930) (by decide +kernel)⟩
theorem lw_p124 : lw_okq (⟨"UnikernelHttpModel", "piece", "(IIIIIIZ)V"⟩, 39) := ⟨⟨by decide +kernel, by decide +kernel⟩, List.mem_of_getElem? (i := 1479) (by decide +kernel), List.mem_of_getElem? (i := 1934) (by decide +kernel), List.mem_of_getElem? (i := 1935) (by decide +kernel)⟩
theorem lw_p125 : lw_okq (⟨"UnikernelHttpModel", "dropGathering", "(I)V"⟩, 39) := ⟨⟨by decide +kernel, by decide +kernel⟩, List.mem_of_getElem? (i := 1479) (by decide +kernel), List.mem_of_getElem? (i := 1938) (by decide +kernel), List.mem_of_getElem? (i := 1939) (by decide +kernel)⟩
theorem lw_p126 : lw_okq (⟨"UnikernelHttpModel", "over", "(LUnikernelHttpModel$Peer;)V"⟩, 39) := ⟨⟨by decide +kernel, by decide +kernel⟩, List.mem_of_getElem? (i := 1479) (by decide +kernel), List.mem_of_getElem? (i := 1954) (by decide +kernel), List.mem_of_getElem? (i := 1955) (by decide +kernel)⟩
theorem lw_p127 : lw_okq (⟨"UnikernelHttpModel", "isKept", "(I)Z"⟩, 39) := ⟨⟨by decide +kernel, by decide +kernel⟩, List.mem_of_getElem? (i := 1479) (by decide +kernel), List.mem_of_getElem? (i := 1962) (by decide +kernel), List.mem_of_getElem? (i := 1963) (by decide +kernel)⟩
def lw_privs_8 : List (MethodName × Nat) := [(⟨"UnikernelHttpModel", "blank", "(LUnikernelHttpModel$Peer;)I"⟩, 39), (⟨"UnikernelHttpModel", "answered", "(IIZ)V"⟩, 39), (⟨"UnikernelHttpModel", "say", "(Ljava/lang/String;)V"⟩, 39), (⟨"UnikernelHttpModel", "decimal", "(I)V"⟩, 39), (⟨"UnikernelHttpModel", "asked", "(LUnikernelHttpModel$Peer;I)Z"⟩, 39), (⟨"UnikernelHttpModel", "run", "([BIII)I"⟩, 39), (⟨"UnikernelHttpModel", "is", "([BILjava/lang/String;)Z"⟩, 39), (⟨"UnikernelHttpModel", "pageOf", "([BII)I"⟩, 39), (⟨"UnikernelHttpModel", "isSent", "(LUnikernelHttpModel$Peer;)Z"⟩, 39), (⟨"UnikernelHttpModel", "watches", "(LUnikernelHttpModel$Peer;)V"⟩, 39), (⟨"UnikernelHttpModel", "mssOf", "(II)I"⟩, 39), (⟨"UnikernelHttpModel", "begins", "(IIIII)V"⟩, 39), (⟨"UnikernelHttpModel", "piece", "(IIIIIIZ)V"⟩, 39), (⟨"UnikernelHttpModel", "dropGathering", "(I)V"⟩, 39), (⟨"UnikernelHttpModel", "over", "(LUnikernelHttpModel$Peer;)V"⟩, 39), (⟨"UnikernelHttpModel", "isKept", "(I)Z"⟩, 39)]
theorem lw_r8 : ∀ q ∈ lw_privs_8, lw_okq q := List.forall_mem_cons.mpr ⟨lw_p112, List.forall_mem_cons.mpr ⟨lw_p113, List.forall_mem_cons.mpr ⟨lw_p114, List.forall_mem_cons.mpr ⟨lw_p115, List.forall_mem_cons.mpr ⟨lw_p116, List.forall_mem_cons.mpr ⟨lw_p117, List.forall_mem_cons.mpr ⟨lw_p118, List.forall_mem_cons.mpr ⟨lw_p119, List.forall_mem_cons.mpr ⟨lw_p120, List.forall_mem_cons.mpr ⟨lw_p121, List.forall_mem_cons.mpr ⟨lw_p122, List.forall_mem_cons.mpr ⟨lw_p123, List.forall_mem_cons.mpr ⟨lw_p124, List.forall_mem_cons.mpr ⟨lw_p125, List.forall_mem_cons.mpr ⟨lw_p126, List.forall_mem_cons.mpr ⟨lw_p127, fun _ h => absurd h List.not_mem_nil⟩⟩⟩⟩⟩⟩⟩⟩⟩⟩⟩⟩⟩⟩⟩⟩
def lw_privs : List (MethodName × Nat) := lw_privs_1 ++ (lw_privs_2 ++ (lw_privs_3 ++ (lw_privs_4 ++ (lw_privs_5 ++ (lw_privs_6 ++ (lw_privs_7 ++ (lw_privs_8)))))))
def lw_tbl : List Cond := k2_sels lw_privs ++ tables_1
theorem lw_privs_ok : ∀ q ∈ lw_privs, lw_okq q := by
  show ∀ q ∈ lw_privs_1 ++ (lw_privs_2 ++ (lw_privs_3 ++ (lw_privs_4 ++ (lw_privs_5 ++ (lw_privs_6 ++ (lw_privs_7 ++ (lw_privs_8))))))), lw_okq q
  exact List.forall_mem_append.mpr ⟨lw_r1, List.forall_mem_append.mpr ⟨lw_r2, List.forall_mem_append.mpr ⟨lw_r3, List.forall_mem_append.mpr ⟨lw_r4, List.forall_mem_append.mpr ⟨lw_r5, List.forall_mem_append.mpr ⟨lw_r6, List.forall_mem_append.mpr ⟨lw_r7, lw_r8⟩⟩⟩⟩⟩⟩⟩
end
section
/-! Own rows: the words of the tables that stay as they are while the tables grow warmer; a contract may take them all as given at its start (ux_T). -/
def ux_ex : Cond → Bool
  | .arrayOver (.object _) => true
  | .arrayOver (.array _) => true
  | .fieldLinkNest _ _ _ _ _ _ => true
  | .methodLinkNest _ _ _ _ => true
  | _ => false
def ux_gw (w : Cond) : Bool := goodWord w || ((w.onTables && w.faceAtom) || ux_ex w)
theorem ux_over_spec {args : Array Value} {s : State} {t : FieldType} (h : (Cond.arrayOver (.array t)).before args s = true) :
    ∃ comp c k, s.vm.findClass (FieldType.array t).toString = some comp ∧ (s.vm.classes.findIdx? fun (x : Class) => match x.kind with | .array component _ => component == comp | _ => false) = some c ∧ s.vm.classes[c]? = some k ∧ k.kind = .array comp (.array t) ∧ s.vm.findClass ("[" ++ (FieldType.array t).toString) = some c := by
  simp only [Cond.before, Cond.holds, Cond.value, beq_iff_eq] at h
  cases hc : s.vm.findClass (FieldType.array t).toString with
  | none => simp [hc] at h
  | some comp =>
    simp only [hc, Option.bind_some, Option.bind_eq_some_iff, Option.map_eq_some_iff] at h
    obtain ⟨c, hi, k, hk, hb⟩ := h
    obtain ⟨hlt, hp, -⟩ := Array.findIdx?_eq_some_iff_getElem.mp hi
    have hkk : s.vm.classes[c] = k := (Array.getElem?_eq_some_iff.mp hk).2
    rw [hkk] at hp
    cases hkind : k.kind with
    | array component ty =>
      rw [hkind] at hb hp
      simp at hb hp
      exact ⟨comp, c, k, rfl, hi, hk, by rw [hkind, hp, hb.1], hb.2⟩
    | _ => rw [hkind] at hb; simp at hb
theorem ux_over_moved {A A' : Array Value} {u U : State} {t : FieldType} (hvm : u.vm.Alike U.vm) (h : (Cond.arrayOver (.array t)).before A u = true) : (Cond.arrayOver (.array t)).before A' U = true := by
  obtain ⟨comp, c, k, h1, h2, h3, h4, h5⟩ := ux_over_spec h
  obtain ⟨k', hk', he⟩ := hvm.2.2 _ _ h3
  have e1 := va_idx_bare U.vm comp
  have e2 := va_idx_bare u.vm comp
  have e3 : U.vm.bare = u.vm.bare := by first | exact hvm.bare_eq | exact hvm.bare_eq.symm
  rw [e3] at e1
  have hi := (e1.symm.trans e2).trans h2
  have hkind : k'.kind = .array comp (.array t) := by rw [he]; exact h4
  have f1 : U.vm.findClass (FieldType.array t).toString = some comp := by rw [hvm.findClass]; exact h1
  have f2 : U.vm.findClass ("[" ++ (FieldType.array t).toString) = some c := by rw [hvm.findClass]; exact h5
  unfold Cond.before Cond.holds
  simp only [Cond.value]
  rw [f1, Option.bind_some]
  refine (congrArg (fun o : Option Nat => (o.bind (fun c => (U.vm.classes[c]?).map fun (k : Class) => match k.kind with | .array _ ty => decide (ty = FieldType.array t) && decide (U.vm.findClass ("[" ++ (FieldType.array t).toString) = some c) | _ => false) == some true)) hi).trans ?_
  simp [hk', hkind, f2]
theorem ux_warm {A A' : Array Value} {s U : State} (hW : s.WarmedH U.vm) : ∀ {w : Cond}, ux_gw w = true → w.before A s = true → w.before A' U = true := by
  intro w hg h
  rcases (Bool.or_eq_true _ _).mp hg with hq | hg
  · exact word_at hW (good_of_word hq) h
  rcases (Bool.or_eq_true _ _).mp hg with hf | hg
  · have hf := (Bool.and_eq_true _ _).mp hf
    exact va_tabs hf.1 (rfl : (s.setVm U.vm).vm = U.vm) (Cond.faceAtom_setVm (args := A) hW.alike _ hf.2 h)
  · cases w with
    | arrayOver t =>
      cases t with
      | object C => exact va_AO.use (va_AO.moved hW.alike (va_AO.of h))
      | array t => exact ux_over_moved hW.alike h
      | _ => cases hg
    | fieldLinkNest a b c d e f => exact va_Nw.use rfl (va_Nw.warmF hW (va_Nw.of rfl h))
    | methodLinkNest a b c d => exact va_Nw.use rfl (va_Nw.warmM hW (va_Nw.of rfl h))
    | _ => cases hg
/-- all such words of the law's tables hold here -/
def ux_T (U : State) : Prop := ∀ w ∈ lw_tbl, ux_gw w = true → w.before #[] U = true
theorem ux_T_warm {s U : State} (h : ux_T s) (hW : s.WarmedH U.vm) : ux_T U := fun w hw hg => ux_warm hW hg (h w hw hg)
theorem ux_T_call {U : State} (h : ux_T U) (g : JFrame) (mk : MethodId) (a : Array Value) : ux_T (U.calling g mk a) := ux_T_warm h (State.WarmedH.refl U)
theorem ux_T_at {U : State} (h : ux_T U) {w : Cond} (hw : w ∈ lw_tbl) (hg : ux_gw w = true) {A : Array Value} : w.before A U = true := ux_warm (State.WarmedH.refl U) hg (h w hw hg)
theorem ux_in (k : Nat) {w : Cond} {l : List Cond} (hl : ∀ w ∈ l, w ∈ lw_tbl) (h : l[k]? = some w) : w ∈ lw_tbl := hl _ (List.mem_of_getElem? h)
theorem ux_t1 : ∀ w ∈ tables_1_1, w ∈ lw_tbl := fun w h => by unfold lw_tbl tables_1; simp only [List.mem_append]; exact Or.inr (Or.inl h)
theorem ux_t2 : ∀ w ∈ tables_1_2, w ∈ lw_tbl := fun w h => by unfold lw_tbl tables_1; simp only [List.mem_append]; exact Or.inr (Or.inr (Or.inl h))
theorem ux_t3 : ∀ w ∈ tables_1_3, w ∈ lw_tbl := fun w h => by unfold lw_tbl tables_1; simp only [List.mem_append]; exact Or.inr (Or.inr (Or.inr (Or.inl h)))
theorem ux_t4 : ∀ w ∈ tables_1_4, w ∈ lw_tbl := fun w h => by unfold lw_tbl tables_1; simp only [List.mem_append]; exact Or.inr (Or.inr (Or.inr (Or.inr (Or.inl h))))
theorem ux_t5 : ∀ w ∈ tables_1_5, w ∈ lw_tbl := fun w h => by unfold lw_tbl tables_1; simp only [List.mem_append]; exact Or.inr (Or.inr (Or.inr (Or.inr (Or.inr (Or.inl h)))))
theorem ux_t6 : ∀ w ∈ tables_1_6, w ∈ lw_tbl := fun w h => by unfold lw_tbl tables_1; simp only [List.mem_append]; exact Or.inr (Or.inr (Or.inr (Or.inr (Or.inr (Or.inr (Or.inl h))))))
theorem ux_t7 : ∀ w ∈ tables_1_7, w ∈ lw_tbl := fun w h => by unfold lw_tbl tables_1; simp only [List.mem_append]; exact Or.inr (Or.inr (Or.inr (Or.inr (Or.inr (Or.inr (Or.inr (Or.inl h)))))))
theorem ux_t8 : ∀ w ∈ tables_1_8, w ∈ lw_tbl := fun w h => by unfold lw_tbl tables_1; simp only [List.mem_append]; exact Or.inr (Or.inr (Or.inr (Or.inr (Or.inr (Or.inr (Or.inr (Or.inr (Or.inl h))))))))
theorem ux_t9 : ∀ w ∈ tables_1_9, w ∈ lw_tbl := fun w h => by unfold lw_tbl tables_1; simp only [List.mem_append]; exact Or.inr (Or.inr (Or.inr (Or.inr (Or.inr (Or.inr (Or.inr (Or.inr (Or.inr h))))))))
theorem ux_tp {q : MethodName × Nat} (h : q ∈ lw_privs) : Cond.selects q.1.cls q.1 q.1 ∈ lw_tbl := by
  unfold lw_tbl
  exact List.mem_append_left _ (List.mem_map.mpr ⟨q, h, rfl⟩)
/-- a contract's start: its world, its array classes, the tables' words -/
def ux_Pc (av : List Value) (D : va_G) (cl : List vw_C) (ws : va_W) (tys : List (ClassId × FieldType)) (sz : Nat) : Array Value → State → Prop :=
  va_Pc av (fun U => U.heap.size = sz ∧ va_P D cl ws U.heap ∧ va_K D cl tys U ∧ va_D (fun _ => True) ws ∧ ux_T U)
def ux_B (D : va_G) (cl : List vw_C) (A : Nat → Prop) (ws : va_W) (tys : List (ClassId × FieldType)) (t : State) : Prop := va_P D cl ws t.heap ∧ va_K D cl tys t ∧ va_D A ws
theorem ux_pre {s : State} {H : Heap} {D : va_G} {cl : List vw_C} {ws : va_W} {tys : List (ClassId × FieldType)} {A : Nat → Prop} (av : List Value) (hT : ux_T s) (hP : va_P D cl ws H) (hK : va_K D cl tys s) (hD : va_D A ws) : PreS s H (ux_Pc av D cl ws tys H.size) av :=
  ⟨fun a U g mk q => by
    obtain ⟨q0, q1, qP, qK, qD, qT⟩ := q
    exact ⟨q0, q1, qP, va_K.moved (u := U) (U := U.calling g mk a) (Vm.Alike.refl U.vm) qK, qD, ux_T_call qT g mk a⟩,
   fun U hU hW => ⟨rfl, by rw [hU], by rw [hU]; exact hP, va_K.moved hW.alike hK, hD.weaken (fun _ _ _ _ => trivial), ux_T_warm hT hW⟩⟩
theorem ux_preV {s : State} {H : Heap} {D : va_G} {cl : List vw_C} {ws : va_W} {tys : List (ClassId × FieldType)} {A : Nat → Prop} {r : vw_C} {b ci q0 : Nat} {fs : List Value} (As : List Value) (hT : ux_T s) (hP : va_P D cl ws H) (hK : va_K D cl tys s) (hD : va_D A ws) (hc : cl[ci]? = some r) (he : ws[q0]? = some (b, .inr (ci, fs))) : PreV s H r.1 b (ux_Pc (.ref b :: As) D cl ws tys H.size) As :=
  ⟨(ux_pre (.ref b :: As) hT hP hK hD).1, va_recv hK hP hc he, (ux_pre (.ref b :: As) hT hP hK hD).2⟩
/-- the words of a call, by the tables -/
theorem ux_cb {R : Room} {s : State} {args : Array Value} {own : String} {index maxL mc ms : Nat} {y : MethodName} {bytes : ByteArray} {ret : Option FieldType} {rm : Room} (n : Nat) (hT : ux_T s) (h1 : Cond.code y bytes maxL ret ∈ lw_tbl) (h2 : Cond.methodLink own index y ∈ lw_tbl) (h3 : Cond.initialized y.cls ∈ lw_tbl) (hrc : rm.cells = mc) (hrs : rm.slots = ms)
    (hd : y.cls ≠ "java/lang/invoke/MethodHandle" ∧ y.cls ≠ "java/lang/invoke/VarHandle" ∧ (parseMethodDescriptor y.desc).map (fun d => d.parameters.length) = some n) (hR : rm.frames + 1 ≤ R.frames ∧ 8 + (maxL + 11) + rm.locals ≤ R.locals) : CallB R s args own index y bytes maxL ret [Cond.code y bytes maxL ret] rm mc ms n := by
  refine ⟨hrc, hrs, hR.1, hR.2, fun w hw a' U hW => ?_, List.mem_singleton.mpr rfl, ux_T_at hT h1 rfl, ux_T_at hT h3 rfl, ⟨hd.1, hd.2.1⟩, fun sig h => ?_, ux_T_at hT h2 rfl⟩
  · rw [List.mem_singleton] at hw
    subst hw
    exact ux_T_at (ux_T_warm hT hW) h1 rfl
  · have h2 := hd.2.2
    rw [h] at h2
    exact (Option.some.inj h2).symm
theorem ux_cn {R : Room} {s : State} {args : Array Value} {own host : String} {index maxL mc ms : Nat} {y : MethodName} {bytes : ByteArray} {ret : Option FieldType} {rm : Room} (n : Nat) (hT : ux_T s) (h1 : Cond.code y bytes maxL ret ∈ lw_tbl) (h2 : Cond.methodLinkNest own index y host ∈ lw_tbl) (h3 : Cond.initialized y.cls ∈ lw_tbl) (hrc : rm.cells = mc) (hrs : rm.slots = ms)
    (hd : y.cls ≠ "java/lang/invoke/MethodHandle" ∧ y.cls ≠ "java/lang/invoke/VarHandle" ∧ (parseMethodDescriptor y.desc).map (fun d => d.parameters.length) = some n) (hR : rm.frames + 1 ≤ R.frames ∧ 8 + (maxL + 11) + rm.locals ≤ R.locals) : va_CN R s args own index y host bytes maxL ret [Cond.code y bytes maxL ret] rm mc ms n := by
  refine ⟨⟨hrc, hrs, hR.1, hR.2, fun w hw a' U hW => ?_, List.mem_singleton.mpr rfl⟩, ux_T_at hT h1 rfl, ux_T_at hT h3 rfl, ⟨hd.1, hd.2.1⟩, fun sig h => ?_, ux_T_at hT h2 rfl⟩
  · rw [List.mem_singleton] at hw
    subst hw
    exact ux_T_at (ux_T_warm hT hW) h1 rfl
  · have h2 := hd.2.2
    rw [h] at h2
    exact (Option.some.inj h2).symm
end
section
/-! Own rows: methods that return or throw (ux_Met), their call with a handler of the caller's, 'new E(); athrow'. -/
section UXW
variable {p : Program} {l : Launch} {e : Env} {R : Room} {s : State} {m : MethodId} {args : Array Value} {below : List Frame} {meth : Method} {c : Code} {H : Heap} {locs : List Loc} {cells slots : Nat} {Q : State → Prop}
theorem ux_mono {Q' : State → Prop} {g : JFrame} (h : ∀ t, Q t → Q' t) (k : W p l e R s m args below meth c H locs cells slots Q g) : W p l e R s m args below meth c H locs cells slots Q' g := by
  intro T hT X
  obtain ⟨t, a, b⟩ := k T hT X
  exact ⟨t, a, h t b⟩
/-- the end of a walk that returns or throws -/
def ux_E (below : List Frame) (Qc : Array Value → State → Outcome → State → Prop) (a : Array Value) (s : State) (mc ms : Nat) (free : Addr → Prop) : State → Prop := fun t =>
  ∃ o, t.status = .running ∧ Ended t below o ∧ Qc a s o t ∧ ∃ L : List Loc, (s.WarmedH t.vm ∧ s.sameButNew ({ t with vm := s.vm } : State) L mc ms) ∧ ∀ q ∈ L, free q.base
theorem ux_E_of {Qc : Array Value → State → Outcome → State → Prop} {a : Array Value} {mc ms : Nat} {free : Addr → Prop} (t : State) (h : MQ below Qc a s mc ms free t) : ux_E below Qc a s mc ms free t := by
  obtain ⟨o, h1, h2, h3, L, h4, h5⟩ := h
  exact ⟨o, h1, h2, h3, L, h4.2, h5⟩
/-- the contract of a method that returns or throws -/
def ux_Met (l : Launch) (y : MethodName) (ws : List Cond) (rm : Room) (Pc : Array Value → State → Prop) (Qc : Array Value → State → Outcome → State → Prop) (mc ms : Nat) (free : Addr → Prop) : Prop :=
  MetFree l y (headSpec ws rm) Pc (fun _ _ _ _ _ => True) (fun a st o t => Qc a st o t ∧ ∃ L : List Loc, (st.WarmedH t.vm ∧ st.sameButNew ({ t with vm := st.vm } : State) L mc ms) ∧ ∀ q ∈ L, free q.base)
theorem ux_ofW {y : MethodName} {ws ws' : List Cond} {rm : Room} {Pc : Array Value → State → Prop} {Qc : Array Value → State → Outcome → State → Prop} {mc ms : Nat} {free : Addr → Prop} {cc : ByteArray} {maxL : Nat} {ret : Option FieldType}
    (hy : plainName y.cls = true) (hw : ws = Cond.code y cc maxL ret :: ws')
    (body : ∀ p e s m args below meth c s₁, BodyLoose p l y (headSpec ws rm) cc maxL ret e s m args below meth c s₁ → c.maxLocals = maxL → Pc args s →
      W p l e (headSpec ws rm).room s m args below meth c s.heap [] 0 0 (ux_E below Qc args s mc ms free) (entryFrame m args maxL)) : ux_Met l y ws rm Pc Qc mc ms free := by
  refine MetFree.of_bodyS (code := cc) (maxLocals := maxL) (ret := ret) hy ?_ ?_
  · intro args s m h hn
    obtain ⟨meth, c, h1, h2, h3, h4, h5, h6, -, -⟩ := Cond.code_spec hn (atoms_spec (ws := ws) h _ (by rw [hw]; exact List.mem_cons_self))
    exact ⟨meth, c, h1, h2, h3, h4, h5, h6⟩
  · intro p e s m args below meth c s₁ B hml hP _
    have hh0 : s₁.heap = s.heap := by rw [B.state]; rfl
    obtain ⟨t, a1, o, b1, b2, b3, b4⟩ := body p e s m args below meth c s₁ B hml hP s₁ hh0 (Stand.of_body B)
    exact ⟨t, o, a1, b1, b2, b3, b4⟩
/-- a virtual call of such a method: both ends -/
theorem ux_callV {T : State} (X : Stand p l e R s m args below meth c T locs cells slots) (hexec : p.tables.exec = Jvm.exec) {own C : String} {index : Nat} {y : MethodName} {bytes : ByteArray} {maxL : Nat} {ret : Option FieldType}
    {ws : List Cond} {rm : Room} {Pc : Array Value → State → Prop} {Qc : Array Value → State → Outcome → State → Prop} {mc ms : Nat} {free : Addr → Prop}
    (hM : ux_Met l y ws rm Pc Qc mc ms free) (hbl : FrameBlind Pc) (hrc : rm.cells = mc) (hrs : rm.slots = ms) (hfr : rm.frames + 1 ≤ R.frames) (hlo : 8 + (maxL + 11) + rm.locals ≤ R.locals)
    (hws : ∀ w ∈ ws, ∀ (a' : Array Value) (U : State), s.WarmedH U.vm → w.before a' U = true)
    (hown : s.vm.findClass own = some m.cls) (hlink : (Cond.methodLink own index y).before args s = true) (hinst : (Cond.instanceMethod y).before args s = true) (hsel : (Cond.selects C y y).before args s = true)
    (hcode : (Cond.code y bytes maxL ret).before args s = true) (hini : (Cond.initialized y.cls).before args s = true) (hy : y.cls ≠ "java/lang/invoke/MethodHandle" ∧ y.cls ≠ "java/lang/invoke/VarHandle")
    {b : Addr} {cellB : Cell} (hcell : T.heap[b]? = some cellB) (hobj : cellB.vm.isStatics = false) (hcls : s.vm.findClass C = some cellB.cls)
    {g : JFrame} (hg : g.method = m) (hsize : g.locals.size = c.maxLocals) {argsL rest : List Value} (hlen : ∀ sig, parseMethodDescriptor y.desc = some sig → argsL.length = sig.parameters.length)
    (hstack : g.stack = argsL.reverse ++ .ref b :: rest) (hW : 2 * g.monitorRoom + (rest.map fun v => v.category).sum ≤ 8) (hdg : decode c.code g.pc = .ok (.invokevirtual index, 3))
    (hcells : cells + mc ≤ R.cells) (hslots : slots + ms ≤ R.slots) (hPc : ∀ vm₁, s.WarmedH vm₁ → Pc (Value.ref b :: argsL).toArray (T.setVm vm₁)) :
    ∃ (o : Outcome) (st₀ t T' : State) (L : List Loc), st₀.heap = T.heap ∧ Stand p l e R s m args below meth c T' (locs ++ L) (cells + mc) (slots + ms) ∧ (∀ q ∈ L, free q.base) ∧ T'.heap = t.heap ∧ T'.vm = t.vm ∧ Qc (Value.ref b :: argsL).toArray st₀ o t ∧
      (∀ v, o = .returned v → ∀ tg, Steps p.tables e below (T'.setTop { g with pc := g.pc + 3, stack := v.toList ++ rest }) tg → Steps p.tables e below (T.setTop g) tg) ∧
      (∀ x, o = .threw x → ∀ tg, Steps p.tables e below ((T'.setTop { g with stack := rest }).pushFrame (.throwing x)) tg → Steps p.tables e below (T.setTop g) tg) := by
  obtain ⟨mk, methM, hnamed, hmethM, hstM, habM⟩ := Cond.instanceMethod_spec hinst
  obtain ⟨methM', cM, hmethM', -, -, -, -, -, -, hsigM⟩ := Cond.code_spec hnamed hcode
  cases hmethM.symm.trans hmethM'
  obtain ⟨c2, r2, m2, q1, q2, q3, q4, kP, hkP, hkPi⟩ := Cond.selects_spec hsel
  cases hcls.symm.trans q1
  cases (State.methodFound?_of_named hnamed hy).symm.trans q2
  cases hnamed.symm.trans q3
  have hselP : selectMethod e.platform s.vm cellB.cls mk = .method mk := by rw [Launch.admits_selectMethod X.admits]; exact q4
  obtain ⟨vm₁, X₁, hstep₁⟩ := X.invokevirtual hexec hown hlink hnamed hmethM hstM hkP hkPi hy (a := b) (cell := cellB) hcell
    (fun z h => by rw [h] at hobj; cases hobj) hselP hmethM habM hkP hkPi (g := g) hg (argsL := argsL) (rest := rest) (hlen _ hsigM) hstack hdg
  have hg1 : ({ g with stack := rest } : JFrame).method = m := hg
  have hsz1 : ({ g with stack := rest } : JFrame).locals.size = c.maxLocals := hsize
  have hdg1 : decode c.code ({ g with stack := rest } : JFrame).pc = .ok (.invokevirtual index, 3) := hdg
  have hW1 : 2 * ({ g with stack := rest } : JFrame).monitorRoom + ((({ g with stack := rest } : JFrame).stack).map fun v => v.category).sum ≤ 8 := hW
  have hst1 : ({ g with stack := rest } : JFrame).stack = rest := rfl
  have hpc1 : ({ g with stack := rest } : JFrame).pc = g.pc := rfl
  generalize hgg : ({ g with stack := rest } : JFrame) = g1 at hg1 hsz1 hdg1 hW1 hst1 hpc1 hstep₁
  have hU : (T.setVm vm₁).heap = T.heap := rfl
  have hPcU := hPc vm₁ X₁.warmed
  generalize T.setVm vm₁ = U at X₁ hstep₁ hU hPcU
  have hnU : U.methodNamed? y = some mk := X₁.named hnamed
  have hcU : (Cond.code y bytes maxL ret).before args U = true := word_at X₁.warmed (Or.inl (by first | rfl | simp [Cond.onTables, Cond.keeps, Cond.steady])) hcode
  have hiU : (Cond.initialized y.cls).before args U = true := word_at X₁.warmed (Or.inl (by first | rfl | simp [Cond.onTables, Cond.keeps, Cond.steady])) hini
  obtain ⟨methY, cY, hmY, hcY, -, hlY, -⟩ := Cond.code_spec hnU hcU
  obtain ⟨kY, hkY, -⟩ := className_of_methodNamed hnU
  have hinitY : kY.init = .initialized := Cond.initialized_spec (findClass_of_methodNamed hnU) hkY hiU
  have h : At U g1.method c below := by rw [hg1]; exact X₁.here
  have happ : (headSpec ws rm).appliesLoose y e.platform (U.calling g1 mk (Value.ref b :: argsL).toArray) = true :=
    Spec.appliesLoose_calling (g := g1) h hdg1 hnU hkY hinitY
      (X₁.room_calling (g := g1) (R' := rm) hsz1 hmY hcY hfr (by rw [hlY]; omega) (by rw [hrc]; exact hcells) (by rw [hrs]; exact hslots)) (atoms_intro fun w hw => hws w hw _ _ X₁.warmed)
  obtain ⟨mid, hmid⟩ := h.above
  have hfrm : (U.setTop g1).frames = (.java g1 :: mid) ++ below := by rw [State.frames_setTop' g1 h.top, hmid]; rfl
  obtain ⟨o, s₂, hsteps, -, hend, hq, L, hWS, hL⟩ := Steps.callFree hM p X.admits X.cas X.clock (acts := []) hfrm happ (hbl _ _ _ _ hPcU) trivial
  have hW2 : (U.calling g1 mk (Value.ref b :: argsL).toArray).WarmedH s₂.vm := hWS.1
  have hsame : (U.calling g1 mk (Value.ref b :: argsL).toArray).sameButNew ({ s₂ with vm := (U.calling g1 mk (Value.ref b :: argsL).toArray).vm } : State) L mc ms := hWS.2
  rw [State.frames_setTop' g1 h.top, X₁.tail] at hend
  cases o with
  | returned v =>
    obtain ⟨T', X', -, -, ht⟩ := X₁.outOf (g := g1) hg1 hdg1 hend hW2 hsame
    refine ⟨.returned v, U.calling g1 mk (Value.ref b :: argsL).toArray, s₂, T', L, ?_, X', hL, by rw [ht]; simp, by rw [ht]; simp, hq, fun v' hv tg hs => ?_, fun x hx => by cases hx⟩
    · rw [← hU]; simp [State.calling, State.pushFrame, State.setFrames]
    · cases hv
      refine hstep₁ _ fun acts => ?_
      rw [doInvoke_state]
      refine hsteps.trans ?_
      rw [ht, hst1]
      have e3 : ({ g1 with pc := g1.pc + 3, stack := v.toList ++ rest } : JFrame) = { g with pc := g.pc + 3, stack := v.toList ++ rest } := by rw [← hgg]
      rw [e3]
      exact hs
  | threw x =>
    obtain ⟨T', X', -, -, ht⟩ := X₁.outOfThrown (g := g1) hg1 hend hW2 hsame
    refine ⟨.threw x, U.calling g1 mk (Value.ref b :: argsL).toArray, s₂, T', L, ?_, X', hL, by rw [ht]; exact (Stand.throwing_heap T' g1 x).symm, by rw [ht]; exact (Stand.throwing_vm T' g1 x).symm, hq, (fun v hv => by cases hv), fun x' hx tg hs => ?_⟩
    · rw [← hU]; simp [State.calling, State.pushFrame, State.setFrames]
    · cases hx
      refine hstep₁ _ fun acts => ?_
      rw [doInvoke_state]
      refine hsteps.trans ?_
      rw [ht]
      exact hs
/-- the first entry of the table takes it: what the entry names, resolved or not, is what the object is of -/
theorem ux_catch {T : State} (X : Stand p l e R s m args below meth c T locs cells slots) {a : Addr} {g : JFrame} (hg : g.method = m) {own E : String} (hown : s.vm.findClass own = some m.cls)
    {x : ExceptionTableEntry} {more : List ExceptionTableEntry} (htab : c.exceptionTable.toList = x :: more) (hx : covers x g.pc = true) (h0 : x.catchType ≠ 0)
    (hlink : (Cond.classLink own x.catchType E).before args s = true) {cell : Cell} (hcell : T.heap[a]? = some cell) (hobj : cell.vm.isStatics = false) (hcls : s.vm.findClass E = some cell.cls) :
    ∃ vm' : Vm, Stand p l e R s m args below meth c (T.setVm vm') locs cells slots ∧
      ∀ tg, Steps p.tables e below ((T.setVm vm').setTop { g with pc := x.handlerPc, stack := [.ref a] }) tg → Steps p.tables e below ((T.setTop g).pushFrame (.throwing a)) tg := by
  subst hg
  have hpl : e.platform.magicAccessors = ({} : Platform).magicAccessors := by rw [X.admits.platform]
  obtain ⟨cE, hfE, hcl⟩ := Cond.classLink_spec hown hlink e.platform hpl
  cases hcls.symm.trans hfE
  have hclT := X.warmed.classLinks hcl
  obtain ⟨-, hwarm, -⟩ := State.classEntry (e := e) X.warmed hcl
  refine ⟨T.vm.noted g.method.cls x.catchType (.cls cell.cls), X.noted hwarm, fun tg hrest => ?_⟩
  obtain ⟨hra, hrt⟩ := (resolveClass_links e.toSetting hclT).op (op := VmOp.resolveClass g.method.cls x.catchType) rfl
  have hal : s.vm.Alike (T.vm.noted g.method.cls x.catchType (.cls cell.cls)) := hwarm.alike
  obtain ⟨kE, hkE⟩ := Vm.classAt_of_findClass hcls
  obtain ⟨kE', hkE', -⟩ := hal.2.2 _ _ hkE
  have hasg : (T.vm.noted g.method.cls x.catchType (.cls cell.cls)).assignable cell.cls cell.cls = true := by
    show Vm.assignableAux _ (255 + 1) _ _ = true
    rw [Vm.assignableAux]; simp
  have hob : ∀ k, cell.vm ≠ .statics k := fun k => VmData.ne_statics_of hobj k
  obtain ⟨hgo, hw⟩ := X.here.throwing a
  have hvm : ((T.setTop g).pushFrame (.throwing a)).vm = T.vm := Stand.throwing_vm T g a
  have hhp : ((T.setTop g).pushFrame (.throwing a)).heap = T.heap := Stand.throwing_heap T g a
  have hfind : ∀ (Q : Handler → Pre) (E : CtlPost) (d : Bool) (acts : List Action), wp (findHandler g a) Q E e d acts ((T.setTop g).pushFrame (.throwing a)) ↔ Q (.found x.handlerPc) d acts (((T.setTop g).pushFrame (.throwing a)).setVm (T.vm.noted g.method.cls x.catchType (.cls cell.cls))) := by
    intro Q E d acts
    rw [W.findHandler_eq (meth := meth) (code := c) (by rw [hvm]; exact X.method') X.code, htab]
    have hx' : (decide (x.startPc ≤ g.pc) && decide (g.pc < x.endPc)) = true := hx
    simp only [← hvm] at hra hrt hasg hkE'
    have hcell' : ((T.setTop g).pushFrame (.throwing a)).heap[a]? = some cell := by rw [hhp]; exact hcell
    rw [← hvm]
    simp [findHandler.go, hx', h0, hra, hrt, hcell', hob, hkE', hasg, VmOp.dirties, VmOp.acts]
  refine Steps.head hgo hw ?_
  rw [stepThread_throwing (frames_entered X.here.top _)]
  have hstep : (stepThrowing e ((T.setTop g).pushFrame (.throwing a)) a (.java g :: T.frames.tail)).Is ((((T.setTop g).pushFrame (.throwing a)).setVm (T.vm.noted g.method.cls x.catchType (.cls cell.cls))).setFrames (.java { g with pc := x.handlerPc, stack := [.ref a] } :: T.frames.tail)) [] := by
    simp only [stepThrowing, searchFrame, vmDo]
    generalize hr : Sem.go _ e false [] ((T.setTop g).pushFrame (.throwing a)) = res
    obtain ⟨as, rfl, ha⟩ := Sem.eq_ok_of hr (a := Handler.found x.handlerPc) (s' := ((T.setTop g).pushFrame (.throwing a)).setVm (T.vm.noted g.method.cls x.catchType (.cls cell.cls))) (acts' := []) (by simp [hfind _ _ _ _])
    exact ⟨rfl, ha⟩
  rw [hstep.1]
  obtain ⟨g₀, hr⟩ := X.frames_eq
  have hr' : (T.setVm (T.vm.noted g.method.cls x.catchType (.cls cell.cls))).frames = .java g₀ :: below := hr
  rw [State.setTop_of_frames _ hr'] at hrest
  have e1 : (((T.setTop g).pushFrame (.throwing a)).setVm (T.vm.noted g.method.cls x.catchType (.cls cell.cls))).setFrames (.java { g with pc := x.handlerPc, stack := [.ref a] } :: T.frames.tail) = (T.setVm (T.vm.noted g.method.cls x.catchType (.cls cell.cls))).setFrames (.java { g with pc := x.handlerPc, stack := [.ref a] } :: below) := by
    rw [hr, List.tail_cons, State.pushFrame, State.setTop_of_frames _ hr, State.setFrames_setFrames]
    have z : ∀ (F G : List Frame) (w : Vm), ((T.setFrames F).setVm w).setFrames G = (T.setVm w).setFrames G := fun F G w => by
      show ((T.setVm w).setFrames F).setFrames G = _
      rw [State.setFrames_setFrames]
    exact z _ _ _
  rw [e1]
  exact hrest
/-- in the words of a walk: a call that returns, or throws an E that the first entry takes -/
theorem ux_run {Ts : List Cond} {own C E : String} {index : Nat} {y : MethodName} {bytes : ByteArray} {maxL nL n : Nat} {ret : Option FieldType} {cc : ByteArray}
    {ws : List Cond} {rm : Room} {Pc : Array Value → State → Prop} {Qc : Array Value → State → Outcome → State → Prop} {mc ms : Nat} {free : Addr → Prop} {b : Addr} {As rest : List Value} {pc : Nat} {ls : Array Slot} {st0 : List Value}
    {A0 : Nat → Prop} {H0 : Heap}
    (S : CallFix p m c cc nL s args Ts own) (hM : ux_Met l y ws rm Pc Qc mc ms free) (cw : CallW R s args own C index y bytes maxL ret ws rm mc ms n) (hp : PreV s H C b Pc As)
    {x : ExceptionTableEntry} {more : List ExceptionTableEntry} (htab : c.exceptionTable.toList = x :: more) (hx : covers x pc = true) (h0 : x.catchType ≠ 0) (hE : (Cond.classLink own x.catchType E).before args s = true)
    (hn : As.length = n) (hsize : ls.size = nL) (hstack : st0 = As.reverse ++ .ref b :: rest) (hW : (rest.map fun v => v.category).sum ≤ 8) (hdg : decode cc pc = .ok (.invokevirtual index, 3)) (hf : cells + mc ≤ R.cells ∧ slots + ms ≤ R.slots)
    (hS : va_S A0 H0 H locs) (hA : ∀ q, free q → A0 q)
    (hQ : ∀ st₀ o t, Qc (Value.ref b :: As).toArray st₀ o t → va_F A0 st₀ t ∧ ∀ z, o = .threw z → ∃ cell : Cell, t.heap[z]? = some cell ∧ cell.vm.isStatics = false ∧ t.vm.findClass E = some cell.cls)
    (kr : ∀ (v : Option Value) (st₀ t : State) (H1 : Heap) (locs1 : List Loc), st₀.heap = H → t.heap = H1 → s.vm.Alike t.vm → Qc (Value.ref b :: As).toArray st₀ (.returned v) t → va_S A0 H0 H1 locs1 → W p l e R s m args below meth c H1 locs1 (cells + mc) (slots + ms) Q (F0 m (pc + 3) ls (v.toList ++ rest)))
    (kt : ∀ (z : Addr) (st₀ t : State) (H1 : Heap) (locs1 : List Loc), st₀.heap = H → t.heap = H1 → s.vm.Alike t.vm → Qc (Value.ref b :: As).toArray st₀ (.threw z) t → va_S A0 H0 H1 locs1 → W p l e R s m args below meth c H1 locs1 (cells + mc) (slots + ms) Q (F0 m x.handlerPc ls [.ref z])) :
    W p l e R s m args below meth c H locs cells slots Q (F0 m pc ls st0) := by
  obtain ⟨⟨hrc, hrs, hfr, hlo, hws, hcw, hcode, hini, hy, hlen, hl⟩, hin, hse⟩ := cw
  obtain ⟨hxx, hb, hml, ho, -⟩ := S
  obtain ⟨hbl, ⟨cellB, hcB, hoB, hclB⟩, hPc⟩ := hp
  intro T hT X
  have hm0 : (F0 m pc ls st0).monitorRoom = 0 := rfl
  obtain ⟨o, st₀, t, T', L, e0, X', hL, e1, e2, hq, kR, kT⟩ := ux_callV X hxx (C := C) (bytes := bytes) (maxL := maxL) (ret := ret) hM hbl hrc hrs hfr hlo hws ho hl hin hse hcode hini hy (by rw [hT]; exact hcB) hoB hclB (g := F0 m pc ls st0) rfl (hsize.trans hml.symm) (argsL := As) (rest := rest) (fun sig h => hn.trans (hlen sig h)) hstack (by rw [hm0]; omega) (by rw [hb]; exact hdg) hf.1 hf.2
    (fun vm₁ hW₁ => hPc (T.setVm vm₁) hT hW₁)
  have e0' : st₀.heap = H := e0.trans hT
  obtain ⟨⟨hz, hk⟩, hthr⟩ := hQ _ _ _ hq
  rw [e0'] at hz hk
  have hS1 : va_S A0 H0 t.heap (locs ++ L) := ⟨Nat.le_trans hS.1 hz, fun q h1 h2 => by rw [hk q (Nat.lt_of_lt_of_le h1 hS.1) h2]; exact hS.2.1 q h1 h2, fun q hq => by
      rcases List.mem_append.mp hq with h | h
      · exact hS.2.2 q h
      · exact hA _ (hL q h)⟩
  have hal : s.vm.Alike t.vm := by rw [← e2]; exact X'.warmed.alike
  cases o with
  | returned v =>
    obtain ⟨t2, a1, b1⟩ := kr v st₀ t t.heap (locs ++ L) e0' rfl hal hq hS1 T' e1 X'
    exact ⟨t2, kR v rfl t2 a1, b1⟩
  | threw z =>
    obtain ⟨cell, hc1, hc2, hc3⟩ := hthr z rfl
    obtain ⟨vm', X2, kC⟩ := ux_catch X' (a := z) (g := { (F0 m pc ls st0) with stack := rest }) rfl ho htab hx h0 hE (by rw [e1]; exact hc1) hc2 (by rw [← hal.findClass]; exact hc3)
    obtain ⟨t2, a1, b1⟩ := kt z st₀ t t.heap (locs ++ L) e0' rfl hal hq hS1 (T'.setVm vm') e1 X2
    exact ⟨t2, kT z rfl t2 (kC t2 a1), b1⟩
theorem ux_dup {T : State} (X : Stand p l e R s m args below meth c T locs cells slots) (hexec : p.tables.exec = Jvm.exec) {pc : Nat} {ls : Array Slot} {va : Value} {rest : List Value} (hdg : decode c.code pc = .ok (.dup, 1)) (hva : va.category = 1) :
    ∀ tg, Steps p.tables e below (T.setTop (F0 m (pc + 1) ls (va :: va :: rest))) tg → Steps p.tables e below (T.setTop (F0 m pc ls (va :: rest))) tg := by
  intro tg htg
  jvm_step X.here [X.here.top, hexec, hdg, hva]
  exact htg
/-- 'new E(); athrow' where nothing was written before: the method ends, by a new cell, an E -/
theorem ux_throw {cc : ByteArray} {own E : String} {names : List String} {ic iN mc ms : Nat} {pc : Nat} {ls : Array Slot} {Qc : Array Value → State → Outcome → State → Prop} {free : Addr → Prop}
    (hexec : p.tables.exec = Jvm.exec) (htr : e.platform.stackTraces = false) (hb : c.code = cc) (hlk : meth.locks = false) (hnoH : c.exceptionTable.isEmpty = true) (hown : s.vm.findClass own = some m.cls) (hE : Bundle.fit E = true) (hnames : ∀ n ∈ names, Bundle.fit n = true)
    (hat : ∀ a ∈ Bundle.ownAtoms0 own ic E names, a.before args s = true) (hcl : (Cond.classLink own iN E).before args s = true) (hini : (Cond.initialized E).before args s = true) (hsize : ls.size = c.maxLocals)
    (d0 : decode cc pc = .ok (.new iN, 3)) (d3 : decode cc (pc + 3) = .ok (.dup, 1)) (d4 : decode cc (pc + 4) = .ok (.invokespecial ic, 3)) (d7 : decode cc (pc + 7) = .ok (.athrow, 1))
    (hmc : cells + 1 ≤ mc) (hms : slots + 6 ≤ ms) (hRc : cells + 1 ≤ R.cells) (hRs : slots + 6 ≤ R.slots) (hRf : names.length + 3 < R.frames) (hRl : 1 + (13 * (names.length + 1) + 41) ≤ R.locals) (hH : H = s.heap)
    (hq : ∀ (t : State) (z : Addr) (cell : Cell), s.WarmedH t.vm → t.heap[z]? = some cell → cell.vm.isStatics = false → t.vm.findClass E = some cell.cls → s.heap.size ≤ t.heap.size → (∀ q, q < s.heap.size → t.heap[q]? = s.heap[q]?) → Qc args s (.threw z) t) :
    W p l e R s m args below meth c H [] cells slots (ux_E below Qc args s mc ms free) (F0 m pc ls []) := by
  intro T hT X
  subst hb
  obtain ⟨vm', cC, kC, h1, h2, h3, h4, X1, st1⟩ := X.newCold hexec hown hcl (n := 6) (hat (.instantiable E 6) (by simp [Bundle.ownAtoms0])) hini (g := F0 m pc ls []) rfl d0 hRc hRs
  have hs0 : T.heap.size = s.heap.size := by rw [hT, hH]
  have hcellA : ((T.setVm vm').pushCell { cls := cC, slots := kC.instanceTypes.map defaultValue, vm := .none }).heap[T.heap.size]? = some (freshCell cC kC) := by
    have := State.heap_pushCell_size (T.setVm vm') ({ cls := cC, slots := kC.instanceTypes.map defaultValue, vm := .none } : Cell)
    exact this
  obtain ⟨U, hU, hrun, hend, hWU, hsame, ce, hce, hO⟩ := X1.ctorThrow0 hexec htr (ic := ic) hown hE hnames hat (by intro x hx; cases hx) h1 h2 hcellA (by rw [hs0]; exact Nat.le_refl _)
    (g := F0 m (pc + 4) ls [.ref T.heap.size, .ref T.heap.size]) rfl hsize rfl rfl (rest := []) rfl d4 d7 (fun x hx => by
      have : c.exceptionTable.toList = [] := by simpa using hnoH
      rw [this] at hx; cases hx) hRf (by show 2 * 0 + (1 + 0) + _ ≤ _; omega) hlk
  have hkeep : ∀ q, q < s.heap.size → U.heap[q]? = s.heap[q]? := by
    intro q hq
    obtain ⟨c', g1, g2, g3, g4⟩ := hsame.2.2.2.2.2 q s.heap[q] (Array.getElem?_eq_getElem hq)
    have g1' : U.heap[q]? = some c' := g1
    rw [g1', Array.getElem?_eq_getElem hq]
    have hsl : c'.slots = (s.heap[q]).slots := Array.ext_getElem? fun i => g4 i (by intro hh; cases hh)
    rw [g2, hsl]
  refine ⟨U, ?_, .threw T.heap.size, hrun, hend, hq U T.heap.size ce hWU hce (by rw [hO.vm]; rfl) (by rw [hWU.alike.findClass]; exact hO.cls) (by have := hsame.2.1; exact this) hkeep, [], ⟨hWU, hsame.mono hmc hms⟩, by intro q hq; cases hq⟩
  refine st1 _ ?_
  exact ux_dup X1 hexec d3 rfl _ hU
end UXW
end
section
/-! Own row: 'multianewarray' of two dimensions over bytes: what was there stays, the new cells lie behind it. -/
section UXM
variable {E : CtlPost} {e : Env} {d : Bool} {acts : List Action} {s : State}
theorem ux_wpNew {ca comp : ClassId} {k : Class} {ty : FieldType} {n : Nat} {v : Value} (hk : s.vm.classes[ca]? = some k) (hkind : k.kind = .array comp ty) (h1 : ¬ n > e.platform.arrayLengthLimit) (h2 : ¬ n * componentBytes ty > e.platform.maxHeapBytes)
    (hf : fits ty v = true) (hdv : v.isDefault = true) (hc : s.heap.size < e.platform.maxCells) (hs : s.slotsUsed + n ≤ e.platform.maxSlots) {Q : Addr → Pre} (hq : Q s.heap.size d acts (s.pushCell { cls := ca, slots := Array.replicate n v, vm := .none })) : wp (Jvm.newArray ca n v) Q E e d acts s := by
  have hfs : ∀ i w, (Array.replicate n v)[i]? = some w → s.fitsSlot ca .none i w = true := by
    intro i w hw
    rw [Array.getElem?_replicate] at hw
    split at hw
    · cases hw
      simp [State.fitsSlot, State.slotType?, hk, hkind, hf]
    · cases hw
  have hda : allocActs (Array.replicate n v) s.heap.size acts = acts := by
    unfold allocActs
    rw [if_pos]
    rw [Array.all_replicate]
    split <;> simp [hdv]
  simp only [Jvm.newArray, Jvm.arrayFits, wp_bind', W.ask, W.ite, h1, if_false, wp_pure', W.theClass, hk, hkind, h2, W.alloc, W.stop, Option.some.injEq, exists_eq_left', Array.size_replicate, hda]
  rw [if_neg (by omega)]
  exact ⟨hc, hs, hfs, hq⟩
end UXM
/-- the outer row when i of its places are filled; h: its address -/
def ux_oc (ca : ClassId) (N h : Nat) : Nat → Cell
  | 0 => { cls := ca, slots := Array.replicate N .null, vm := .none }
  | i + 1 => (ux_oc ca N h i).setSlot i (.ref (h + 1 + i))
def ux_ic (comp : ClassId) (M : Nat) : Cell := { cls := comp, slots := Array.replicate M (.int 0), vm := .none }
def ux_z (T : State) (ca comp : ClassId) (N M : Nat) : Nat → State
  | 0 => T.pushCell (ux_oc ca N T.heap.size 0)
  | i + 1 => ((ux_z T ca comp N M i).pushCell (ux_ic comp M)).setCell T.heap.size (ux_oc ca N T.heap.size (i + 1))
theorem ux_oc_facts (ca : ClassId) (N h : Nat) : ∀ i, (ux_oc ca N h i).cls = ca ∧ (ux_oc ca N h i).vm = .none ∧ (ux_oc ca N h i).slots.size = N
  | 0 => ⟨rfl, rfl, by simp [ux_oc]⟩
  | i + 1 => by
    obtain ⟨h1, h2, h3⟩ := ux_oc_facts ca N h i
    exact ⟨by simp [ux_oc, Cell.setSlot, h1], by simp [ux_oc, Cell.setSlot, h2], by simp [ux_oc, Cell.setSlot, h3]⟩
theorem ux_z_facts (T : State) (ca comp : ClassId) (N M : Nat) : ∀ i, (ux_z T ca comp N M i).heap.size = T.heap.size + 1 + i ∧ (ux_z T ca comp N M i).heap[T.heap.size]? = some (ux_oc ca N T.heap.size i) ∧ (ux_z T ca comp N M i).vm = T.vm ∧ (ux_z T ca comp N M i).slotsUsed = T.slotsUsed + N + i * M ∧ ∀ a, a < T.heap.size → (ux_z T ca comp N M i).heap[a]? = T.heap[a]?
  | 0 => ⟨by simp [ux_z], State.heap_pushCell_size _ _, rfl, by simp [ux_z, ux_oc], fun a ha => State.heap_pushCell_of_lt _ _ ha⟩
  | i + 1 => by
    obtain ⟨h1, h2, h3, h4, h5⟩ := ux_z_facts T ca comp N M i
    have hlt : T.heap.size < (ux_z T ca comp N M i).heap.size := by omega
    have h6 : ((ux_z T ca comp N M i).pushCell (ux_ic comp M)).heap[T.heap.size]? = some (ux_oc ca N T.heap.size i) := by rw [State.heap_pushCell_of_lt (h := hlt)]; exact h2
    refine ⟨?_, State.heap_setCell_self h6, by simp [ux_z, h3], ?_, fun a ha => ?_⟩
    · simp [ux_z, State.setCell, h1]; omega
    · simp [ux_z, h4, ux_ic, Nat.succ_mul]; omega
    · show (((ux_z T ca comp N M i).pushCell (ux_ic comp M)).setCell T.heap.size _).heap[a]? = _
      have ha2 : a < (ux_z T ca comp N M i).heap.size := by omega
      rw [State.heap_setCell_other (Nat.ne_of_gt ha), State.heap_pushCell_of_lt (h := ha2)]
      exact h5 a ha
theorem ux_z_top (T : State) (f : JFrame) (ca comp : ClassId) (N M : Nat) : ∀ i, ux_z (T.setTop f) ca comp N M i = (ux_z T ca comp N M i).setTop f
  | 0 => rfl
  | i + 1 => by simp only [ux_z, ux_z_top T f ca comp N M i, State.heap_setTop, State.pushCell_setTop, State.setCell_setTop]
theorem ux_refFits {t : FieldType} (h : t.isReference = true) (v : Value) (hv : v = .null ∨ ∃ a, v = .ref a) : fits t v = true := by
  rcases hv with rfl | ⟨a, rfl⟩ <;> cases t <;> simp [FieldType.isReference] at h <;> rfl
section UXL
variable {E : CtlPost} {e : Env} {d : Bool} {acts : List Action} {s : State}
theorem ux_wpInner {comp cc : ClassId} {k : Class} {n : Int32} (hk : s.vm.classes[comp]? = some k) (hkind : k.kind = .array cc .byte) (hn : ¬ n < 0) (h1 : ¬ n.toNatClampNeg > e.platform.arrayLengthLimit) (h2 : ¬ n.toNatClampNeg * componentBytes .byte > e.platform.maxHeapBytes)
    (hc : s.heap.size < e.platform.maxCells) (hs : s.slotsUsed + n.toNatClampNeg ≤ e.platform.maxSlots) {Q : Addr → Pre} (hq : Q s.heap.size d acts (s.pushCell (ux_ic comp n.toNatClampNeg))) : wp (multianewarray.make comp [n]) Q E e d acts s := by
  rw [multianewarray.make]
  simp only [wp_bind', W.ite, hn, if_false, wp_pure', W.theClass, hk, hkind, Option.some.injEq, exists_eq_left']
  exact ux_wpNew hk hkind h1 h2 rfl rfl hc hs hq
theorem ux_wpMake {ca comp cc : ClassId} {kA kC : Class} {n k : Int32} (hkA : s.vm.classes[ca]? = some kA) (hA : kA.kind = .array comp (.array .byte)) (hkC : s.vm.classes[comp]? = some kC) (hC : kC.kind = .array cc .byte) (hn : ¬ n < 0) (hk : ¬ k < 0)
    (h1 : ¬ n.toNatClampNeg > e.platform.arrayLengthLimit) (h2 : ¬ n.toNatClampNeg * componentBytes (.array .byte) > e.platform.maxHeapBytes) (h3 : ¬ k.toNatClampNeg > e.platform.arrayLengthLimit) (h4 : ¬ k.toNatClampNeg * componentBytes .byte > e.platform.maxHeapBytes)
    (hc : s.heap.size + 1 + n.toNatClampNeg ≤ e.platform.maxCells) (hs : s.slotsUsed + n.toNatClampNeg + n.toNatClampNeg * k.toNatClampNeg ≤ e.platform.maxSlots)
    {Q : Addr → Pre} (hq : ∀ d' acts', Q s.heap.size d' acts' (ux_z s ca comp n.toNatClampNeg k.toNatClampNeg n.toNatClampNeg)) : wp (multianewarray.make ca [n, k]) Q E e d acts s := by
  have hfind : ([k].find? (· < 0)) = none := by simp [hk]
  generalize hN : n.toNatClampNeg = N at h1 h2 hc hs hq
  rw [multianewarray.make]
  simp only [wp_bind', W.ite, hn, if_false, wp_pure', W.theClass, hkA, hA, Option.some.injEq, exists_eq_left', hN]
  refine ux_wpNew hkA hA h1 h2 rfl rfl (by omega) (by have := Nat.zero_le (N * k.toNatClampNeg); omega) ?_
  simp only [hfind]
  rw [ite_self, wp_bind', Std.Legacy.Range.forIn_eq_forIn_range']
  have hsz : ([:N] : Std.Legacy.Range).size = N := by simp [Std.Legacy.Range.size]
  rw [hsz]
  show wp (forIn (List.range' 0 N 1) PUnit.unit _) _ E e d acts _
  refine wp_forIn_inv (fun l u => ∃ i, i ≤ N ∧ l = List.range' i (N - i) ∧ u = ux_z s ca comp N k.toNatClampNeg i) _ _ ⟨0, Nat.zero_le _, rfl, rfl⟩ ?_ ?_
  · rintro x l u d' acts' Q' ⟨i, hi, hl, rfl⟩ hnext
    have hlt : i < N := by
      rcases Nat.lt_or_ge i N with h | h
      · exact h
      · rw [show N - i = 0 by omega] at hl; cases hl
    rw [show N - i = (N - (i + 1)) + 1 by omega, List.range'_succ] at hl
    obtain ⟨rfl, rfl⟩ := List.cons.inj hl
    obtain ⟨f1, f2, f3, f4, f5⟩ := ux_z_facts s ca comp N k.toNatClampNeg x
    obtain ⟨o1, o2, o3⟩ := ux_oc_facts ca N s.heap.size x
    have hmul : x * k.toNatClampNeg + k.toNatClampNeg ≤ N * k.toNatClampNeg := by
      have := Nat.mul_le_mul_right k.toNatClampNeg (show x + 1 ≤ N from hlt)
      rw [Nat.succ_mul] at this
      exact this
    simp only [wp_bind']
    refine ux_wpInner (by rw [f3]; exact hkC) hC hk h3 h4 (by rw [f1]; omega) (by rw [f4]; omega) ?_
    have hlt0 : s.heap.size < (ux_z s ca comp N k.toNatClampNeg x).heap.size := by rw [f1]; omega
    simp only [wp_bind', W.writeLoc, wp_pure']
    refine ⟨ux_oc ca N s.heap.size x, by rw [State.heap_pushCell_of_lt (h := hlt0)]; exact f2, by rw [o2]; simp, by rw [o3]; exact hlt, ?_, hnext _ _ _ ⟨x + 1, hlt, rfl, ?_⟩⟩
    · rw [o1, o2]
      simp [State.fitsSlot, State.slotType?, f3, hkA, hA]
      exact ux_refFits (t := .array .byte) rfl _ (Or.inr ⟨_, rfl⟩)
    · rw [f1]; rfl
  · rintro u d' acts' ⟨i, hi, hl, rfl⟩
    have hiN : i = N := by
      rcases Nat.lt_or_ge i N with h | h
      · rw [show N - i = (N - (i + 1)) + 1 by omega, List.range'_succ] at hl; cases hl
      · omega
    subst hiN
    simp only [wp_pure']
    exact hq _ _
end UXL
section UXN
variable {p : Program} {l : Launch} {e : Env} {R : Room} {s : State} {m : MethodId} {args : Array Value} {below : List Frame} {meth : Method} {c : Code} {H : Heap} {locs : List Loc} {cells slots : Nat} {Q : State → Prop}
theorem ux_z_stand {T : State} (X : Stand p l e R s m args below meth c T locs cells slots) (ca comp : ClassId) (N M : Nat) :
    ∀ i, Stand p l e R s m args below meth c (ux_z T ca comp N M i) (locs ++ (List.range i).map fun j => ⟨T.heap.size, j⟩) (cells + 1 + i) (slots + N + i * M)
  | 0 => by
    have h := X.pushed (ux_oc ca N T.heap.size 0)
    rw [(ux_oc_facts ca N T.heap.size 0).2.2] at h
    simpa [ux_z] using h
  | i + 1 => by
    have Xi := ux_z_stand X ca comp N M i
    obtain ⟨f1, f2, f3, f4, f5⟩ := ux_z_facts T ca comp N M i
    have hlt0 : T.heap.size < (ux_z T ca comp N M i).heap.size := by rw [f1]; omega
    have hcell : ((ux_z T ca comp N M i).pushCell (ux_ic comp M)).heap[T.heap.size]? = some (ux_oc ca N T.heap.size i) := by rw [State.heap_pushCell_of_lt (h := hlt0)]; exact f2
    have h := (Xi.pushed (ux_ic comp M)).stored hcell i (.ref (T.heap.size + 1 + i))
    have e1 : (ux_ic comp M).slots.size = M := by simp [ux_ic]
    rw [e1] at h
    have e2 : (locs ++ (List.range (i + 1)).map fun j => (⟨T.heap.size, j⟩ : Loc)) = (locs ++ (List.range i).map fun j => (⟨T.heap.size, j⟩ : Loc)) ++ [⟨T.heap.size, i⟩] := by simp [List.range_succ, List.append_assoc]
    have e3 : slots + N + (i + 1) * M = slots + N + i * M + M := by rw [Nat.succ_mul]; omega
    rw [e2, e3]
    exact h
theorem ux_multi {cc : ByteArray} {own : String} {index pc N M : Nat} {n k : Int32} {ls : Array Slot} {rest : List Value} {D : va_G} {cl : List vw_C} {ws : va_W} {A : Nat → Prop} {H0 : Heap}
    (hexec : p.tables.exec = Jvm.exec) (hb : c.code = cc) (hown : s.vm.findClass own = some m.cls) (hcl : (Cond.classLink own index "[[B").before args s = true) (hover : (Cond.arrayOver (.array .byte)).before args s = true) (harr : (Cond.arrayClass .byte).before args s = true)
    (hP : va_P D cl ws H) (hS : va_S A H0 H locs) (hA : ∀ q, H0.size ≤ q → A q)
    (hn : ¬ n < 0) (hk : ¬ k < 0) (hN : n.toNatClampNeg = N) (hM : k.toNatClampNeg = M) (hb1 : N ≤ 1000000) (hb2 : M ≤ 1000000) (hcells : cells + (1 + N) ≤ R.cells) (hslots : slots + (N + N * M) ≤ R.slots) (hdg : decode cc pc = .ok (.multianewarray index 2, 4))
    (kk : ∀ (q : Nat) (H1 : Heap) (locs1 : List Loc), va_P D cl ws H1 → va_S A H0 H1 locs1 → W p l e R s m args below meth c H1 locs1 (cells + 1 + N) (slots + N + N * M) Q (F0 m (pc + 4) ls (.ref q :: rest))) :
    W p l e R s m args below meth c H locs cells slots Q (F0 m pc ls (.int k :: .int n :: rest)) := by
  intro T hT X
  subst hb
  subst hN
  subst hM
  have hpl : e.platform.magicAccessors = ({} : Platform).magicAccessors := by rw [X.admits.platform]
  obtain ⟨comp, ca, kA, hcomp, -, hkA, hkindA, hnameA⟩ := ux_over_spec hover
  obtain ⟨comp', kC, cc', hcomp', hkC, hkindC⟩ := Cond.arrayClass_spec harr
  have ec : comp' = comp := Option.some.inj (hcomp'.symm.trans hcomp)
  subst ec
  obtain ⟨c0, hfc0, hcl0⟩ := Cond.classLink_spec hown hcl e.platform hpl
  have e0 : c0 = ca := Option.some.inj (hfc0.symm.trans hnameA)
  subst e0
  obtain ⟨hg1, hwarm, -⟩ := State.classEntry (e := e) X.warmed hcl0
  generalize T.vm.noted m.cls index (.cls c0) = vm1 at hg1 hwarm
  obtain ⟨kA1, hkA1, heA⟩ := hwarm.alike.2.2 _ _ hkA
  obtain ⟨kC1, hkC1, heC⟩ := hwarm.alike.2.2 _ _ hkC
  have hkA2 : kA1.kind = .array comp' (.array .byte) := by rw [heA]; exact hkindA
  have hkC2 : kC1.kind = .array cc' .byte := by rw [heC]; exact hkindC
  have X1 := X.noted hwarm
  have XF := ux_z_stand X1 c0 comp' n.toNatClampNeg k.toNatClampNeg n.toNatClampNeg
  obtain ⟨f1, f2, f3, f4, f5⟩ := ux_z_facts (T.setVm vm1) c0 comp' n.toNatClampNeg k.toNatClampNeg n.toNatClampNeg
  have hTh : (T.setVm vm1).heap = H := hT
  rw [hTh] at f1 f5
  have hPz : va_P D cl ws (ux_z (T.setVm vm1) c0 comp' n.toNatClampNeg k.toNatClampNeg n.toNatClampNeg).heap := hP.kept (fun i q hq => f5 q.1 ((hP i q hq).lt))
  have hSz : va_S A H0 (ux_z (T.setVm vm1) c0 comp' n.toNatClampNeg k.toNatClampNeg n.toNatClampNeg).heap (locs ++ (List.range n.toNatClampNeg).map fun j => ⟨(T.setVm vm1).heap.size, j⟩) := by
    refine ⟨Nat.le_trans hS.1 (by rw [f1]; omega), fun q h1 h2 => by rw [f5 q (Nat.lt_of_lt_of_le h1 hS.1)]; exact hS.2.1 q h1 h2, fun q hq => ?_⟩
    rcases List.mem_append.mp hq with h | h
    · exact hS.2.2 q h
    · obtain ⟨j, -, rfl⟩ := List.mem_map.mp h
      exact hA _ (by show H0.size ≤ (T.setVm vm1).heap.size; rw [hTh]; exact hS.1)
  obtain ⟨t, a1, b1⟩ := kk T.heap.size _ _ hPz hSz _ rfl XF
  refine ⟨t, ?_, b1⟩
  obtain ⟨hr1, hr2⟩ := X.roomAbove hcells hslots
  have hl1 : ¬ n.toNatClampNeg > e.platform.arrayLengthLimit := by rw [Launch.admits_arrayLengthLimit X.admits]; omega
  have hh1 : ¬ n.toNatClampNeg * componentBytes (.array .byte) > e.platform.maxHeapBytes := by
    rw [Launch.admits_maxHeapBytes X.admits]; show ¬ n.toNatClampNeg * 4 > 536870912; omega
  have hl2 : ¬ k.toNatClampNeg > e.platform.arrayLengthLimit := by rw [Launch.admits_arrayLengthLimit X.admits]; omega
  have hh2 : ¬ k.toNatClampNeg * componentBytes .byte > e.platform.maxHeapBytes := by
    rw [Launch.admits_maxHeapBytes X.admits]; show ¬ k.toNatClampNeg * 1 > 536870912; omega
  jvm_step X.here [hexec, hdg]
  simp only [multianewarray.sem, wp_bind', W.resolveClassAt_links (State.method?_setTop (F0 m pc ls (.int k :: .int n :: rest)) X.here.top) hg1]
  rw [W.popN, if_neg (by decide)]
  refine ⟨F0 m pc ls (.int k :: .int n :: rest), State.topJava?_setTop' (s := T.setVm vm1) _ X.here.top, [.int n, .int k], rest, rfl, rfl, ?_⟩
  simp only [List.mapM_cons, List.mapM_nil, wp_bind', wp_pure']
  refine ux_wpMake (kA := kA1) (kC := kC1) (comp := comp') (cc := cc') hkA1 hkA2 hkC1 hkC2 hn hk hl1 hh1 hl2 hh2 (by show T.heap.size + 1 + _ ≤ _; omega) (by show T.slotsUsed + _ + _ ≤ _; omega) (fun d' acts' => ?_)
  have eS : ((T.setTop (F0 m pc ls (.int k :: .int n :: rest))).setVm vm1).setTop { (F0 m pc ls (.int k :: .int n :: rest)) with stack := rest } = (T.setVm vm1).setTop { (F0 m pc ls (.int k :: .int n :: rest)) with stack := rest } := by
    show ((T.setVm vm1).setTop _).setTop _ = _
    rw [State.setTop_setTop]
  rw [eS, ux_z_top]
  simp only [wp_bind', W.mark, W.pushRef, State.topJava?_setTop' _ XF.here.top, Option.some.injEq, exists_eq_left', State.setTop_setTop, State.heap_setTop]
  intro acts
  simp [jvm, XF.here.top]
  exact a1
end UXN
theorem i_vc : Claimed_1_1 ∧ Claimed_1_2 := sorry
end
