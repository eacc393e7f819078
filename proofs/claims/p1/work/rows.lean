section
-- ===== PART A: goes FIRST, ahead of the names: the tables' words, and 'selects' of the private methods out of them =====
/-- a private method of a class that the tables say can be made, by its rows of tables_1 -/
def lw_okq (q : MethodName × Nat) : Prop := (q.1.cls ≠ "java/lang/invoke/MethodHandle" ∧ q.1.cls ≠ "java/lang/invoke/VarHandle") ∧ Cond.instantiable q.1.cls q.2 ∈ tables_1 ∧ Cond.privateMethod q.1 ∈ tables_1 ∧ Cond.instanceMethod q.1 ∈ tables_1
theorem lw_p0 : lw_okq (⟨"java/lang/Throwable", "fillInStackTrace", "(I)Ljava/lang/Throwable;"⟩, 6) := ⟨⟨by decide +kernel, by decide +kernel⟩, List.mem_of_getElem? (i := 535) (by decide +kernel), List.mem_of_getElem? (i := 533) (by decide +kernel), List.mem_of_getElem? (i := 534) (by decide +kernel)⟩
theorem lw_p1 : lw_okq (⟨"UnikernelHttp", "isForMe", "(I)Z"⟩, 14) := ⟨⟨by decide +kernel, by decide +kernel⟩, List.mem_of_getElem? (i := 35) (by decide +kernel), List.mem_of_getElem? (i := 594) (by decide +kernel), List.mem_of_getElem? (i := 595) (by decide +kernel)⟩
theorem lw_p2 : lw_okq (⟨"UnikernelHttp", "takeArp", "(I)V"⟩, 14) := ⟨⟨by decide +kernel, by decide +kernel⟩, List.mem_of_getElem? (i := 35) (by decide +kernel), List.mem_of_getElem? (i := 610) (by decide +kernel), List.mem_of_getElem? (i := 611) (by decide +kernel)⟩
theorem lw_p3 : lw_okq (⟨"UnikernelHttp$Neighbours", "hear", "(IJ)V"⟩, 5) := ⟨⟨by decide +kernel, by decide +kernel⟩, List.mem_of_getElem? (i := 43) (by decide +kernel), List.mem_of_getElem? (i := 616) (by decide +kernel), List.mem_of_getElem? (i := 617) (by decide +kernel)⟩
theorem lw_p4 : lw_okq (⟨"UnikernelHttp$Neighbours", "indexOf", "(I)I"⟩, 5) := ⟨⟨by decide +kernel, by decide +kernel⟩, List.mem_of_getElem? (i := 43) (by decide +kernel), List.mem_of_getElem? (i := 620) (by decide +kernel), List.mem_of_getElem? (i := 621) (by decide +kernel)⟩
theorem lw_p5 : lw_okq (⟨"UnikernelHttp$Neighbours", "freePlace", "()I"⟩, 5) := ⟨⟨by decide +kernel, by decide +kernel⟩, List.mem_of_getElem? (i := 43) (by decide +kernel), List.mem_of_getElem? (i := 624) (by decide +kernel), List.mem_of_getElem? (i := 625) (by decide +kernel)⟩
theorem lw_p6 : lw_okq (⟨"UnikernelHttp$Wire", "sendArpAnswer", "(JI)V"⟩, 5) := ⟨⟨by decide +kernel, by decide +kernel⟩, List.mem_of_getElem? (i := 70) (by decide +kernel), List.mem_of_getElem? (i := 628) (by decide +kernel), List.mem_of_getElem? (i := 629) (by decide +kernel)⟩
theorem lw_p7 : lw_okq (⟨"UnikernelHttp$Wire", "beginFrame", "(JII)I"⟩, 5) := ⟨⟨by decide +kernel, by decide +kernel⟩, List.mem_of_getElem? (i := 70) (by decide +kernel), List.mem_of_getElem? (i := 632) (by decide +kernel), List.mem_of_getElem? (i := 633) (by decide +kernel)⟩
theorem lw_p8 : lw_okq (⟨"UnikernelHttp", "isGoodPacket", "(I)Z"⟩, 14) := ⟨⟨by decide +kernel, by decide +kernel⟩, List.mem_of_getElem? (i := 35) (by decide +kernel), List.mem_of_getElem? (i := 650) (by decide +kernel), List.mem_of_getElem? (i := 651) (by decide +kernel)⟩
theorem lw_p9 : lw_okq (⟨"UnikernelHttp", "fillsDatagram", "()Z"⟩, 14) := ⟨⟨by decide +kernel, by decide +kernel⟩, List.mem_of_getElem? (i := 35) (by decide +kernel), List.mem_of_getElem? (i := 667) (by decide +kernel), List.mem_of_getElem? (i := 668) (by decide +kernel)⟩
theorem lw_p10 : lw_okq (⟨"UnikernelHttp$Gatherings", "take", "([BIII)LUnikernelHttp$Gathering;"⟩, 2) := ⟨⟨by decide +kernel, by decide +kernel⟩, List.mem_of_getElem? (i := 96) (by decide +kernel), List.mem_of_getElem? (i := 671) (by decide +kernel), List.mem_of_getElem? (i := 672) (by decide +kernel)⟩
theorem lw_p11 : lw_okq (⟨"UnikernelHttp$Gatherings", "indexOf", "([B)I"⟩, 2) := ⟨⟨by decide +kernel, by decide +kernel⟩, List.mem_of_getElem? (i := 96) (by decide +kernel), List.mem_of_getElem? (i := 676) (by decide +kernel), List.mem_of_getElem? (i := 677) (by decide +kernel)⟩
theorem lw_p12 : lw_okq (⟨"UnikernelHttp$Gathering", "isOf", "([B)Z"⟩, 9) := ⟨⟨by decide +kernel, by decide +kernel⟩, List.mem_of_getElem? (i := 103) (by decide +kernel), List.mem_of_getElem? (i := 680) (by decide +kernel), List.mem_of_getElem? (i := 681) (by decide +kernel)⟩
theorem lw_p13 : lw_okq (⟨"UnikernelHttp$Gatherings", "drop", "(I)V"⟩, 2) := ⟨⟨by decide +kernel, by decide +kernel⟩, List.mem_of_getElem? (i := 96) (by decide +kernel), List.mem_of_getElem? (i := 687) (by decide +kernel), List.mem_of_getElem? (i := 688) (by decide +kernel)⟩
theorem lw_p14 : lw_okq (⟨"UnikernelHttp$Gatherings", "begin", "([BI)I"⟩, 2) := ⟨⟨by decide +kernel, by decide +kernel⟩, List.mem_of_getElem? (i := 96) (by decide +kernel), List.mem_of_getElem? (i := 691) (by decide +kernel), List.mem_of_getElem? (i := 692) (by decide +kernel)⟩
theorem lw_p15 : lw_okq (⟨"UnikernelHttp$Gathering", "begin", "([BI)V"⟩, 9) := ⟨⟨by decide +kernel, by decide +kernel⟩, List.mem_of_getElem? (i := 103) (by decide +kernel), List.mem_of_getElem? (i := 695) (by decide +kernel), List.mem_of_getElem? (i := 696) (by decide +kernel)⟩
def lw_privs_1 : List (MethodName × Nat) := [(⟨"java/lang/Throwable", "fillInStackTrace", "(I)Ljava/lang/Throwable;"⟩, 6), (⟨"UnikernelHttp", "isForMe", "(I)Z"⟩, 14), (⟨"UnikernelHttp", "takeArp", "(I)V"⟩, 14), (⟨"UnikernelHttp$Neighbours", "hear", "(IJ)V"⟩, 5), (⟨"UnikernelHttp$Neighbours", "indexOf", "(I)I"⟩, 5), (⟨"UnikernelHttp$Neighbours", "freePlace", "()I"⟩, 5), (⟨"UnikernelHttp$Wire", "sendArpAnswer", "(JI)V"⟩, 5), (⟨"UnikernelHttp$Wire", "beginFrame", "(JII)I"⟩, 5), (⟨"UnikernelHttp", "isGoodPacket", "(I)Z"⟩, 14), (⟨"UnikernelHttp", "fillsDatagram", "()Z"⟩, 14), (⟨"UnikernelHttp$Gatherings", "take", "([BIII)LUnikernelHttp$Gathering;"⟩, 2), (⟨"UnikernelHttp$Gatherings", "indexOf", "([B)I"⟩, 2), (⟨"UnikernelHttp$Gathering", "isOf", "([B)Z"⟩, 9), (⟨"UnikernelHttp$Gatherings", "drop", "(I)V"⟩, 2), (⟨"UnikernelHttp$Gatherings", "begin", "([BI)I"⟩, 2), (⟨"UnikernelHttp$Gathering", "begin", "([BI)V"⟩, 9)]
theorem lw_r1 : ∀ q ∈ lw_privs_1, lw_okq q := List.forall_mem_cons.mpr ⟨lw_p0, List.forall_mem_cons.mpr ⟨lw_p1, List.forall_mem_cons.mpr ⟨lw_p2, List.forall_mem_cons.mpr ⟨lw_p3, List.forall_mem_cons.mpr ⟨lw_p4, List.forall_mem_cons.mpr ⟨lw_p5, List.forall_mem_cons.mpr ⟨lw_p6, List.forall_mem_cons.mpr ⟨lw_p7, List.forall_mem_cons.mpr ⟨lw_p8, List.forall_mem_cons.mpr ⟨lw_p9, List.forall_mem_cons.mpr ⟨lw_p10, List.forall_mem_cons.mpr ⟨lw_p11, List.forall_mem_cons.mpr ⟨lw_p12, List.forall_mem_cons.mpr ⟨lw_p13, List.forall_mem_cons.mpr ⟨lw_p14, List.forall_mem_cons.mpr ⟨lw_p15, fun _ h => absurd h List.not_mem_nil⟩⟩⟩⟩⟩⟩⟩⟩⟩⟩⟩⟩⟩⟩⟩⟩
theorem lw_p16 : lw_okq (⟨"UnikernelHttp$Gathering", "keep", "([BIII)V"⟩, 9) := ⟨⟨by decide +kernel, by decide +kernel⟩, List.mem_of_getElem? (i := 103) (by decide +kernel), List.mem_of_getElem? (i := 702) (by decide +kernel), List.mem_of_getElem? (i := 703) (by decide +kernel)⟩
theorem lw_p17 : lw_okq (⟨"UnikernelHttp", "takeEcho", "()V"⟩, 14) := ⟨⟨by decide +kernel, by decide +kernel⟩, List.mem_of_getElem? (i := 35) (by decide +kernel), List.mem_of_getElem? (i := 709) (by decide +kernel), List.mem_of_getElem? (i := 710) (by decide +kernel)⟩
theorem lw_p18 : lw_okq (⟨"UnikernelHttp$Wire", "sendPacket", "(II[BI)V"⟩, 5) := ⟨⟨by decide +kernel, by decide +kernel⟩, List.mem_of_getElem? (i := 70) (by decide +kernel), List.mem_of_getElem? (i := 720) (by decide +kernel), List.mem_of_getElem? (i := 721) (by decide +kernel)⟩
theorem lw_p19 : lw_okq (⟨"UnikernelHttp", "takeSegment", "()V"⟩, 14) := ⟨⟨by decide +kernel, by decide +kernel⟩, List.mem_of_getElem? (i := 35) (by decide +kernel), List.mem_of_getElem? (i := 730) (by decide +kernel), List.mem_of_getElem? (i := 731) (by decide +kernel)⟩
theorem lw_p20 : lw_okq (⟨"UnikernelHttp$Segment", "read", "([BIII)Z"⟩, 12) := ⟨⟨by decide +kernel, by decide +kernel⟩, List.mem_of_getElem? (i := 151) (by decide +kernel), List.mem_of_getElem? (i := 734) (by decide +kernel), List.mem_of_getElem? (i := 735) (by decide +kernel)⟩
theorem lw_p21 : lw_okq (⟨"UnikernelHttp$Segment", "has", "(I)Z"⟩, 12) := ⟨⟨by decide +kernel, by decide +kernel⟩, List.mem_of_getElem? (i := 151) (by decide +kernel), List.mem_of_getElem? (i := 746) (by decide +kernel), List.mem_of_getElem? (i := 747) (by decide +kernel)⟩
theorem lw_p22 : lw_okq (⟨"UnikernelHttp$Segment", "readOptions", "(II)V"⟩, 12) := ⟨⟨by decide +kernel, by decide +kernel⟩, List.mem_of_getElem? (i := 151) (by decide +kernel), List.mem_of_getElem? (i := 750) (by decide +kernel), List.mem_of_getElem? (i := 751) (by decide +kernel)⟩
theorem lw_p23 : lw_okq (⟨"UnikernelHttp$Tcp", "find", "(II)LUnikernelHttp$Connection;"⟩, 5) := ⟨⟨by decide +kernel, by decide +kernel⟩, List.mem_of_getElem? (i := 215) (by decide +kernel), List.mem_of_getElem? (i := 758) (by decide +kernel), List.mem_of_getElem? (i := 759) (by decide +kernel)⟩
theorem lw_p24 : lw_okq (⟨"UnikernelHttp$Tcp", "takeStranger", "(LUnikernelHttp$Segment;I)V"⟩, 5) := ⟨⟨by decide +kernel, by decide +kernel⟩, List.mem_of_getElem? (i := 215) (by decide +kernel), List.mem_of_getElem? (i := 762) (by decide +kernel), List.mem_of_getElem? (i := 763) (by decide +kernel)⟩
theorem lw_p25 : lw_okq (⟨"UnikernelHttp$Tcp", "sendReset", "(LUnikernelHttp$Segment;III)V"⟩, 5) := ⟨⟨by decide +kernel, by decide +kernel⟩, List.mem_of_getElem? (i := 215) (by decide +kernel), List.mem_of_getElem? (i := 767) (by decide +kernel), List.mem_of_getElem? (i := 768) (by decide +kernel)⟩
theorem lw_p26 : lw_okq (⟨"UnikernelHttp$Tcp", "writeHeader", "(IIIIII)V"⟩, 5) := ⟨⟨by decide +kernel, by decide +kernel⟩, List.mem_of_getElem? (i := 215) (by decide +kernel), List.mem_of_getElem? (i := 771) (by decide +kernel), List.mem_of_getElem? (i := 772) (by decide +kernel)⟩
theorem lw_p27 : lw_okq (⟨"UnikernelHttp$Tcp", "seal", "(II)V"⟩, 5) := ⟨⟨by decide +kernel, by decide +kernel⟩, List.mem_of_getElem? (i := 215) (by decide +kernel), List.mem_of_getElem? (i := 777) (by decide +kernel), List.mem_of_getElem? (i := 778) (by decide +kernel)⟩
theorem lw_p28 : lw_okq (⟨"UnikernelHttp$Connection", "begin", "(LUnikernelHttp$Segment;II)V"⟩, 17) := ⟨⟨by decide +kernel, by decide +kernel⟩, List.mem_of_getElem? (i := 222) (by decide +kernel), List.mem_of_getElem? (i := 786) (by decide +kernel), List.mem_of_getElem? (i := 787) (by decide +kernel)⟩
theorem lw_p29 : lw_okq (⟨"UnikernelHttp$Inbox", "begin", "(I)V"⟩, 7) := ⟨⟨by decide +kernel, by decide +kernel⟩, List.mem_of_getElem? (i := 228) (by decide +kernel), List.mem_of_getElem? (i := 790) (by decide +kernel), List.mem_of_getElem? (i := 791) (by decide +kernel)⟩
theorem lw_p30 : lw_okq (⟨"UnikernelHttp$Outbox", "begin", "(I)V"⟩, 5) := ⟨⟨by decide +kernel, by decide +kernel⟩, List.mem_of_getElem? (i := 263) (by decide +kernel), List.mem_of_getElem? (i := 795) (by decide +kernel), List.mem_of_getElem? (i := 796) (by decide +kernel)⟩
theorem lw_p31 : lw_okq (⟨"UnikernelHttp$Connection", "takeWindow", "(LUnikernelHttp$Segment;)V"⟩, 17) := ⟨⟨by decide +kernel, by decide +kernel⟩, List.mem_of_getElem? (i := 222) (by decide +kernel), List.mem_of_getElem? (i := 799) (by decide +kernel), List.mem_of_getElem? (i := 800) (by decide +kernel)⟩
def lw_privs_2 : List (MethodName × Nat) := [(⟨"UnikernelHttp$Gathering", "keep", "([BIII)V"⟩, 9), (⟨"UnikernelHttp", "takeEcho", "()V"⟩, 14), (⟨"UnikernelHttp$Wire", "sendPacket", "(II[BI)V"⟩, 5), (⟨"UnikernelHttp", "takeSegment", "()V"⟩, 14), (⟨"UnikernelHttp$Segment", "read", "([BIII)Z"⟩, 12), (⟨"UnikernelHttp$Segment", "has", "(I)Z"⟩, 12), (⟨"UnikernelHttp$Segment", "readOptions", "(II)V"⟩, 12), (⟨"UnikernelHttp$Tcp", "find", "(II)LUnikernelHttp$Connection;"⟩, 5), (⟨"UnikernelHttp$Tcp", "takeStranger", "(LUnikernelHttp$Segment;I)V"⟩, 5), (⟨"UnikernelHttp$Tcp", "sendReset", "(LUnikernelHttp$Segment;III)V"⟩, 5), (⟨"UnikernelHttp$Tcp", "writeHeader", "(IIIIII)V"⟩, 5), (⟨"UnikernelHttp$Tcp", "seal", "(II)V"⟩, 5), (⟨"UnikernelHttp$Connection", "begin", "(LUnikernelHttp$Segment;II)V"⟩, 17), (⟨"UnikernelHttp$Inbox", "begin", "(I)V"⟩, 7), (⟨"UnikernelHttp$Outbox", "begin", "(I)V"⟩, 5), (⟨"UnikernelHttp$Connection", "takeWindow", "(LUnikernelHttp$Segment;)V"⟩, 17)]
theorem lw_r2 : ∀ q ∈ lw_privs_2, lw_okq q := List.forall_mem_cons.mpr ⟨lw_p16, List.forall_mem_cons.mpr ⟨lw_p17, List.forall_mem_cons.mpr ⟨lw_p18, List.forall_mem_cons.mpr ⟨lw_p19, List.forall_mem_cons.mpr ⟨lw_p20, List.forall_mem_cons.mpr ⟨lw_p21, List.forall_mem_cons.mpr ⟨lw_p22, List.forall_mem_cons.mpr ⟨lw_p23, List.forall_mem_cons.mpr ⟨lw_p24, List.forall_mem_cons.mpr ⟨lw_p25, List.forall_mem_cons.mpr ⟨lw_p26, List.forall_mem_cons.mpr ⟨lw_p27, List.forall_mem_cons.mpr ⟨lw_p28, List.forall_mem_cons.mpr ⟨lw_p29, List.forall_mem_cons.mpr ⟨lw_p30, List.forall_mem_cons.mpr ⟨lw_p31, fun _ h => absurd h List.not_mem_nil⟩⟩⟩⟩⟩⟩⟩⟩⟩⟩⟩⟩⟩⟩⟩⟩
theorem lw_p32 : lw_okq (⟨"UnikernelHttp$Connection", "startTimer", "(I)V"⟩, 17) := ⟨⟨by decide +kernel, by decide +kernel⟩, List.mem_of_getElem? (i := 222) (by decide +kernel), List.mem_of_getElem? (i := 804) (by decide +kernel), List.mem_of_getElem? (i := 805) (by decide +kernel)⟩
theorem lw_p33 : lw_okq (⟨"UnikernelHttp$Tcp", "sendSyn", "(LUnikernelHttp$Connection;)V"⟩, 5) := ⟨⟨by decide +kernel, by decide +kernel⟩, List.mem_of_getElem? (i := 215) (by decide +kernel), List.mem_of_getElem? (i := 809) (by decide +kernel), List.mem_of_getElem? (i := 810) (by decide +kernel)⟩
theorem lw_p34 : lw_okq (⟨"UnikernelHttp$Inbox", "window", "()I"⟩, 7) := ⟨⟨by decide +kernel, by decide +kernel⟩, List.mem_of_getElem? (i := 228) (by decide +kernel), List.mem_of_getElem? (i := 813) (by decide +kernel), List.mem_of_getElem? (i := 814) (by decide +kernel)⟩
theorem lw_p35 : lw_okq (⟨"UnikernelHttp$Tcp", "accepts", "(LUnikernelHttp$Connection;LUnikernelHttp$Segment;)Z"⟩, 5) := ⟨⟨by decide +kernel, by decide +kernel⟩, List.mem_of_getElem? (i := 215) (by decide +kernel), List.mem_of_getElem? (i := 818) (by decide +kernel), List.mem_of_getElem? (i := 819) (by decide +kernel)⟩
theorem lw_p36 : lw_okq (⟨"UnikernelHttp$Inbox", "fits", "(LUnikernelHttp$Segment;)Z"⟩, 7) := ⟨⟨by decide +kernel, by decide +kernel⟩, List.mem_of_getElem? (i := 228) (by decide +kernel), List.mem_of_getElem? (i := 822) (by decide +kernel), List.mem_of_getElem? (i := 823) (by decide +kernel)⟩
theorem lw_p37 : lw_okq (⟨"UnikernelHttp$Inbox", "isInWindow", "(I)Z"⟩, 7) := ⟨⟨by decide +kernel, by decide +kernel⟩, List.mem_of_getElem? (i := 228) (by decide +kernel), List.mem_of_getElem? (i := 826) (by decide +kernel), List.mem_of_getElem? (i := 827) (by decide +kernel)⟩
theorem lw_p38 : lw_okq (⟨"UnikernelHttp$Tcp", "sendAck", "(LUnikernelHttp$Connection;)V"⟩, 5) := ⟨⟨by decide +kernel, by decide +kernel⟩, List.mem_of_getElem? (i := 215) (by decide +kernel), List.mem_of_getElem? (i := 831) (by decide +kernel), List.mem_of_getElem? (i := 832) (by decide +kernel)⟩
theorem lw_p39 : lw_okq (⟨"UnikernelHttp$Tcp", "sendBytes", "(LUnikernelHttp$Connection;III)V"⟩, 5) := ⟨⟨by decide +kernel, by decide +kernel⟩, List.mem_of_getElem? (i := 215) (by decide +kernel), List.mem_of_getElem? (i := 835) (by decide +kernel), List.mem_of_getElem? (i := 836) (by decide +kernel)⟩
theorem lw_p40 : lw_okq (⟨"UnikernelHttp$Tcp", "remove", "(LUnikernelHttp$Connection;)V"⟩, 5) := ⟨⟨by decide +kernel, by decide +kernel⟩, List.mem_of_getElem? (i := 215) (by decide +kernel), List.mem_of_getElem? (i := 840) (by decide +kernel), List.mem_of_getElem? (i := 841) (by decide +kernel)⟩
theorem lw_p41 : lw_okq (⟨"UnikernelHttp$Connection", "open", "(LUnikernelHttp$Segment;)V"⟩, 17) := ⟨⟨by decide +kernel, by decide +kernel⟩, List.mem_of_getElem? (i := 222) (by decide +kernel), List.mem_of_getElem? (i := 844) (by decide +kernel), List.mem_of_getElem? (i := 845) (by decide +kernel)⟩
theorem lw_p42 : lw_okq (⟨"UnikernelHttp$Outbox", "acknowledge", "(I)V"⟩, 5) := ⟨⟨by decide +kernel, by decide +kernel⟩, List.mem_of_getElem? (i := 263) (by decide +kernel), List.mem_of_getElem? (i := 848) (by decide +kernel), List.mem_of_getElem? (i := 849) (by decide +kernel)⟩
theorem lw_p43 : lw_okq (⟨"UnikernelHttp$Connection", "endTimer", "()V"⟩, 17) := ⟨⟨by decide +kernel, by decide +kernel⟩, List.mem_of_getElem? (i := 222) (by decide +kernel), List.mem_of_getElem? (i := 855) (by decide +kernel), List.mem_of_getElem? (i := 856) (by decide +kernel)⟩
theorem lw_p44 : lw_okq (⟨"UnikernelHttp$Tcp", "takes", "(LUnikernelHttp$Connection;LUnikernelHttp$Segment;I)Z"⟩, 5) := ⟨⟨by decide +kernel, by decide +kernel⟩, List.mem_of_getElem? (i := 215) (by decide +kernel), List.mem_of_getElem? (i := 859) (by decide +kernel), List.mem_of_getElem? (i := 860) (by decide +kernel)⟩
theorem lw_p45 : lw_okq (⟨"UnikernelHttp$Connection", "wantsAgain", "(LUnikernelHttp$Segment;I)Z"⟩, 17) := ⟨⟨by decide +kernel, by decide +kernel⟩, List.mem_of_getElem? (i := 222) (by decide +kernel), List.mem_of_getElem? (i := 863) (by decide +kernel), List.mem_of_getElem? (i := 864) (by decide +kernel)⟩
theorem lw_p46 : lw_okq (⟨"UnikernelHttp$Connection", "moveOn", "(II)V"⟩, 17) := ⟨⟨by decide +kernel, by decide +kernel⟩, List.mem_of_getElem? (i := 222) (by decide +kernel), List.mem_of_getElem? (i := 867) (by decide +kernel), List.mem_of_getElem? (i := 868) (by decide +kernel)⟩
theorem lw_p47 : lw_okq (⟨"UnikernelHttp$Outbox", "flying", "()I"⟩, 5) := ⟨⟨by decide +kernel, by decide +kernel⟩, List.mem_of_getElem? (i := 263) (by decide +kernel), List.mem_of_getElem? (i := 871) (by decide +kernel), List.mem_of_getElem? (i := 872) (by decide +kernel)⟩
def lw_privs_3 : List (MethodName × Nat) := [(⟨"UnikernelHttp$Connection", "startTimer", "(I)V"⟩, 17), (⟨"UnikernelHttp$Tcp", "sendSyn", "(LUnikernelHttp$Connection;)V"⟩, 5), (⟨"UnikernelHttp$Inbox", "window", "()I"⟩, 7), (⟨"UnikernelHttp$Tcp", "accepts", "(LUnikernelHttp$Connection;LUnikernelHttp$Segment;)Z"⟩, 5), (⟨"UnikernelHttp$Inbox", "fits", "(LUnikernelHttp$Segment;)Z"⟩, 7), (⟨"UnikernelHttp$Inbox", "isInWindow", "(I)Z"⟩, 7), (⟨"UnikernelHttp$Tcp", "sendAck", "(LUnikernelHttp$Connection;)V"⟩, 5), (⟨"UnikernelHttp$Tcp", "sendBytes", "(LUnikernelHttp$Connection;III)V"⟩, 5), (⟨"UnikernelHttp$Tcp", "remove", "(LUnikernelHttp$Connection;)V"⟩, 5), (⟨"UnikernelHttp$Connection", "open", "(LUnikernelHttp$Segment;)V"⟩, 17), (⟨"UnikernelHttp$Outbox", "acknowledge", "(I)V"⟩, 5), (⟨"UnikernelHttp$Connection", "endTimer", "()V"⟩, 17), (⟨"UnikernelHttp$Tcp", "takes", "(LUnikernelHttp$Connection;LUnikernelHttp$Segment;I)Z"⟩, 5), (⟨"UnikernelHttp$Connection", "wantsAgain", "(LUnikernelHttp$Segment;I)Z"⟩, 17), (⟨"UnikernelHttp$Connection", "moveOn", "(II)V"⟩, 17), (⟨"UnikernelHttp$Outbox", "flying", "()I"⟩, 5)]
theorem lw_r3 : ∀ q ∈ lw_privs_3, lw_okq q := List.forall_mem_cons.mpr ⟨lw_p32, List.forall_mem_cons.mpr ⟨lw_p33, List.forall_mem_cons.mpr ⟨lw_p34, List.forall_mem_cons.mpr ⟨lw_p35, List.forall_mem_cons.mpr ⟨lw_p36, List.forall_mem_cons.mpr ⟨lw_p37, List.forall_mem_cons.mpr ⟨lw_p38, List.forall_mem_cons.mpr ⟨lw_p39, List.forall_mem_cons.mpr ⟨lw_p40, List.forall_mem_cons.mpr ⟨lw_p41, List.forall_mem_cons.mpr ⟨lw_p42, List.forall_mem_cons.mpr ⟨lw_p43, List.forall_mem_cons.mpr ⟨lw_p44, List.forall_mem_cons.mpr ⟨lw_p45, List.forall_mem_cons.mpr ⟨lw_p46, List.forall_mem_cons.mpr ⟨lw_p47, fun _ h => absurd h List.not_mem_nil⟩⟩⟩⟩⟩⟩⟩⟩⟩⟩⟩⟩⟩⟩⟩⟩
theorem lw_p48 : lw_okq (⟨"UnikernelHttp$Connection", "lowerLimit", "()V"⟩, 17) := ⟨⟨by decide +kernel, by decide +kernel⟩, List.mem_of_getElem? (i := 222) (by decide +kernel), List.mem_of_getElem? (i := 876) (by decide +kernel), List.mem_of_getElem? (i := 877) (by decide +kernel)⟩
theorem lw_p49 : lw_okq (⟨"UnikernelHttp$Tcp", "sendAgain", "(LUnikernelHttp$Connection;)V"⟩, 5) := ⟨⟨by decide +kernel, by decide +kernel⟩, List.mem_of_getElem? (i := 215) (by decide +kernel), List.mem_of_getElem? (i := 880) (by decide +kernel), List.mem_of_getElem? (i := 881) (by decide +kernel)⟩
theorem lw_p50 : lw_okq (⟨"UnikernelHttp$Outbox", "sentBytes", "()I"⟩, 5) := ⟨⟨by decide +kernel, by decide +kernel⟩, List.mem_of_getElem? (i := 263) (by decide +kernel), List.mem_of_getElem? (i := 884) (by decide +kernel), List.mem_of_getElem? (i := 885) (by decide +kernel)⟩
theorem lw_p51 : lw_okq (⟨"UnikernelHttp$Connection", "isWindowNews", "(LUnikernelHttp$Segment;)Z"⟩, 17) := ⟨⟨by decide +kernel, by decide +kernel⟩, List.mem_of_getElem? (i := 222) (by decide +kernel), List.mem_of_getElem? (i := 890) (by decide +kernel), List.mem_of_getElem? (i := 891) (by decide +kernel)⟩
theorem lw_p52 : lw_okq (⟨"UnikernelHttp$Outbox", "isFinAcknowledged", "()Z"⟩, 5) := ⟨⟨by decide +kernel, by decide +kernel⟩, List.mem_of_getElem? (i := 263) (by decide +kernel), List.mem_of_getElem? (i := 895) (by decide +kernel), List.mem_of_getElem? (i := 896) (by decide +kernel)⟩
theorem lw_p53 : lw_okq (⟨"UnikernelHttp$Connection", "leave", "(I)V"⟩, 17) := ⟨⟨by decide +kernel, by decide +kernel⟩, List.mem_of_getElem? (i := 222) (by decide +kernel), List.mem_of_getElem? (i := 899) (by decide +kernel), List.mem_of_getElem? (i := 900) (by decide +kernel)⟩
theorem lw_p54 : lw_okq (⟨"UnikernelHttp$Inbox", "keep", "(LUnikernelHttp$Segment;)V"⟩, 7) := ⟨⟨by decide +kernel, by decide +kernel⟩, List.mem_of_getElem? (i := 228) (by decide +kernel), List.mem_of_getElem? (i := 904) (by decide +kernel), List.mem_of_getElem? (i := 905) (by decide +kernel)⟩
theorem lw_p55 : lw_okq (⟨"UnikernelHttp$Inbox", "advance", "()V"⟩, 7) := ⟨⟨by decide +kernel, by decide +kernel⟩, List.mem_of_getElem? (i := 228) (by decide +kernel), List.mem_of_getElem? (i := 910) (by decide +kernel), List.mem_of_getElem? (i := 911) (by decide +kernel)⟩
theorem lw_p56 : lw_okq (⟨"UnikernelHttp$Http", "serve", "(LUnikernelHttp$Connection;)V"⟩, 5) := ⟨⟨by decide +kernel, by decide +kernel⟩, List.mem_of_getElem? (i := 422) (by decide +kernel), List.mem_of_getElem? (i := 914) (by decide +kernel), List.mem_of_getElem? (i := 915) (by decide +kernel)⟩
theorem lw_p57 : lw_okq (⟨"UnikernelHttp$Http", "answers", "(LUnikernelHttp$Connection;I)Z"⟩, 5) := ⟨⟨by decide +kernel, by decide +kernel⟩, List.mem_of_getElem? (i := 422) (by decide +kernel), List.mem_of_getElem? (i := 924) (by decide +kernel), List.mem_of_getElem? (i := 925) (by decide +kernel)⟩
theorem lw_p58 : lw_okq (⟨"UnikernelHttp$Http", "judge", "([BI)I"⟩, 5) := ⟨⟨by decide +kernel, by decide +kernel⟩, List.mem_of_getElem? (i := 422) (by decide +kernel), List.mem_of_getElem? (i := 928) (by decide +kernel), List.mem_of_getElem? (i := 929) (by decide +kernel)⟩
theorem lw_p59 : lw_okq (⟨"UnikernelHttp$Store", "find", "([BII)I"⟩, 6) := ⟨⟨by decide +kernel, by decide +kernel⟩, List.mem_of_getElem? (i := 389) (by decide +kernel), List.mem_of_getElem? (i := 1010) (by decide +kernel), List.mem_of_getElem? (i := 1011) (by decide +kernel)⟩
theorem lw_p60 : lw_okq (⟨"UnikernelHttp$Store", "isSound", "(I)Z"⟩, 6) := ⟨⟨by decide +kernel, by decide +kernel⟩, List.mem_of_getElem? (i := 389) (by decide +kernel), List.mem_of_getElem? (i := 1018) (by decide +kernel), List.mem_of_getElem? (i := 1019) (by decide +kernel)⟩
theorem lw_p61 : lw_okq (⟨"UnikernelHttp$Store", "sumNow", "(I)I"⟩, 6) := ⟨⟨by decide +kernel, by decide +kernel⟩, List.mem_of_getElem? (i := 389) (by decide +kernel), List.mem_of_getElem? (i := 1022) (by decide +kernel), List.mem_of_getElem? (i := 1023) (by decide +kernel)⟩
theorem lw_p62 : lw_okq (⟨"UnikernelHttp$Http", "writeAnswer", "(I)V"⟩, 5) := ⟨⟨by decide +kernel, by decide +kernel⟩, List.mem_of_getElem? (i := 422) (by decide +kernel), List.mem_of_getElem? (i := 1028) (by decide +kernel), List.mem_of_getElem? (i := 1029) (by decide +kernel)⟩
theorem lw_p63 : lw_okq (⟨"UnikernelHttp$Http", "addText", "(Ljava/lang/String;)V"⟩, 5) := ⟨⟨by decide +kernel, by decide +kernel⟩, List.mem_of_getElem? (i := 422) (by decide +kernel), List.mem_of_getElem? (i := 1041) (by decide +kernel), List.mem_of_getElem? (i := 1042) (by decide +kernel)⟩
def lw_privs_4 : List (MethodName × Nat) := [(⟨"UnikernelHttp$Connection", "lowerLimit", "()V"⟩, 17), (⟨"UnikernelHttp$Tcp", "sendAgain", "(LUnikernelHttp$Connection;)V"⟩, 5), (⟨"UnikernelHttp$Outbox", "sentBytes", "()I"⟩, 5), (⟨"UnikernelHttp$Connection", "isWindowNews", "(LUnikernelHttp$Segment;)Z"⟩, 17), (⟨"UnikernelHttp$Outbox", "isFinAcknowledged", "()Z"⟩, 5), (⟨"UnikernelHttp$Connection", "leave", "(I)V"⟩, 17), (⟨"UnikernelHttp$Inbox", "keep", "(LUnikernelHttp$Segment;)V"⟩, 7), (⟨"UnikernelHttp$Inbox", "advance", "()V"⟩, 7), (⟨"UnikernelHttp$Http", "serve", "(LUnikernelHttp$Connection;)V"⟩, 5), (⟨"UnikernelHttp$Http", "answers", "(LUnikernelHttp$Connection;I)Z"⟩, 5), (⟨"UnikernelHttp$Http", "judge", "([BI)I"⟩, 5), (⟨"UnikernelHttp$Store", "find", "([BII)I"⟩, 6), (⟨"UnikernelHttp$Store", "isSound", "(I)Z"⟩, 6), (⟨"UnikernelHttp$Store", "sumNow", "(I)I"⟩, 6), (⟨"UnikernelHttp$Http", "writeAnswer", "(I)V"⟩, 5), (⟨"UnikernelHttp$Http", "addText", "(Ljava/lang/String;)V"⟩, 5)]
theorem lw_r4 : ∀ q ∈ lw_privs_4, lw_okq q := List.forall_mem_cons.mpr ⟨lw_p48, List.forall_mem_cons.mpr ⟨lw_p49, List.forall_mem_cons.mpr ⟨lw_p50, List.forall_mem_cons.mpr ⟨lw_p51, List.forall_mem_cons.mpr ⟨lw_p52, List.forall_mem_cons.mpr ⟨lw_p53, List.forall_mem_cons.mpr ⟨lw_p54, List.forall_mem_cons.mpr ⟨lw_p55, List.forall_mem_cons.mpr ⟨lw_p56, List.forall_mem_cons.mpr ⟨lw_p57, List.forall_mem_cons.mpr ⟨lw_p58, List.forall_mem_cons.mpr ⟨lw_p59, List.forall_mem_cons.mpr ⟨lw_p60, List.forall_mem_cons.mpr ⟨lw_p61, List.forall_mem_cons.mpr ⟨lw_p62, List.forall_mem_cons.mpr ⟨lw_p63, fun _ h => absurd h List.not_mem_nil⟩⟩⟩⟩⟩⟩⟩⟩⟩⟩⟩⟩⟩⟩⟩⟩
theorem lw_p64 : lw_okq (⟨"UnikernelHttp$Http", "addByte", "(I)V"⟩, 5) := ⟨⟨by decide +kernel, by decide +kernel⟩, List.mem_of_getElem? (i := 422) (by decide +kernel), List.mem_of_getElem? (i := 1045) (by decide +kernel), List.mem_of_getElem? (i := 1046) (by decide +kernel)⟩
theorem lw_p65 : lw_okq (⟨"UnikernelHttp$Http", "addNumber", "(I)V"⟩, 5) := ⟨⟨by decide +kernel, by decide +kernel⟩, List.mem_of_getElem? (i := 422) (by decide +kernel), List.mem_of_getElem? (i := 1050) (by decide +kernel), List.mem_of_getElem? (i := 1051) (by decide +kernel)⟩
theorem lw_p66 : lw_okq (⟨"UnikernelHttp$Outbox", "takes", "([BI)Z"⟩, 5) := ⟨⟨by decide +kernel, by decide +kernel⟩, List.mem_of_getElem? (i := 263) (by decide +kernel), List.mem_of_getElem? (i := 1057) (by decide +kernel), List.mem_of_getElem? (i := 1058) (by decide +kernel)⟩
theorem lw_p67 : lw_okq (⟨"UnikernelHttp$Inbox", "drop", "(I)V"⟩, 7) := ⟨⟨by decide +kernel, by decide +kernel⟩, List.mem_of_getElem? (i := 228) (by decide +kernel), List.mem_of_getElem? (i := 1061) (by decide +kernel), List.mem_of_getElem? (i := 1062) (by decide +kernel)⟩
theorem lw_p68 : lw_okq (⟨"UnikernelHttp$Tcp", "sendWhatMay", "(LUnikernelHttp$Connection;ZI)V"⟩, 5) := ⟨⟨by decide +kernel, by decide +kernel⟩, List.mem_of_getElem? (i := 215) (by decide +kernel), List.mem_of_getElem? (i := 1318) (by decide +kernel), List.mem_of_getElem? (i := 1319) (by decide +kernel)⟩
theorem lw_p69 : lw_okq (⟨"UnikernelHttp$Outbox", "unsentBytes", "()I"⟩, 5) := ⟨⟨by decide +kernel, by decide +kernel⟩, List.mem_of_getElem? (i := 263) (by decide +kernel), List.mem_of_getElem? (i := 1323) (by decide +kernel), List.mem_of_getElem? (i := 1324) (by decide +kernel)⟩
theorem lw_p70 : lw_okq (⟨"UnikernelHttp$Tcp", "sendNew", "(LUnikernelHttp$Connection;II)V"⟩, 5) := ⟨⟨by decide +kernel, by decide +kernel⟩, List.mem_of_getElem? (i := 215) (by decide +kernel), List.mem_of_getElem? (i := 1328) (by decide +kernel), List.mem_of_getElem? (i := 1329) (by decide +kernel)⟩
theorem lw_p71 : lw_okq (⟨"UnikernelHttp$Connection", "mindTimer", "(I)V"⟩, 17) := ⟨⟨by decide +kernel, by decide +kernel⟩, List.mem_of_getElem? (i := 222) (by decide +kernel), List.mem_of_getElem? (i := 1333) (by decide +kernel), List.mem_of_getElem? (i := 1334) (by decide +kernel)⟩
theorem lw_p72 : lw_okq (⟨"UnikernelHttp$Connection", "isShut", "()Z"⟩, 17) := ⟨⟨by decide +kernel, by decide +kernel⟩, List.mem_of_getElem? (i := 222) (by decide +kernel), List.mem_of_getElem? (i := 1337) (by decide +kernel), List.mem_of_getElem? (i := 1338) (by decide +kernel)⟩
theorem lw_p73 : lw_okq (⟨"UnikernelHttp$Store", "put", "([BII)V"⟩, 6) := ⟨⟨by decide +kernel, by decide +kernel⟩, List.mem_of_getElem? (i := 389) (by decide +kernel), List.mem_of_getElem? (i := 1351) (by decide +kernel), List.mem_of_getElem? (i := 1352) (by decide +kernel)⟩
theorem lw_p74 : lw_okq (⟨"UnikernelHttp$Gatherings", "due", "()I"⟩, 2) := ⟨⟨by decide +kernel, by decide +kernel⟩, List.mem_of_getElem? (i := 96) (by decide +kernel), List.mem_of_getElem? (i := 1389) (by decide +kernel), List.mem_of_getElem? (i := 1390) (by decide +kernel)⟩
theorem lw_p75 : lw_okq (⟨"UnikernelHttp$Tcp", "firstDue", "()LUnikernelHttp$Connection;"⟩, 5) := ⟨⟨by decide +kernel, by decide +kernel⟩, List.mem_of_getElem? (i := 215) (by decide +kernel), List.mem_of_getElem? (i := 1394) (by decide +kernel), List.mem_of_getElem? (i := 1395) (by decide +kernel)⟩
theorem lw_p76 : lw_okq (⟨"UnikernelHttp$Connection", "due", "()I"⟩, 17) := ⟨⟨by decide +kernel, by decide +kernel⟩, List.mem_of_getElem? (i := 222) (by decide +kernel), List.mem_of_getElem? (i := 1398) (by decide +kernel), List.mem_of_getElem? (i := 1399) (by decide +kernel)⟩
theorem lw_p77 : lw_okq (⟨"UnikernelHttp$Tcp", "fire", "(LUnikernelHttp$Connection;I)V"⟩, 5) := ⟨⟨by decide +kernel, by decide +kernel⟩, List.mem_of_getElem? (i := 215) (by decide +kernel), List.mem_of_getElem? (i := 1406) (by decide +kernel), List.mem_of_getElem? (i := 1407) (by decide +kernel)⟩
theorem lw_p78 : lw_okq (⟨"UnikernelHttp$Tcp", "sendProbe", "(LUnikernelHttp$Connection;)V"⟩, 5) := ⟨⟨by decide +kernel, by decide +kernel⟩, List.mem_of_getElem? (i := 215) (by decide +kernel), List.mem_of_getElem? (i := 1411) (by decide +kernel), List.mem_of_getElem? (i := 1412) (by decide +kernel)⟩
theorem lw_p79 : lw_okq (⟨"UnikernelHttp$Tcp", "giveUp", "(LUnikernelHttp$Connection;)V"⟩, 5) := ⟨⟨by decide +kernel, by decide +kernel⟩, List.mem_of_getElem? (i := 215) (by decide +kernel), List.mem_of_getElem? (i := 1415) (by decide +kernel), List.mem_of_getElem? (i := 1416) (by decide +kernel)⟩
def lw_privs_5 : List (MethodName × Nat) := [(⟨"UnikernelHttp$Http", "addByte", "(I)V"⟩, 5), (⟨"UnikernelHttp$Http", "addNumber", "(I)V"⟩, 5), (⟨"UnikernelHttp$Outbox", "takes", "([BI)Z"⟩, 5), (⟨"UnikernelHttp$Inbox", "drop", "(I)V"⟩, 7), (⟨"UnikernelHttp$Tcp", "sendWhatMay", "(LUnikernelHttp$Connection;ZI)V"⟩, 5), (⟨"UnikernelHttp$Outbox", "unsentBytes", "()I"⟩, 5), (⟨"UnikernelHttp$Tcp", "sendNew", "(LUnikernelHttp$Connection;II)V"⟩, 5), (⟨"UnikernelHttp$Connection", "mindTimer", "(I)V"⟩, 17), (⟨"UnikernelHttp$Connection", "isShut", "()Z"⟩, 17), (⟨"UnikernelHttp$Store", "put", "([BII)V"⟩, 6), (⟨"UnikernelHttp$Gatherings", "due", "()I"⟩, 2), (⟨"UnikernelHttp$Tcp", "firstDue", "()LUnikernelHttp$Connection;"⟩, 5), (⟨"UnikernelHttp$Connection", "due", "()I"⟩, 17), (⟨"UnikernelHttp$Tcp", "fire", "(LUnikernelHttp$Connection;I)V"⟩, 5), (⟨"UnikernelHttp$Tcp", "sendProbe", "(LUnikernelHttp$Connection;)V"⟩, 5), (⟨"UnikernelHttp$Tcp", "giveUp", "(LUnikernelHttp$Connection;)V"⟩, 5)]
theorem lw_r5 : ∀ q ∈ lw_privs_5, lw_okq q := List.forall_mem_cons.mpr ⟨lw_p64, List.forall_mem_cons.mpr ⟨lw_p65, List.forall_mem_cons.mpr ⟨lw_p66, List.forall_mem_cons.mpr ⟨lw_p67, List.forall_mem_cons.mpr ⟨lw_p68, List.forall_mem_cons.mpr ⟨lw_p69, List.forall_mem_cons.mpr ⟨lw_p70, List.forall_mem_cons.mpr ⟨lw_p71, List.forall_mem_cons.mpr ⟨lw_p72, List.forall_mem_cons.mpr ⟨lw_p73, List.forall_mem_cons.mpr ⟨lw_p74, List.forall_mem_cons.mpr ⟨lw_p75, List.forall_mem_cons.mpr ⟨lw_p76, List.forall_mem_cons.mpr ⟨lw_p77, List.forall_mem_cons.mpr ⟨lw_p78, List.forall_mem_cons.mpr ⟨lw_p79, fun _ h => absurd h List.not_mem_nil⟩⟩⟩⟩⟩⟩⟩⟩⟩⟩⟩⟩⟩⟩⟩⟩
theorem lw_p80 : lw_okq (⟨"UnikernelHttp$Connection", "doubleTimeout", "()V"⟩, 17) := ⟨⟨by decide +kernel, by decide +kernel⟩, List.mem_of_getElem? (i := 222) (by decide +kernel), List.mem_of_getElem? (i := 1420) (by decide +kernel), List.mem_of_getElem? (i := 1421) (by decide +kernel)⟩
theorem lw_p81 : lw_okq (⟨"UnikernelHttp$Wire", "keeps", "(I)Z"⟩, 5) := ⟨⟨by decide +kernel, by decide +kernel⟩, List.mem_of_getElem? (i := 70) (by decide +kernel), List.mem_of_getElem? (i := 1432) (by decide +kernel), List.mem_of_getElem? (i := 1433) (by decide +kernel)⟩
theorem lw_p82 : lw_okq (⟨"UnikernelHttp$Wire", "eightBytes", "(II)J"⟩, 5) := ⟨⟨by decide +kernel, by decide +kernel⟩, List.mem_of_getElem? (i := 70) (by decide +kernel), List.mem_of_getElem? (i := 1444) (by decide +kernel), List.mem_of_getElem? (i := 1445) (by decide +kernel)⟩
theorem lw_p83 : lw_okq (⟨"UnikernelHttpModel", "four4", "(I)V"⟩, 39) := ⟨⟨by decide +kernel, by decide +kernel⟩, List.mem_of_getElem? (i := 1479) (by decide +kernel), List.mem_of_getElem? (i := 1720) (by decide +kernel), List.mem_of_getElem? (i := 1721) (by decide +kernel)⟩
theorem lw_p84 : lw_okq (⟨"UnikernelHttpModel", "comes", "()V"⟩, 39) := ⟨⟨by decide +kernel, by decide +kernel⟩, List.mem_of_getElem? (i := 1479) (by decide +kernel), List.mem_of_getElem? (i := 1732) (by decide +kernel), List.mem_of_getElem? (i := 1733) (by decide +kernel)⟩
theorem lw_p85 : lw_okq (⟨"UnikernelHttpModel", "six", "(I)J"⟩, 39) := ⟨⟨by decide +kernel, by decide +kernel⟩, List.mem_of_getElem? (i := 1479) (by decide +kernel), List.mem_of_getElem? (i := 1737) (by decide +kernel), List.mem_of_getElem? (i := 1738) (by decide +kernel)⟩
theorem lw_p86 : lw_okq (⟨"UnikernelHttpModel", "two", "(I)I"⟩, 39) := ⟨⟨by decide +kernel, by decide +kernel⟩, List.mem_of_getElem? (i := 1479) (by decide +kernel), List.mem_of_getElem? (i := 1741) (by decide +kernel), List.mem_of_getElem? (i := 1742) (by decide +kernel)⟩
theorem lw_p87 : lw_okq (⟨"UnikernelHttpModel", "four", "(I)I"⟩, 39) := ⟨⟨by decide +kernel, by decide +kernel⟩, List.mem_of_getElem? (i := 1479) (by decide +kernel), List.mem_of_getElem? (i := 1745) (by decide +kernel), List.mem_of_getElem? (i := 1746) (by decide +kernel)⟩
theorem lw_p88 : lw_okq (⟨"UnikernelHttpModel", "resolves", "()V"⟩, 39) := ⟨⟨by decide +kernel, by decide +kernel⟩, List.mem_of_getElem? (i := 1479) (by decide +kernel), List.mem_of_getElem? (i := 1752) (by decide +kernel), List.mem_of_getElem? (i := 1753) (by decide +kernel)⟩
theorem lw_p89 : lw_okq (⟨"UnikernelHttpModel", "hears", "(IJ)V"⟩, 39) := ⟨⟨by decide +kernel, by decide +kernel⟩, List.mem_of_getElem? (i := 1479) (by decide +kernel), List.mem_of_getElem? (i := 1757) (by decide +kernel), List.mem_of_getElem? (i := 1758) (by decide +kernel)⟩
theorem lw_p90 : lw_okq (⟨"UnikernelHttpModel", "neighbour", "(I)I"⟩, 39) := ⟨⟨by decide +kernel, by decide +kernel⟩, List.mem_of_getElem? (i := 1479) (by decide +kernel), List.mem_of_getElem? (i := 1761) (by decide +kernel), List.mem_of_getElem? (i := 1762) (by decide +kernel)⟩
theorem lw_p91 : lw_okq (⟨"UnikernelHttpModel", "putSix", "(J)V"⟩, 39) := ⟨⟨by decide +kernel, by decide +kernel⟩, List.mem_of_getElem? (i := 1479) (by decide +kernel), List.mem_of_getElem? (i := 1765) (by decide +kernel), List.mem_of_getElem? (i := 1766) (by decide +kernel)⟩
theorem lw_p92 : lw_okq (⟨"UnikernelHttpModel", "put", "(II)V"⟩, 39) := ⟨⟨by decide +kernel, by decide +kernel⟩, List.mem_of_getElem? (i := 1479) (by decide +kernel), List.mem_of_getElem? (i := 1769) (by decide +kernel), List.mem_of_getElem? (i := 1770) (by decide +kernel)⟩
theorem lw_p93 : lw_okq (⟨"UnikernelHttpModel", "frame", "()V"⟩, 39) := ⟨⟨by decide +kernel, by decide +kernel⟩, List.mem_of_getElem? (i := 1479) (by decide +kernel), List.mem_of_getElem? (i := 1773) (by decide +kernel), List.mem_of_getElem? (i := 1774) (by decide +kernel)⟩
theorem lw_p94 : lw_okq (⟨"UnikernelHttpModel", "internet", "()V"⟩, 39) := ⟨⟨by decide +kernel, by decide +kernel⟩, List.mem_of_getElem? (i := 1479) (by decide +kernel), List.mem_of_getElem? (i := 1777) (by decide +kernel), List.mem_of_getElem? (i := 1778) (by decide +kernel)⟩
theorem lw_p95 : lw_okq (⟨"UnikernelHttpModel", "datagram", "(IIII)V"⟩, 39) := ⟨⟨by decide +kernel, by decide +kernel⟩, List.mem_of_getElem? (i := 1479) (by decide +kernel), List.mem_of_getElem? (i := 1785) (by decide +kernel), List.mem_of_getElem? (i := 1786) (by decide +kernel)⟩
def lw_privs_6 : List (MethodName × Nat) := [(⟨"UnikernelHttp$Connection", "doubleTimeout", "()V"⟩, 17), (⟨"UnikernelHttp$Wire", "keeps", "(I)Z"⟩, 5), (⟨"UnikernelHttp$Wire", "eightBytes", "(II)J"⟩, 5), (⟨"UnikernelHttpModel", "four4", "(I)V"⟩, 39), (⟨"UnikernelHttpModel", "comes", "()V"⟩, 39), (⟨"UnikernelHttpModel", "six", "(I)J"⟩, 39), (⟨"UnikernelHttpModel", "two", "(I)I"⟩, 39), (⟨"UnikernelHttpModel", "four", "(I)I"⟩, 39), (⟨"UnikernelHttpModel", "resolves", "()V"⟩, 39), (⟨"UnikernelHttpModel", "hears", "(IJ)V"⟩, 39), (⟨"UnikernelHttpModel", "neighbour", "(I)I"⟩, 39), (⟨"UnikernelHttpModel", "putSix", "(J)V"⟩, 39), (⟨"UnikernelHttpModel", "put", "(II)V"⟩, 39), (⟨"UnikernelHttpModel", "frame", "()V"⟩, 39), (⟨"UnikernelHttpModel", "internet", "()V"⟩, 39), (⟨"UnikernelHttpModel", "datagram", "(IIII)V"⟩, 39)]
theorem lw_r6 : ∀ q ∈ lw_privs_6, lw_okq q := List.forall_mem_cons.mpr ⟨lw_p80, List.forall_mem_cons.mpr ⟨lw_p81, List.forall_mem_cons.mpr ⟨lw_p82, List.forall_mem_cons.mpr ⟨lw_p83, List.forall_mem_cons.mpr ⟨lw_p84, List.forall_mem_cons.mpr ⟨lw_p85, List.forall_mem_cons.mpr ⟨lw_p86, List.forall_mem_cons.mpr ⟨lw_p87, List.forall_mem_cons.mpr ⟨lw_p88, List.forall_mem_cons.mpr ⟨lw_p89, List.forall_mem_cons.mpr ⟨lw_p90, List.forall_mem_cons.mpr ⟨lw_p91, List.forall_mem_cons.mpr ⟨lw_p92, List.forall_mem_cons.mpr ⟨lw_p93, List.forall_mem_cons.mpr ⟨lw_p94, List.forall_mem_cons.mpr ⟨lw_p95, fun _ h => absurd h List.not_mem_nil⟩⟩⟩⟩⟩⟩⟩⟩⟩⟩⟩⟩⟩⟩⟩⟩
theorem lw_p96 : lw_okq (⟨"UnikernelHttpModel", "echo", "(III)V"⟩, 39) := ⟨⟨by decide +kernel, by decide +kernel⟩, List.mem_of_getElem? (i := 1479) (by decide +kernel), List.mem_of_getElem? (i := 1789) (by decide +kernel), List.mem_of_getElem? (i := 1790) (by decide +kernel)⟩
theorem lw_p97 : lw_okq (⟨"UnikernelHttpModel", "packet", "(III)V"⟩, 39) := ⟨⟨by decide +kernel, by decide +kernel⟩, List.mem_of_getElem? (i := 1479) (by decide +kernel), List.mem_of_getElem? (i := 1793) (by decide +kernel), List.mem_of_getElem? (i := 1794) (by decide +kernel)⟩
theorem lw_p98 : lw_okq (⟨"UnikernelHttpModel", "gone", "(I)Z"⟩, 39) := ⟨⟨by decide +kernel, by decide +kernel⟩, List.mem_of_getElem? (i := 1479) (by decide +kernel), List.mem_of_getElem? (i := 1800) (by decide +kernel), List.mem_of_getElem? (i := 1801) (by decide +kernel)⟩
theorem lw_p99 : lw_okq (⟨"UnikernelHttpModel", "tcp", "(III)V"⟩, 39) := ⟨⟨by decide +kernel, by decide +kernel⟩, List.mem_of_getElem? (i := 1479) (by decide +kernel), List.mem_of_getElem? (i := 1804) (by decide +kernel), List.mem_of_getElem? (i := 1805) (by decide +kernel)⟩
theorem lw_p100 : lw_okq (⟨"UnikernelHttpModel", "find", "(II)I"⟩, 39) := ⟨⟨by decide +kernel, by decide +kernel⟩, List.mem_of_getElem? (i := 1479) (by decide +kernel), List.mem_of_getElem? (i := 1811) (by decide +kernel), List.mem_of_getElem? (i := 1812) (by decide +kernel)⟩
theorem lw_p101 : lw_okq (⟨"UnikernelHttpModel", "with", "(LUnikernelHttpModel$Peer;IIIIIII)V"⟩, 39) := ⟨⟨by decide +kernel, by decide +kernel⟩, List.mem_of_getElem? (i := 1479) (by decide +kernel), List.mem_of_getElem? (i := 1815) (by decide +kernel), List.mem_of_getElem? (i := 1816) (by decide +kernel)⟩
theorem lw_p102 : lw_okq (⟨"UnikernelHttpModel", "windowOf", "(LUnikernelHttpModel$Peer;)I"⟩, 39) := ⟨⟨by decide +kernel, by decide +kernel⟩, List.mem_of_getElem? (i := 1479) (by decide +kernel), List.mem_of_getElem? (i := 1819) (by decide +kernel), List.mem_of_getElem? (i := 1820) (by decide +kernel)⟩
theorem lw_p103 : lw_okq (⟨"UnikernelHttpModel", "tells", "(LUnikernelHttpModel$Peer;IIII)V"⟩, 39) := ⟨⟨by decide +kernel, by decide +kernel⟩, List.mem_of_getElem? (i := 1479) (by decide +kernel), List.mem_of_getElem? (i := 1823) (by decide +kernel), List.mem_of_getElem? (i := 1824) (by decide +kernel)⟩
theorem lw_p104 : lw_okq (⟨"UnikernelHttpModel", "segment", "(IIIIIII[BII)V"⟩, 39) := ⟨⟨by decide +kernel, by decide +kernel⟩, List.mem_of_getElem? (i := 1479) (by decide +kernel), List.mem_of_getElem? (i := 1827) (by decide +kernel), List.mem_of_getElem? (i := 1828) (by decide +kernel)⟩
theorem lw_p105 : lw_okq (⟨"UnikernelHttpModel", "leaves", "(LUnikernelHttpModel$Peer;)V"⟩, 39) := ⟨⟨by decide +kernel, by decide +kernel⟩, List.mem_of_getElem? (i := 1479) (by decide +kernel), List.mem_of_getElem? (i := 1831) (by decide +kernel), List.mem_of_getElem? (i := 1832) (by decide +kernel)⟩
theorem lw_p106 : lw_okq (⟨"UnikernelHttpModel", "acknowledged", "(LUnikernelHttpModel$Peer;I)V"⟩, 39) := ⟨⟨by decide +kernel, by decide +kernel⟩, List.mem_of_getElem? (i := 1479) (by decide +kernel), List.mem_of_getElem? (i := 1835) (by decide +kernel), List.mem_of_getElem? (i := 1836) (by decide +kernel)⟩
theorem lw_p107 : lw_okq (⟨"UnikernelHttpModel", "doubled", "(LUnikernelHttpModel$Peer;)V"⟩, 39) := ⟨⟨by decide +kernel, by decide +kernel⟩, List.mem_of_getElem? (i := 1479) (by decide +kernel), List.mem_of_getElem? (i := 1841) (by decide +kernel), List.mem_of_getElem? (i := 1842) (by decide +kernel)⟩
theorem lw_p108 : lw_okq (⟨"UnikernelHttpModel", "half", "(LUnikernelHttpModel$Peer;)I"⟩, 39) := ⟨⟨by decide +kernel, by decide +kernel⟩, List.mem_of_getElem? (i := 1479) (by decide +kernel), List.mem_of_getElem? (i := 1845) (by decide +kernel), List.mem_of_getElem? (i := 1846) (by decide +kernel)⟩
theorem lw_p109 : lw_okq (⟨"UnikernelHttpModel", "again", "(LUnikernelHttpModel$Peer;)V"⟩, 39) := ⟨⟨by decide +kernel, by decide +kernel⟩, List.mem_of_getElem? (i := 1479) (by decide +kernel), List.mem_of_getElem? (i := 1849) (by decide +kernel), List.mem_of_getElem? (i := 1850) (by decide +kernel)⟩
theorem lw_p110 : lw_okq (⟨"UnikernelHttpModel", "keeps", "(LUnikernelHttpModel$Peer;IIIZ)V"⟩, 39) := ⟨⟨by decide +kernel, by decide +kernel⟩, List.mem_of_getElem? (i := 1479) (by decide +kernel), List.mem_of_getElem? (i := 1854) (by decide +kernel), List.mem_of_getElem? (i := 1855) (by decide +kernel)⟩
theorem lw_p111 : lw_okq (⟨"UnikernelHttpModel", "pages", "(LUnikernelHttpModel$Peer;)V"⟩, 39) := ⟨⟨by decide +kernel, by decide +kernel⟩, List.mem_of_getElem? (i := 1479) (by decide +kernel), List.mem_of_getElem? (i := 1858) (by decide +kernel), List.mem_of_getElem? (i := 1859) (by decide +kernel)⟩
def lw_privs_7 : List (MethodName × Nat) := [(⟨"UnikernelHttpModel", "echo", "(III)V"⟩, 39), (⟨"UnikernelHttpModel", "packet", "(III)V"⟩, 39), (⟨"UnikernelHttpModel", "gone", "(I)Z"⟩, 39), (⟨"UnikernelHttpModel", "tcp", "(III)V"⟩, 39), (⟨"UnikernelHttpModel", "find", "(II)I"⟩, 39), (⟨"UnikernelHttpModel", "with", "(LUnikernelHttpModel$Peer;IIIIIII)V"⟩, 39), (⟨"UnikernelHttpModel", "windowOf", "(LUnikernelHttpModel$Peer;)I"⟩, 39), (⟨"UnikernelHttpModel", "tells", "(LUnikernelHttpModel$Peer;IIII)V"⟩, 39), (⟨"UnikernelHttpModel", "segment", "(IIIIIII[BII)V"⟩, 39), (⟨"UnikernelHttpModel", "leaves", "(LUnikernelHttpModel$Peer;)V"⟩, 39), (⟨"UnikernelHttpModel", "acknowledged", "(LUnikernelHttpModel$Peer;I)V"⟩, 39), (⟨"UnikernelHttpModel", "doubled", "(LUnikernelHttpModel$Peer;)V"⟩, 39), (⟨"UnikernelHttpModel", "half", "(LUnikernelHttpModel$Peer;)I"⟩, 39), (⟨"UnikernelHttpModel", "again", "(LUnikernelHttpModel$Peer;)V"⟩, 39), (⟨"UnikernelHttpModel", "keeps", "(LUnikernelHttpModel$Peer;IIIZ)V"⟩, 39), (⟨"UnikernelHttpModel", "pages", "(LUnikernelHttpModel$Peer;)V"⟩, 39)]
theorem lw_r7 : ∀ q ∈ lw_privs_7, lw_okq q := List.forall_mem_cons.mpr ⟨lw_p96, List.forall_mem_cons.mpr ⟨lw_p97, List.forall_mem_cons.mpr ⟨lw_p98, List.forall_mem_cons.mpr ⟨lw_p99, List.forall_mem_cons.mpr ⟨lw_p100, List.forall_mem_cons.mpr ⟨lw_p101, List.forall_mem_cons.mpr ⟨lw_p102, List.forall_mem_cons.mpr ⟨lw_p103, List.forall_mem_cons.mpr ⟨lw_p104, List.forall_mem_cons.mpr ⟨lw_p105, List.forall_mem_cons.mpr ⟨lw_p106, List.forall_mem_cons.mpr ⟨lw_p107, List.forall_mem_cons.mpr ⟨lw_p108, List.forall_mem_cons.mpr ⟨lw_p109, List.forall_mem_cons.mpr ⟨lw_p110, List.forall_mem_cons.mpr ⟨lw_p111, fun _ h => absurd h List.not_mem_nil⟩⟩⟩⟩⟩⟩⟩⟩⟩⟩⟩⟩⟩⟩⟩⟩
theorem lw_p112 : lw_okq (⟨"UnikernelHttpModel", "blank", "(LUnikernelHttpModel$Peer;)I"⟩, 39) := ⟨⟨by decide +kernel, by decide +kernel⟩, List.mem_of_getElem? (i := 1479) (by decide +kernel), List.mem_of_getElem? (i := 1862) (by decide +kernel), List.mem_of_getElem? (i := 1863) (by decide +kernel)⟩
theorem lw_p113 : lw_okq (⟨"UnikernelHttpModel", "answered", "(IIZ)V"⟩, 39) := ⟨⟨by decide +kernel, by decide +kernel⟩, List.mem_of_getElem? (i := 1479) (by decide +kernel), List.mem_of_getElem? (i := 1866) (by decide +kernel), List.mem_of_getElem? (i := 1867) (by decide +kernel)⟩
theorem lw_p114 : lw_okq (⟨"UnikernelHttpModel", "say", "(Ljava/lang/String;)V"⟩, 39) := ⟨⟨by decide +kernel, by decide +kernel⟩, List.mem_of_getElem? (i := 1479) (by decide +kernel), List.mem_of_getElem? (i := 1871) (by decide +kernel), List.mem_of_getElem? (i := 1872) (by decide +kernel)⟩
theorem lw_p115 : lw_okq (⟨"UnikernelHttpModel", "decimal", "(I)V"⟩, 39) := ⟨⟨by decide +kernel, by decide +kernel⟩, List.mem_of_getElem? (i := 1479) (by decide +kernel), List.mem_of_getElem? (i := 1877) (by decide +kernel), List.mem_of_getElem? (i := 1878) (by decide +kernel)⟩
theorem lw_p116 : lw_okq (⟨"UnikernelHttpModel", "asked", "(LUnikernelHttpModel$Peer;I)Z"⟩, 39) := ⟨⟨by decide +kernel, by decide +kernel⟩, List.mem_of_getElem? (i := 1479) (by decide +kernel), List.mem_of_getElem? (i := 1890) (by decide +kernel), List.mem_of_getElem? (i := 1891) (by decide +kernel)⟩
theorem lw_p117 : lw_okq (⟨"UnikernelHttpModel", "run", "([BIII)I"⟩, 39) := ⟨⟨by decide +kernel, by decide +kernel⟩, List.mem_of_getElem? (i := 1479) (by decide +kernel), List.mem_of_getElem? (i := 1894) (by decide +kernel), List.mem_of_getElem? (i := 1895) (by decide +kernel)⟩
theorem lw_p118 : lw_okq (⟨"UnikernelHttpModel", "is", "([BILjava/lang/String;)Z"⟩, 39) := ⟨⟨by decide +kernel, by decide +kernel⟩, List.mem_of_getElem? (i := 1479) (by decide +kernel), List.mem_of_getElem? (i := 1899) (by decide +kernel), List.mem_of_getElem? (i := 1900) (by decide +kernel)⟩
theorem lw_p119 : lw_okq (⟨"UnikernelHttpModel", "pageOf", "([BII)I"⟩, 39) := ⟨⟨by decide +kernel, by decide +kernel⟩, List.mem_of_getElem? (i := 1479) (by decide +kernel), List.mem_of_getElem? (i := 1913) (by decide +kernel), List.mem_of_getElem? (i := 1914) (by decide +kernel)⟩
theorem lw_p120 : lw_okq (⟨"UnikernelHttpModel", "isSent", "(LUnikernelHttpModel$Peer;)Z"⟩, 39) := ⟨⟨by decide +kernel, by decide +kernel⟩, List.mem_of_getElem? (i := 1479) (by decide +kernel), List.mem_of_getElem? (i := 1917) (by decide +kernel), List.mem_of_getElem? (i := 1918) (by decide +kernel)⟩
theorem lw_p121 : lw_okq (⟨"UnikernelHttpModel", "watches", "(LUnikernelHttpModel$Peer;)V"⟩, 39) := ⟨⟨by decide +kernel, by decide +kernel⟩, List.mem_of_getElem? (i := 1479) (by decide +kernel), List.mem_of_getElem? (i := 1921) (by decide +kernel), List.mem_of_getElem? (i := 1922) (by decide +kernel)⟩
theorem lw_p122 : lw_okq (⟨"UnikernelHttpModel", "mssOf", "(II)I"⟩, 39) := ⟨⟨by decide +kernel, by decide +kernel⟩, List.mem_of_getElem? (i := 1479) (by decide +kernel), List.mem_of_getElem? (i := 1925) (by decide +kernel), List.mem_of_getElem? (i := 1926) (by decide +kernel)⟩
theorem lw_p123 : lw_okq (⟨"UnikernelHttpModel", "begins", "(IIIII)V"⟩, 39) := ⟨⟨by decide +kernel, by decide +kernel⟩, List.mem_of_getElem? (i := 1479) (by decide +kernel), List.mem_of_getElem? (i := 1929) (by decide +kernel), List.mem_of_getElem? (i := 1930) (by decide +kernel)⟩
theorem lw_p124 : lw_okq (⟨"UnikernelHttpModel", "piece", "(IIIIIIZ)V"⟩, 39) := ⟨⟨by decide +kernel, by decide +kernel⟩, List.mem_of_getElem? (i := 1479) (by decide +kernel), List.mem_of_getElem? (i := 1934) (by decide +kernel), List.mem_of_getElem? (i := 1935) (by decide +kernel)⟩
theorem lw_p125 : lw_okq (⟨"UnikernelHttpModel", "dropGathering", "(I)V"⟩, 39) := ⟨⟨by decide +kernel, by decide +kernel⟩, List.mem_of_getElem? (i := 1479) (by decide +kernel), List.mem_of_getElem? (i := 1938) (by decide +kernel), List.mem_of_getElem? (i := 1939) (by decide +kernel)⟩
theorem lw_p126 : lw_okq (⟨"UnikernelHttpModel", "over", "(LUnikernelHttpModel$Peer;)V"⟩, 39) := ⟨⟨by decide +kernel, by decide +kernel⟩, List.mem_of_getElem? (i := 1479) (by decide +kernel), List.mem_of_getElem? (i := 1954) (by decide +kernel), List.mem_of_getElem? (i := 1955) (by decide +kernel)⟩
theorem lw_p127 : lw_okq (⟨"UnikernelHttpModel", "isKept", "(I)Z"⟩, 39) := ⟨⟨by decide +kernel, by decide +kernel⟩, List.mem_of_getElem? (i := 1479) (by decide +kernel), List.mem_of_getElem? (i := 1962) (by decide +kernel), List.mem_of_getElem? (i := 1963) (by decide +kernel)⟩
def lw_privs_8 : List (MethodName × Nat) := [(⟨"UnikernelHttpModel", "blank", "(LUnikernelHttpModel$Peer;)I"⟩, 39), (⟨"UnikernelHttpModel", "answered", "(IIZ)V"⟩, 39), (⟨"UnikernelHttpModel", "say", "(Ljava/lang/String;)V"⟩, 39), (⟨"UnikernelHttpModel", "decimal", "(I)V"⟩, 39), (⟨"UnikernelHttpModel", "asked", "(LUnikernelHttpModel$Peer;I)Z"⟩, 39), (⟨"UnikernelHttpModel", "run", "([BIII)I"⟩, 39), (⟨"UnikernelHttpModel", "is", "([BILjava/lang/String;)Z"⟩, 39), (⟨"UnikernelHttpModel", "pageOf", "([BII)I"⟩, 39), (⟨"UnikernelHttpModel", "isSent", "(LUnikernelHttpModel$Peer;)Z"⟩, 39), (⟨"UnikernelHttpModel", "watches", "(LUnikernelHttpModel$Peer;)V"⟩, 39), (⟨"UnikernelHttpModel", "mssOf", "(II)I"⟩, 39), (⟨"UnikernelHttpModel", "begins", "(IIIII)V"⟩, 39), (⟨"UnikernelHttpModel", "piece", "(IIIIIIZ)V"⟩, 39), (⟨"UnikernelHttpModel", "dropGathering", "(I)V"⟩, 39), (⟨"UnikernelHttpModel", "over", "(LUnikernelHttpModel$Peer;)V"⟩, 39), (⟨"UnikernelHttpModel", "isKept", "(I)Z"⟩, 39)]
theorem lw_r8 : ∀ q ∈ lw_privs_8, lw_okq q := List.forall_mem_cons.mpr ⟨lw_p112, List.forall_mem_cons.mpr ⟨lw_p113, List.forall_mem_cons.mpr ⟨lw_p114, List.forall_mem_cons.mpr ⟨lw_p115, List.forall_mem_cons.mpr ⟨lw_p116, List.forall_mem_cons.mpr ⟨lw_p117, List.forall_mem_cons.mpr ⟨lw_p118, List.forall_mem_cons.mpr ⟨lw_p119, List.forall_mem_cons.mpr ⟨lw_p120, List.forall_mem_cons.mpr ⟨lw_p121, List.forall_mem_cons.mpr ⟨lw_p122, List.forall_mem_cons.mpr ⟨lw_p123, List.forall_mem_cons.mpr ⟨lw_p124, List.forall_mem_cons.mpr ⟨lw_p125, List.forall_mem_cons.mpr ⟨lw_p126, List.forall_mem_cons.mpr ⟨lw_p127, fun _ h => absurd h List.not_mem_nil⟩⟩⟩⟩⟩⟩⟩⟩⟩⟩⟩⟩⟩⟩⟩⟩
def lw_privs : List (MethodName × Nat) := lw_privs_1 ++ (lw_privs_2 ++ (lw_privs_3 ++ (lw_privs_4 ++ (lw_privs_5 ++ (lw_privs_6 ++ (lw_privs_7 ++ (lw_privs_8)))))))
def lw_tbl : List Cond := k2_sels lw_privs ++ tables_1
theorem lw_privs_ok : ∀ q ∈ lw_privs, lw_okq q := by
  show ∀ q ∈ lw_privs_1 ++ (lw_privs_2 ++ (lw_privs_3 ++ (lw_privs_4 ++ (lw_privs_5 ++ (lw_privs_6 ++ (lw_privs_7 ++ (lw_privs_8))))))), lw_okq q
  exact List.forall_mem_append.mpr ⟨lw_r1, List.forall_mem_append.mpr ⟨lw_r2, List.forall_mem_append.mpr ⟨lw_r3, List.forall_mem_append.mpr ⟨lw_r4, List.forall_mem_append.mpr ⟨lw_r5, List.forall_mem_append.mpr ⟨lw_r6, List.forall_mem_append.mpr ⟨lw_r7, lw_r8⟩⟩⟩⟩⟩⟩⟩
end
section
/-! Own rows: the words of the tables that stay as they are while the tables grow warmer; a contract may take them all as given at its start (ux_T). -/
def ux_ex : Cond → Bool
  | .arrayOver (.object _) => true
  | .arrayOver (.array _) => true
  | .fieldLinkNest _ _ _ _ _ _ => true
  | .methodLinkNest _ _ _ _ => true
  | _ => false
def ux_gw (w : Cond) : Bool := goodWord w || ((w.onTables && w.faceAtom) || ux_ex w)
theorem ux_over_spec {args : Array Value} {s : State} {t : FieldType} (h : (Cond.arrayOver (.array t)).before args s = true) :
    ∃ comp c k, s.vm.findClass (FieldType.array t).toString = some comp ∧ (s.vm.classes.findIdx? fun (x : Class) => match x.kind with | .array component _ => component == comp | _ => false) = some c ∧ s.vm.classes[c]? = some k ∧ k.kind = .array comp (.array t) ∧ s.vm.findClass ("[" ++ (FieldType.array t).toString) = some c := by
  simp only [Cond.before, Cond.holds, Cond.value, beq_iff_eq] at h
  cases hc : s.vm.findClass (FieldType.array t).toString with
  | none => simp [hc] at h
  | some comp =>
    simp only [hc, Option.bind_some, Option.bind_eq_some_iff, Option.map_eq_some_iff] at h
    obtain ⟨c, hi, k, hk, hb⟩ := h
    obtain ⟨hlt, hp, -⟩ := Array.findIdx?_eq_some_iff_getElem.mp hi
    have hkk : s.vm.classes[c] = k := (Array.getElem?_eq_some_iff.mp hk).2
    rw [hkk] at hp
    cases hkind : k.kind with
    | array component ty =>
      rw [hkind] at hb hp
      simp at hb hp
      exact ⟨comp, c, k, rfl, hi, hk, by rw [hkind, hp, hb.1], hb.2⟩
    | _ => rw [hkind] at hb; simp at hb
theorem ux_over_moved {A A' : Array Value} {u U : State} {t : FieldType} (hvm : u.vm.Alike U.vm) (h : (Cond.arrayOver (.array t)).before A u = true) : (Cond.arrayOver (.array t)).before A' U = true := by
  obtain ⟨comp, c, k, h1, h2, h3, h4, h5⟩ := ux_over_spec h
  obtain ⟨k', hk', he⟩ := hvm.2.2 _ _ h3
  have e1 := va_idx_bare U.vm comp
  have e2 := va_idx_bare u.vm comp
  have e3 : U.vm.bare = u.vm.bare := by first | exact hvm.bare_eq | exact hvm.bare_eq.symm
  rw [e3] at e1
  have hi := (e1.symm.trans e2).trans h2
  have hkind : k'.kind = .array comp (.array t) := by rw [he]; exact h4
  have f1 : U.vm.findClass (FieldType.array t).toString = some comp := by rw [hvm.findClass]; exact h1
  have f2 : U.vm.findClass ("[" ++ (FieldType.array t).toString) = some c := by rw [hvm.findClass]; exact h5
  unfold Cond.before Cond.holds
  simp only [Cond.value]
  rw [f1, Option.bind_some]
  refine (congrArg (fun o : Option Nat => (o.bind (fun c => (U.vm.classes[c]?).map fun (k : Class) => match k.kind with | .array _ ty => decide (ty = FieldType.array t) && decide (U.vm.findClass ("[" ++ (FieldType.array t).toString) = some c) | _ => false) == some true)) hi).trans ?_
  simp [hk', hkind, f2]
theorem ux_warm {A A' : Array Value} {s U : State} (hW : s.WarmedH U.vm) : ∀ {w : Cond}, ux_gw w = true → w.before A s = true → w.before A' U = true := by
  intro w hg h
  rcases (Bool.or_eq_true _ _).mp hg with hq | hg
  · exact word_at hW (good_of_word hq) h
  rcases (Bool.or_eq_true _ _).mp hg with hf | hg
  · have hf := (Bool.and_eq_true _ _).mp hf
    exact va_tabs hf.1 (rfl : (s.setVm U.vm).vm = U.vm) (Cond.faceAtom_setVm (args := A) hW.alike _ hf.2 h)
  · cases w with
    | arrayOver t =>
      cases t with
      | object C => exact va_AO.use (va_AO.moved hW.alike (va_AO.of h))
      | array t => exact ux_over_moved hW.alike h
      | _ => cases hg
    | fieldLinkNest a b c d e f => exact va_Nw.use rfl (va_Nw.warmF hW (va_Nw.of rfl h))
    | methodLinkNest a b c d => exact va_Nw.use rfl (va_Nw.warmM hW (va_Nw.of rfl h))
    | _ => cases hg
/-- all such words of the law's tables hold here -/
def ux_T (U : State) : Prop := ∀ w ∈ lw_tbl, ux_gw w = true → w.before #[] U = true
theorem ux_T_warm {s U : State} (h : ux_T s) (hW : s.WarmedH U.vm) : ux_T U := fun w hw hg => ux_warm hW hg (h w hw hg)
theorem ux_T_call {U : State} (h : ux_T U) (g : JFrame) (mk : MethodId) (a : Array Value) : ux_T (U.calling g mk a) := ux_T_warm h (State.WarmedH.refl U)
theorem ux_T_at {U : State} (h : ux_T U) {w : Cond} (hw : w ∈ lw_tbl) (hg : ux_gw w = true) {A : Array Value} : w.before A U = true := ux_warm (State.WarmedH.refl U) hg (h w hw hg)
theorem ux_in (k : Nat) {w : Cond} {l : List Cond} (hl : ∀ w ∈ l, w ∈ lw_tbl) (h : l[k]? = some w) : w ∈ lw_tbl := hl _ (List.mem_of_getElem? h)
theorem ux_t1 : ∀ w ∈ tables_1_1, w ∈ lw_tbl := fun w h => by unfold lw_tbl tables_1; simp only [List.mem_append]; exact Or.inr (Or.inl h)
theorem ux_t2 : ∀ w ∈ tables_1_2, w ∈ lw_tbl := fun w h => by unfold lw_tbl tables_1; simp only [List.mem_append]; exact Or.inr (Or.inr (Or.inl h))
theorem ux_t3 : ∀ w ∈ tables_1_3, w ∈ lw_tbl := fun w h => by unfold lw_tbl tables_1; simp only [List.mem_append]; exact Or.inr (Or.inr (Or.inr (Or.inl h)))
theorem ux_t4 : ∀ w ∈ tables_1_4, w ∈ lw_tbl := fun w h => by unfold lw_tbl tables_1; simp only [List.mem_append]; exact Or.inr (Or.inr (Or.inr (Or.inr (Or.inl h))))
theorem ux_t5 : ∀ w ∈ tables_1_5, w ∈ lw_tbl := fun w h => by unfold lw_tbl tables_1; simp only [List.mem_append]; exact Or.inr (Or.inr (Or.inr (Or.inr (Or.inr (Or.inl h)))))
theorem ux_t6 : ∀ w ∈ tables_1_6, w ∈ lw_tbl := fun w h => by unfold lw_tbl tables_1; simp only [List.mem_append]; exact Or.inr (Or.inr (Or.inr (Or.inr (Or.inr (Or.inr (Or.inl h))))))
theorem ux_t7 : ∀ w ∈ tables_1_7, w ∈ lw_tbl := fun w h => by unfold lw_tbl tables_1; simp only [List.mem_append]; exact Or.inr (Or.inr (Or.inr (Or.inr (Or.inr (Or.inr (Or.inr (Or.inl h)))))))
theorem ux_t8 : ∀ w ∈ tables_1_8, w ∈ lw_tbl := fun w h => by unfold lw_tbl tables_1; simp only [List.mem_append]; exact Or.inr (Or.inr (Or.inr (Or.inr (Or.inr (Or.inr (Or.inr (Or.inr (Or.inl h))))))))
theorem ux_t9 : ∀ w ∈ tables_1_9, w ∈ lw_tbl := fun w h => by unfold lw_tbl tables_1; simp only [List.mem_append]; exact Or.inr (Or.inr (Or.inr (Or.inr (Or.inr (Or.inr (Or.inr (Or.inr (Or.inr h))))))))
theorem ux_tp {q : MethodName × Nat} (h : q ∈ lw_privs) : Cond.selects q.1.cls q.1 q.1 ∈ lw_tbl := by
  unfold lw_tbl
  exact List.mem_append_left _ (List.mem_map.mpr ⟨q, h, rfl⟩)
/-- a contract's start: its world, its array classes, the tables' words -/
def ux_Pc (av : List Value) (D : va_G) (cl : List vw_C) (ws : va_W) (tys : List (ClassId × FieldType)) (sz : Nat) : Array Value → State → Prop :=
  va_Pc av (fun U => U.heap.size = sz ∧ va_P D cl ws U.heap ∧ va_K D cl tys U ∧ va_D (fun _ => True) ws ∧ ux_T U)
def ux_B (D : va_G) (cl : List vw_C) (A : Nat → Prop) (ws : va_W) (tys : List (ClassId × FieldType)) (t : State) : Prop := va_P D cl ws t.heap ∧ va_K D cl tys t ∧ va_D A ws
theorem ux_pre {s : State} {H : Heap} {D : va_G} {cl : List vw_C} {ws : va_W} {tys : List (ClassId × FieldType)} {A : Nat → Prop} (av : List Value) (hT : ux_T s) (hP : va_P D cl ws H) (hK : va_K D cl tys s) (hD : va_D A ws) : PreS s H (ux_Pc av D cl ws tys H.size) av :=
  ⟨fun a U g mk q => by
    obtain ⟨q0, q1, qP, qK, qD, qT⟩ := q
    exact ⟨q0, q1, qP, va_K.moved (u := U) (U := U.calling g mk a) (Vm.Alike.refl U.vm) qK, qD, ux_T_call qT g mk a⟩,
   fun U hU hW => ⟨rfl, by rw [hU], by rw [hU]; exact hP, va_K.moved hW.alike hK, hD.weaken (fun _ _ _ _ => trivial), ux_T_warm hT hW⟩⟩
theorem ux_preV {s : State} {H : Heap} {D : va_G} {cl : List vw_C} {ws : va_W} {tys : List (ClassId × FieldType)} {A : Nat → Prop} {r : vw_C} {b ci q0 : Nat} {fs : List Value} (As : List Value) (hT : ux_T s) (hP : va_P D cl ws H) (hK : va_K D cl tys s) (hD : va_D A ws) (hc : cl[ci]? = some r) (he : ws[q0]? = some (b, .inr (ci, fs))) : PreV s H r.1 b (ux_Pc (.ref b :: As) D cl ws tys H.size) As :=
  ⟨(ux_pre (.ref b :: As) hT hP hK hD).1, va_recv hK hP hc he, (ux_pre (.ref b :: As) hT hP hK hD).2⟩
/-- the words of a call, by the tables -/
theorem ux_cb {R : Room} {s : State} {args : Array Value} {own : String} {index maxL mc ms : Nat} {y : MethodName} {bytes : ByteArray} {ret : Option FieldType} {rm : Room} (n : Nat) (hT : ux_T s) (h1 : Cond.code y bytes maxL ret ∈ lw_tbl) (h2 : Cond.methodLink own index y ∈ lw_tbl) (h3 : Cond.initialized y.cls ∈ lw_tbl) (hrc : rm.cells = mc) (hrs : rm.slots = ms)
    (hd : y.cls ≠ "java/lang/invoke/MethodHandle" ∧ y.cls ≠ "java/lang/invoke/VarHandle" ∧ (parseMethodDescriptor y.desc).map (fun d => d.parameters.length) = some n) (hR : rm.frames + 1 ≤ R.frames ∧ 8 + (maxL + 11) + rm.locals ≤ R.locals) : CallB R s args own index y bytes maxL ret [Cond.code y bytes maxL ret] rm mc ms n := by
  refine ⟨hrc, hrs, hR.1, hR.2, fun w hw a' U hW => ?_, List.mem_singleton.mpr rfl, ux_T_at hT h1 rfl, ux_T_at hT h3 rfl, ⟨hd.1, hd.2.1⟩, fun sig h => ?_, ux_T_at hT h2 rfl⟩
  · rw [List.mem_singleton] at hw
    subst hw
    exact ux_T_at (ux_T_warm hT hW) h1 rfl
  · have h2 := hd.2.2
    rw [h] at h2
    exact (Option.some.inj h2).symm
theorem ux_cn {R : Room} {s : State} {args : Array Value} {own host : String} {index maxL mc ms : Nat} {y : MethodName} {bytes : ByteArray} {ret : Option FieldType} {rm : Room} (n : Nat) (hT : ux_T s) (h1 : Cond.code y bytes maxL ret ∈ lw_tbl) (h2 : Cond.methodLinkNest own index y host ∈ lw_tbl) (h3 : Cond.initialized y.cls ∈ lw_tbl) (hrc : rm.cells = mc) (hrs : rm.slots = ms)
    (hd : y.cls ≠ "java/lang/invoke/MethodHandle" ∧ y.cls ≠ "java/lang/invoke/VarHandle" ∧ (parseMethodDescriptor y.desc).map (fun d => d.parameters.length) = some n) (hR : rm.frames + 1 ≤ R.frames ∧ 8 + (maxL + 11) + rm.locals ≤ R.locals) : va_CN R s args own index y host bytes maxL ret [Cond.code y bytes maxL ret] rm mc ms n := by
  refine ⟨⟨hrc, hrs, hR.1, hR.2, fun w hw a' U hW => ?_, List.mem_singleton.mpr rfl⟩, ux_T_at hT h1 rfl, ux_T_at hT h3 rfl, ⟨hd.1, hd.2.1⟩, fun sig h => ?_, ux_T_at hT h2 rfl⟩
  · rw [List.mem_singleton] at hw
    subst hw
    exact ux_T_at (ux_T_warm hT hW) h1 rfl
  · have h2 := hd.2.2
    rw [h] at h2
    exact (Option.some.inj h2).symm
end
section
/-! Own rows: methods that return or throw (ux_Met), their call with a handler of the caller's, 'new E(); athrow'. -/
section UXW
variable {p : Program} {l : Launch} {e : Env} {R : Room} {s : State} {m : MethodId} {args : Array Value} {below : List Frame} {meth : Method} {c : Code} {H : Heap} {locs : List Loc} {cells slots : Nat} {Q : State → Prop}
theorem ux_mono {Q' : State → Prop} {g : JFrame} (h : ∀ t, Q t → Q' t) (k : W p l e R s m args below meth c H locs cells slots Q g) : W p l e R s m args below meth c H locs cells slots Q' g := by
  intro T hT X
  obtain ⟨t, a, b⟩ := k T hT X
  exact ⟨t, a, h t b⟩
/-- the end of a walk that returns or throws -/
def ux_E (below : List Frame) (Qc : Array Value → State → Outcome → State → Prop) (a : Array Value) (s : State) (mc ms : Nat) (free : Addr → Prop) : State → Prop := fun t =>
  ∃ o, t.status = .running ∧ Ended t below o ∧ Qc a s o t ∧ ∃ L : List Loc, (s.WarmedH t.vm ∧ s.sameButNew ({ t with vm := s.vm } : State) L mc ms) ∧ ∀ q ∈ L, free q.base
theorem ux_E_of {Qc : Array Value → State → Outcome → State → Prop} {a : Array Value} {mc ms : Nat} {free : Addr → Prop} (t : State) (h : MQ below Qc a s mc ms free t) : ux_E below Qc a s mc ms free t := by
  obtain ⟨o, h1, h2, h3, L, h4, h5⟩ := h
  exact ⟨o, h1, h2, h3, L, h4.2, h5⟩
/-- the contract of a method that returns or throws -/
def ux_Met (l : Launch) (y : MethodName) (ws : List Cond) (rm : Room) (Pc : Array Value → State → Prop) (Qc : Array Value → State → Outcome → State → Prop) (mc ms : Nat) (free : Addr → Prop) : Prop :=
  MetFree l y (headSpec ws rm) Pc (fun _ _ _ _ _ => True) (fun a st o t => Qc a st o t ∧ ∃ L : List Loc, (st.WarmedH t.vm ∧ st.sameButNew ({ t with vm := st.vm } : State) L mc ms) ∧ ∀ q ∈ L, free q.base)
theorem ux_ofW {y : MethodName} {ws ws' : List Cond} {rm : Room} {Pc : Array Value → State → Prop} {Qc : Array Value → State → Outcome → State → Prop} {mc ms : Nat} {free : Addr → Prop} {cc : ByteArray} {maxL : Nat} {ret : Option FieldType}
    (hy : plainName y.cls = true) (hw : ws = Cond.code y cc maxL ret :: ws')
    (body : ∀ p e s m args below meth c s₁, BodyLoose p l y (headSpec ws rm) cc maxL ret e s m args below meth c s₁ → c.maxLocals = maxL → Pc args s →
      W p l e (headSpec ws rm).room s m args below meth c s.heap [] 0 0 (ux_E below Qc args s mc ms free) (entryFrame m args maxL)) : ux_Met l y ws rm Pc Qc mc ms free := by
  refine MetFree.of_bodyS (code := cc) (maxLocals := maxL) (ret := ret) hy ?_ ?_
  · intro args s m h hn
    obtain ⟨meth, c, h1, h2, h3, h4, h5, h6, -, -⟩ := Cond.code_spec hn (atoms_spec (ws := ws) h _ (by rw [hw]; exact List.mem_cons_self))
    exact ⟨meth, c, h1, h2, h3, h4, h5, h6⟩
  · intro p e s m args below meth c s₁ B hml hP _
    have hh0 : s₁.heap = s.heap := by rw [B.state]; rfl
    obtain ⟨t, a1, o, b1, b2, b3, b4⟩ := body p e s m args below meth c s₁ B hml hP s₁ hh0 (Stand.of_body B)
    exact ⟨t, o, a1, b1, b2, b3, b4⟩
/-- a virtual call of such a method: both ends -/
theorem ux_callV {T : State} (X : Stand p l e R s m args below meth c T locs cells slots) (hexec : p.tables.exec = Jvm.exec) {own C : String} {index : Nat} {y : MethodName} {bytes : ByteArray} {maxL : Nat} {ret : Option FieldType}
    {ws : List Cond} {rm : Room} {Pc : Array Value → State → Prop} {Qc : Array Value → State → Outcome → State → Prop} {mc ms : Nat} {free : Addr → Prop}
    (hM : ux_Met l y ws rm Pc Qc mc ms free) (hbl : FrameBlind Pc) (hrc : rm.cells = mc) (hrs : rm.slots = ms) (hfr : rm.frames + 1 ≤ R.frames) (hlo : 8 + (maxL + 11) + rm.locals ≤ R.locals)
    (hws : ∀ w ∈ ws, ∀ (a' : Array Value) (U : State), s.WarmedH U.vm → w.before a' U = true)
    (hown : s.vm.findClass own = some m.cls) (hlink : (Cond.methodLink own index y).before args s = true) (hinst : (Cond.instanceMethod y).before args s = true) (hsel : (Cond.selects C y y).before args s = true)
    (hcode : (Cond.code y bytes maxL ret).before args s = true) (hini : (Cond.initialized y.cls).before args s = true) (hy : y.cls ≠ "java/lang/invoke/MethodHandle" ∧ y.cls ≠ "java/lang/invoke/VarHandle")
    {b : Addr} {cellB : Cell} (hcell : T.heap[b]? = some cellB) (hobj : cellB.vm.isStatics = false) (hcls : s.vm.findClass C = some cellB.cls)
    {g : JFrame} (hg : g.method = m) (hsize : g.locals.size = c.maxLocals) {argsL rest : List Value} (hlen : ∀ sig, parseMethodDescriptor y.desc = some sig → argsL.length = sig.parameters.length)
    (hstack : g.stack = argsL.reverse ++ .ref b :: rest) (hW : 2 * g.monitorRoom + (rest.map fun v => v.category).sum ≤ 8) (hdg : decode c.code g.pc = .ok (.invokevirtual index, 3))
    (hcells : cells + mc ≤ R.cells) (hslots : slots + ms ≤ R.slots) (hPc : ∀ vm₁, s.WarmedH vm₁ → Pc (Value.ref b :: argsL).toArray (T.setVm vm₁)) :
    ∃ (o : Outcome) (st₀ t T' : State) (L : List Loc), st₀.heap = T.heap ∧ Stand p l e R s m args below meth c T' (locs ++ L) (cells + mc) (slots + ms) ∧ (∀ q ∈ L, free q.base) ∧ T'.heap = t.heap ∧ T'.vm = t.vm ∧ Qc (Value.ref b :: argsL).toArray st₀ o t ∧
      (∀ v, o = .returned v → ∀ tg, Steps p.tables e below (T'.setTop { g with pc := g.pc + 3, stack := v.toList ++ rest }) tg → Steps p.tables e below (T.setTop g) tg) ∧
      (∀ x, o = .threw x → ∀ tg, Steps p.tables e below ((T'.setTop { g with stack := rest }).pushFrame (.throwing x)) tg → Steps p.tables e below (T.setTop g) tg) := by
  obtain ⟨mk, methM, hnamed, hmethM, hstM, habM⟩ := Cond.instanceMethod_spec hinst
  obtain ⟨methM', cM, hmethM', -, -, -, -, -, -, hsigM⟩ := Cond.code_spec hnamed hcode
  cases hmethM.symm.trans hmethM'
  obtain ⟨c2, r2, m2, q1, q2, q3, q4, kP, hkP, hkPi⟩ := Cond.selects_spec hsel
  cases hcls.symm.trans q1
  cases (State.methodFound?_of_named hnamed hy).symm.trans q2
  cases hnamed.symm.trans q3
  have hselP : selectMethod e.platform s.vm cellB.cls mk = .method mk := by rw [Launch.admits_selectMethod X.admits]; exact q4
  obtain ⟨vm₁, X₁, hstep₁⟩ := X.invokevirtual hexec hown hlink hnamed hmethM hstM hkP hkPi hy (a := b) (cell := cellB) hcell
    (fun z h => by rw [h] at hobj; cases hobj) hselP hmethM habM hkP hkPi (g := g) hg (argsL := argsL) (rest := rest) (hlen _ hsigM) hstack hdg
  have hg1 : ({ g with stack := rest } : JFrame).method = m := hg
  have hsz1 : ({ g with stack := rest } : JFrame).locals.size = c.maxLocals := hsize
  have hdg1 : decode c.code ({ g with stack := rest } : JFrame).pc = .ok (.invokevirtual index, 3) := hdg
  have hW1 : 2 * ({ g with stack := rest } : JFrame).monitorRoom + ((({ g with stack := rest } : JFrame).stack).map fun v => v.category).sum ≤ 8 := hW
  have hst1 : ({ g with stack := rest } : JFrame).stack = rest := rfl
  have hpc1 : ({ g with stack := rest } : JFrame).pc = g.pc := rfl
  generalize hgg : ({ g with stack := rest } : JFrame) = g1 at hg1 hsz1 hdg1 hW1 hst1 hpc1 hstep₁
  have hU : (T.setVm vm₁).heap = T.heap := rfl
  have hPcU := hPc vm₁ X₁.warmed
  generalize T.setVm vm₁ = U at X₁ hstep₁ hU hPcU
  have hnU : U.methodNamed? y = some mk := X₁.named hnamed
  have hcU : (Cond.code y bytes maxL ret).before args U = true := word_at X₁.warmed (Or.inl (by first | rfl | simp [Cond.onTables, Cond.keeps, Cond.steady])) hcode
  have hiU : (Cond.initialized y.cls).before args U = true := word_at X₁.warmed (Or.inl (by first | rfl | simp [Cond.onTables, Cond.keeps, Cond.steady])) hini
  obtain ⟨methY, cY, hmY, hcY, -, hlY, -⟩ := Cond.code_spec hnU hcU
  obtain ⟨kY, hkY, -⟩ := className_of_methodNamed hnU
  have hinitY : kY.init = .initialized := Cond.initialized_spec (findClass_of_methodNamed hnU) hkY hiU
  have h : At U g1.method c below := by rw [hg1]; exact X₁.here
  have happ : (headSpec ws rm).appliesLoose y e.platform (U.calling g1 mk (Value.ref b :: argsL).toArray) = true :=
    Spec.appliesLoose_calling (g := g1) h hdg1 hnU hkY hinitY
      (X₁.room_calling (g := g1) (R' := rm) hsz1 hmY hcY hfr (by rw [hlY]; omega) (by rw [hrc]; exact hcells) (by rw [hrs]; exact hslots)) (atoms_intro fun w hw => hws w hw _ _ X₁.warmed)
  obtain ⟨mid, hmid⟩ := h.above
  have hfrm : (U.setTop g1).frames = (.java g1 :: mid) ++ below := by rw [State.frames_setTop' g1 h.top, hmid]; rfl
  obtain ⟨o, s₂, hsteps, -, hend, hq, L, hWS, hL⟩ := Steps.callFree hM p X.admits X.cas X.clock (acts := []) hfrm happ (hbl _ _ _ _ hPcU) trivial
  have hW2 : (U.calling g1 mk (Value.ref b :: argsL).toArray).WarmedH s₂.vm := hWS.1
  have hsame : (U.calling g1 mk (Value.ref b :: argsL).toArray).sameButNew ({ s₂ with vm := (U.calling g1 mk (Value.ref b :: argsL).toArray).vm } : State) L mc ms := hWS.2
  rw [State.frames_setTop' g1 h.top, X₁.tail] at hend
  cases o with
  | returned v =>
    obtain ⟨T', X', -, -, ht⟩ := X₁.outOf (g := g1) hg1 hdg1 hend hW2 hsame
    refine ⟨.returned v, U.calling g1 mk (Value.ref b :: argsL).toArray, s₂, T', L, ?_, X', hL, by rw [ht]; simp, by rw [ht]; simp, hq, fun v' hv tg hs => ?_, fun x hx => by cases hx⟩
    · rw [← hU]; simp [State.calling, State.pushFrame, State.setFrames]
    · cases hv
      refine hstep₁ _ fun acts => ?_
      rw [doInvoke_state]
      refine hsteps.trans ?_
      rw [ht, hst1]
      have e3 : ({ g1 with pc := g1.pc + 3, stack := v.toList ++ rest } : JFrame) = { g with pc := g.pc + 3, stack := v.toList ++ rest } := by rw [← hgg]
      rw [e3]
      exact hs
  | threw x =>
    obtain ⟨T', X', -, -, ht⟩ := X₁.outOfThrown (g := g1) hg1 hend hW2 hsame
    refine ⟨.threw x, U.calling g1 mk (Value.ref b :: argsL).toArray, s₂, T', L, ?_, X', hL, by rw [ht]; exact (Stand.throwing_heap T' g1 x).symm, by rw [ht]; exact (Stand.throwing_vm T' g1 x).symm, hq, (fun v hv => by cases hv), fun x' hx tg hs => ?_⟩
    · rw [← hU]; simp [State.calling, State.pushFrame, State.setFrames]
    · cases hx
      refine hstep₁ _ fun acts => ?_
      rw [doInvoke_state]
      refine hsteps.trans ?_
      rw [ht]
      exact hs
/-- the first entry of the table takes it: what the entry names, resolved or not, is what the object is of -/
theorem ux_catch {T : State} (X : Stand p l e R s m args below meth c T locs cells slots) {a : Addr} {g : JFrame} (hg : g.method = m) {own E : String} (hown : s.vm.findClass own = some m.cls)
    {x : ExceptionTableEntry} {more : List ExceptionTableEntry} (htab : c.exceptionTable.toList = x :: more) (hx : covers x g.pc = true) (h0 : x.catchType ≠ 0)
    (hlink : (Cond.classLink own x.catchType E).before args s = true) {cell : Cell} (hcell : T.heap[a]? = some cell) (hobj : cell.vm.isStatics = false) (hcls : s.vm.findClass E = some cell.cls) :
    ∃ vm' : Vm, Stand p l e R s m args below meth c (T.setVm vm') locs cells slots ∧
      ∀ tg, Steps p.tables e below ((T.setVm vm').setTop { g with pc := x.handlerPc, stack := [.ref a] }) tg → Steps p.tables e below ((T.setTop g).pushFrame (.throwing a)) tg := by
  subst hg
  have hpl : e.platform.magicAccessors = ({} : Platform).magicAccessors := by rw [X.admits.platform]
  obtain ⟨cE, hfE, hcl⟩ := Cond.classLink_spec hown hlink e.platform hpl
  cases hcls.symm.trans hfE
  have hclT := X.warmed.classLinks hcl
  obtain ⟨-, hwarm, -⟩ := State.classEntry (e := e) X.warmed hcl
  refine ⟨T.vm.noted g.method.cls x.catchType (.cls cell.cls), X.noted hwarm, fun tg hrest => ?_⟩
  obtain ⟨hra, hrt⟩ := (resolveClass_links e.toSetting hclT).op (op := VmOp.resolveClass g.method.cls x.catchType) rfl
  have hal : s.vm.Alike (T.vm.noted g.method.cls x.catchType (.cls cell.cls)) := hwarm.alike
  obtain ⟨kE, hkE⟩ := Vm.classAt_of_findClass hcls
  obtain ⟨kE', hkE', -⟩ := hal.2.2 _ _ hkE
  have hasg : (T.vm.noted g.method.cls x.catchType (.cls cell.cls)).assignable cell.cls cell.cls = true := by
    show Vm.assignableAux _ (255 + 1) _ _ = true
    rw [Vm.assignableAux]; simp
  have hob : ∀ k, cell.vm ≠ .statics k := fun k => VmData.ne_statics_of hobj k
  obtain ⟨hgo, hw⟩ := X.here.throwing a
  have hvm : ((T.setTop g).pushFrame (.throwing a)).vm = T.vm := Stand.throwing_vm T g a
  have hhp : ((T.setTop g).pushFrame (.throwing a)).heap = T.heap := Stand.throwing_heap T g a
  have hfind : ∀ (Q : Handler → Pre) (E : CtlPost) (d : Bool) (acts : List Action), wp (findHandler g a) Q E e d acts ((T.setTop g).pushFrame (.throwing a)) ↔ Q (.found x.handlerPc) d acts (((T.setTop g).pushFrame (.throwing a)).setVm (T.vm.noted g.method.cls x.catchType (.cls cell.cls))) := by
    intro Q E d acts
    rw [W.findHandler_eq (meth := meth) (code := c) (by rw [hvm]; exact X.method') X.code, htab]
    have hx' : (decide (x.startPc ≤ g.pc) && decide (g.pc < x.endPc)) = true := hx
    simp only [← hvm] at hra hrt hasg hkE'
    have hcell' : ((T.setTop g).pushFrame (.throwing a)).heap[a]? = some cell := by rw [hhp]; exact hcell
    rw [← hvm]
    simp [findHandler.go, hx', h0, hra, hrt, hcell', hob, hkE', hasg, VmOp.dirties, VmOp.acts]
  refine Steps.head hgo hw ?_
  rw [stepThread_throwing (frames_entered X.here.top _)]
  have hstep : (stepThrowing e ((T.setTop g).pushFrame (.throwing a)) a (.java g :: T.frames.tail)).Is ((((T.setTop g).pushFrame (.throwing a)).setVm (T.vm.noted g.method.cls x.catchType (.cls cell.cls))).setFrames (.java { g with pc := x.handlerPc, stack := [.ref a] } :: T.frames.tail)) [] := by
    simp only [stepThrowing, searchFrame, vmDo]
    generalize hr : Sem.go _ e false [] ((T.setTop g).pushFrame (.throwing a)) = res
    obtain ⟨as, rfl, ha⟩ := Sem.eq_ok_of hr (a := Handler.found x.handlerPc) (s' := ((T.setTop g).pushFrame (.throwing a)).setVm (T.vm.noted g.method.cls x.catchType (.cls cell.cls))) (acts' := []) (by simp [hfind _ _ _ _])
    exact ⟨rfl, ha⟩
  rw [hstep.1]
  obtain ⟨g₀, hr⟩ := X.frames_eq
  have hr' : (T.setVm (T.vm.noted g.method.cls x.catchType (.cls cell.cls))).frames = .java g₀ :: below := hr
  rw [State.setTop_of_frames _ hr'] at hrest
  have e1 : (((T.setTop g).pushFrame (.throwing a)).setVm (T.vm.noted g.method.cls x.catchType (.cls cell.cls))).setFrames (.java { g with pc := x.handlerPc, stack := [.ref a] } :: T.frames.tail) = (T.setVm (T.vm.noted g.method.cls x.catchType (.cls cell.cls))).setFrames (.java { g with pc := x.handlerPc, stack := [.ref a] } :: below) := by
    rw [hr, List.tail_cons, State.pushFrame, State.setTop_of_frames _ hr, State.setFrames_setFrames]
    have z : ∀ (F G : List Frame) (w : Vm), ((T.setFrames F).setVm w).setFrames G = (T.setVm w).setFrames G := fun F G w => by
      show ((T.setVm w).setFrames F).setFrames G = _
      rw [State.setFrames_setFrames]
    exact z _ _ _
  rw [e1]
  exact hrest
/-- in the words of a walk: a call that returns, or throws an E that the first entry takes -/
theorem ux_run {Ts : List Cond} {own C E : String} {index : Nat} {y : MethodName} {bytes : ByteArray} {maxL nL n : Nat} {ret : Option FieldType} {cc : ByteArray}
    {ws : List Cond} {rm : Room} {Pc : Array Value → State → Prop} {Qc : Array Value → State → Outcome → State → Prop} {mc ms : Nat} {free : Addr → Prop} {b : Addr} {As rest : List Value} {pc : Nat} {ls : Array Slot} {st0 : List Value}
    {A0 : Nat → Prop} {H0 : Heap}
    (S : CallFix p m c cc nL s args Ts own) (hM : ux_Met l y ws rm Pc Qc mc ms free) (cw : CallW R s args own C index y bytes maxL ret ws rm mc ms n) (hp : PreV s H C b Pc As)
    {x : ExceptionTableEntry} {more : List ExceptionTableEntry} (htab : c.exceptionTable.toList = x :: more) (hx : covers x pc = true) (h0 : x.catchType ≠ 0) (hE : (Cond.classLink own x.catchType E).before args s = true)
    (hn : As.length = n) (hsize : ls.size = nL) (hstack : st0 = As.reverse ++ .ref b :: rest) (hW : (rest.map fun v => v.category).sum ≤ 8) (hdg : decode cc pc = .ok (.invokevirtual index, 3)) (hf : cells + mc ≤ R.cells ∧ slots + ms ≤ R.slots)
    (hS : va_S A0 H0 H locs) (hA : ∀ q, free q → A0 q)
    (hQ : ∀ st₀ o t, Qc (Value.ref b :: As).toArray st₀ o t → va_F A0 st₀ t ∧ ∀ z, o = .threw z → ∃ cell : Cell, t.heap[z]? = some cell ∧ cell.vm.isStatics = false ∧ t.vm.findClass E = some cell.cls)
    (kr : ∀ (v : Option Value) (st₀ t : State) (H1 : Heap) (locs1 : List Loc), st₀.heap = H → t.heap = H1 → s.vm.Alike t.vm → Qc (Value.ref b :: As).toArray st₀ (.returned v) t → va_S A0 H0 H1 locs1 → W p l e R s m args below meth c H1 locs1 (cells + mc) (slots + ms) Q (F0 m (pc + 3) ls (v.toList ++ rest)))
    (kt : ∀ (z : Addr) (st₀ t : State) (H1 : Heap) (locs1 : List Loc), st₀.heap = H → t.heap = H1 → s.vm.Alike t.vm → Qc (Value.ref b :: As).toArray st₀ (.threw z) t → va_S A0 H0 H1 locs1 → W p l e R s m args below meth c H1 locs1 (cells + mc) (slots + ms) Q (F0 m x.handlerPc ls [.ref z])) :
    W p l e R s m args below meth c H locs cells slots Q (F0 m pc ls st0) := by
  obtain ⟨⟨hrc, hrs, hfr, hlo, hws, hcw, hcode, hini, hy, hlen, hl⟩, hin, hse⟩ := cw
  obtain ⟨hxx, hb, hml, ho, -⟩ := S
  obtain ⟨hbl, ⟨cellB, hcB, hoB, hclB⟩, hPc⟩ := hp
  intro T hT X
  have hm0 : (F0 m pc ls st0).monitorRoom = 0 := rfl
  obtain ⟨o, st₀, t, T', L, e0, X', hL, e1, e2, hq, kR, kT⟩ := ux_callV X hxx (C := C) (bytes := bytes) (maxL := maxL) (ret := ret) hM hbl hrc hrs hfr hlo hws ho hl hin hse hcode hini hy (by rw [hT]; exact hcB) hoB hclB (g := F0 m pc ls st0) rfl (hsize.trans hml.symm) (argsL := As) (rest := rest) (fun sig h => hn.trans (hlen sig h)) hstack (by rw [hm0]; omega) (by rw [hb]; exact hdg) hf.1 hf.2
    (fun vm₁ hW₁ => hPc (T.setVm vm₁) hT hW₁)
  have e0' : st₀.heap = H := e0.trans hT
  obtain ⟨⟨hz, hk⟩, hthr⟩ := hQ _ _ _ hq
  rw [e0'] at hz hk
  have hS1 : va_S A0 H0 t.heap (locs ++ L) := ⟨Nat.le_trans hS.1 hz, fun q h1 h2 => by rw [hk q (Nat.lt_of_lt_of_le h1 hS.1) h2]; exact hS.2.1 q h1 h2, fun q hq => by
      rcases List.mem_append.mp hq with h | h
      · exact hS.2.2 q h
      · exact hA _ (hL q h)⟩
  have hal : s.vm.Alike t.vm := by rw [← e2]; exact X'.warmed.alike
  cases o with
  | returned v =>
    obtain ⟨t2, a1, b1⟩ := kr v st₀ t t.heap (locs ++ L) e0' rfl hal hq hS1 T' e1 X'
    exact ⟨t2, kR v rfl t2 a1, b1⟩
  | threw z =>
    obtain ⟨cell, hc1, hc2, hc3⟩ := hthr z rfl
    obtain ⟨vm', X2, kC⟩ := ux_catch X' (a := z) (g := { (F0 m pc ls st0) with stack := rest }) rfl ho htab hx h0 hE (by rw [e1]; exact hc1) hc2 (by rw [← hal.findClass]; exact hc3)
    obtain ⟨t2, a1, b1⟩ := kt z st₀ t t.heap (locs ++ L) e0' rfl hal hq hS1 (T'.setVm vm') e1 X2
    exact ⟨t2, kT z rfl t2 (kC t2 a1), b1⟩
theorem ux_dup {T : State} (X : Stand p l e R s m args below meth c T locs cells slots) (hexec : p.tables.exec = Jvm.exec) {pc : Nat} {ls : Array Slot} {va : Value} {rest : List Value} (hdg : decode c.code pc = .ok (.dup, 1)) (hva : va.category = 1) :
    ∀ tg, Steps p.tables e below (T.setTop (F0 m (pc + 1) ls (va :: va :: rest))) tg → Steps p.tables e below (T.setTop (F0 m pc ls (va :: rest))) tg := by
  intro tg htg
  jvm_step X.here [X.here.top, hexec, hdg, hva]
  exact htg
/-- 'new E(); athrow' where nothing was written before: the method ends, by a new cell, an E -/
theorem ux_throw {cc : ByteArray} {own E : String} {names : List String} {ic iN mc ms : Nat} {pc : Nat} {ls : Array Slot} {Qc : Array Value → State → Outcome → State → Prop} {free : Addr → Prop}
    (hexec : p.tables.exec = Jvm.exec) (htr : e.platform.stackTraces = false) (hb : c.code = cc) (hlk : meth.locks = false) (hnoH : c.exceptionTable.isEmpty = true) (hown : s.vm.findClass own = some m.cls) (hE : Bundle.fit E = true) (hnames : ∀ n ∈ names, Bundle.fit n = true)
    (hat : ∀ a ∈ Bundle.ownAtoms0 own ic E names, a.before args s = true) (hcl : (Cond.classLink own iN E).before args s = true) (hini : (Cond.initialized E).before args s = true) (hsize : ls.size = c.maxLocals)
    (d0 : decode cc pc = .ok (.new iN, 3)) (d3 : decode cc (pc + 3) = .ok (.dup, 1)) (d4 : decode cc (pc + 4) = .ok (.invokespecial ic, 3)) (d7 : decode cc (pc + 7) = .ok (.athrow, 1))
    (hmc : cells + 1 ≤ mc) (hms : slots + 6 ≤ ms) (hRc : cells + 1 ≤ R.cells) (hRs : slots + 6 ≤ R.slots) (hRf : names.length + 3 < R.frames) (hRl : 1 + (13 * (names.length + 1) + 41) ≤ R.locals) (hH : H = s.heap)
    (hq : ∀ (t : State) (z : Addr) (cell : Cell), s.WarmedH t.vm → t.heap[z]? = some cell → cell.vm.isStatics = false → t.vm.findClass E = some cell.cls → s.heap.size ≤ t.heap.size → (∀ q, q < s.heap.size → t.heap[q]? = s.heap[q]?) → Qc args s (.threw z) t) :
    W p l e R s m args below meth c H [] cells slots (ux_E below Qc args s mc ms free) (F0 m pc ls []) := by
  intro T hT X
  subst hb
  obtain ⟨vm', cC, kC, h1, h2, h3, h4, X1, st1⟩ := X.newCold hexec hown hcl (n := 6) (hat (.instantiable E 6) (by simp [Bundle.ownAtoms0])) hini (g := F0 m pc ls []) rfl d0 hRc hRs
  have hs0 : T.heap.size = s.heap.size := by rw [hT, hH]
  have hcellA : ((T.setVm vm').pushCell { cls := cC, slots := kC.instanceTypes.map defaultValue, vm := .none }).heap[T.heap.size]? = some (freshCell cC kC) := by
    have := State.heap_pushCell_size (T.setVm vm') ({ cls := cC, slots := kC.instanceTypes.map defaultValue, vm := .none } : Cell)
    exact this
  obtain ⟨U, hU, hrun, hend, hWU, hsame, ce, hce, hO⟩ := X1.ctorThrow0 hexec htr (ic := ic) hown hE hnames hat (by intro x hx; cases hx) h1 h2 hcellA (by rw [hs0]; exact Nat.le_refl _)
    (g := F0 m (pc + 4) ls [.ref T.heap.size, .ref T.heap.size]) rfl hsize rfl rfl (rest := []) rfl d4 d7 (fun x hx => by
      have : c.exceptionTable.toList = [] := by simpa using hnoH
      rw [this] at hx; cases hx) hRf (by show 2 * 0 + (1 + 0) + _ ≤ _; omega) hlk
  have hkeep : ∀ q, q < s.heap.size → U.heap[q]? = s.heap[q]? := by
    intro q hq
    obtain ⟨c', g1, g2, g3, g4⟩ := hsame.2.2.2.2.2 q s.heap[q] (Array.getElem?_eq_getElem hq)
    have g1' : U.heap[q]? = some c' := g1
    rw [g1', Array.getElem?_eq_getElem hq]
    have hsl : c'.slots = (s.heap[q]).slots := Array.ext_getElem? fun i => g4 i (by intro hh; cases hh)
    rw [g2, hsl]
  refine ⟨U, ?_, .threw T.heap.size, hrun, hend, hq U T.heap.size ce hWU hce (by rw [hO.vm]; rfl) (by rw [hWU.alike.findClass]; exact hO.cls) (by have := hsame.2.1; exact this) hkeep, [], ⟨hWU, hsame.mono hmc hms⟩, by intro q hq; cases hq⟩
  refine st1 _ ?_
  exact ux_dup X1 hexec d3 rfl _ hU
end UXW
end
section
/-! Own row: 'multianewarray' of two dimensions over bytes: what was there stays, the new cells lie behind it. -/
section UXM
variable {E : CtlPost} {e : Env} {d : Bool} {acts : List Action} {s : State}
theorem ux_wpNew {ca comp : ClassId} {k : Class} {ty : FieldType} {n : Nat} {v : Value} (hk : s.vm.classes[ca]? = some k) (hkind : k.kind = .array comp ty) (h1 : ¬ n > e.platform.arrayLengthLimit) (h2 : ¬ n * componentBytes ty > e.platform.maxHeapBytes)
    (hf : fits ty v = true) (hdv : v.isDefault = true) (hc : s.heap.size < e.platform.maxCells) (hs : s.slotsUsed + n ≤ e.platform.maxSlots) {Q : Addr → Pre} (hq : Q s.heap.size d acts (s.pushCell { cls := ca, slots := Array.replicate n v, vm := .none })) : wp (Jvm.newArray ca n v) Q E e d acts s := by
  have hfs : ∀ i w, (Array.replicate n v)[i]? = some w → s.fitsSlot ca .none i w = true := by
    intro i w hw
    rw [Array.getElem?_replicate] at hw
    split at hw
    · cases hw
      simp [State.fitsSlot, State.slotType?, hk, hkind, hf]
    · cases hw
  have hda : allocActs (Array.replicate n v) s.heap.size acts = acts := by
    unfold allocActs
    rw [if_pos]
    rw [Array.all_replicate]
    split <;> simp [hdv]
  simp only [Jvm.newArray, Jvm.arrayFits, wp_bind', W.ask, W.ite, h1, if_false, wp_pure', W.theClass, hk, hkind, h2, W.alloc, W.stop, Option.some.injEq, exists_eq_left', Array.size_replicate, hda]
  rw [if_neg (by omega)]
  exact ⟨hc, hs, hfs, hq⟩
end UXM
/-- the outer row when i of its places are filled; h: its address -/
def ux_oc (ca : ClassId) (N h : Nat) : Nat → Cell
  | 0 => { cls := ca, slots := Array.replicate N .null, vm := .none }
  | i + 1 => (ux_oc ca N h i).setSlot i (.ref (h + 1 + i))
def ux_ic (comp : ClassId) (M : Nat) : Cell := { cls := comp, slots := Array.replicate M (.int 0), vm := .none }
def ux_z (T : State) (ca comp : ClassId) (N M : Nat) : Nat → State
  | 0 => T.pushCell (ux_oc ca N T.heap.size 0)
  | i + 1 => ((ux_z T ca comp N M i).pushCell (ux_ic comp M)).setCell T.heap.size (ux_oc ca N T.heap.size (i + 1))
theorem ux_oc_facts (ca : ClassId) (N h : Nat) : ∀ i, (ux_oc ca N h i).cls = ca ∧ (ux_oc ca N h i).vm = .none ∧ (ux_oc ca N h i).slots.size = N
  | 0 => ⟨rfl, rfl, by simp [ux_oc]⟩
  | i + 1 => by
    obtain ⟨h1, h2, h3⟩ := ux_oc_facts ca N h i
    exact ⟨by simp [ux_oc, Cell.setSlot, h1], by simp [ux_oc, Cell.setSlot, h2], by simp [ux_oc, Cell.setSlot, h3]⟩
theorem ux_z_facts (T : State) (ca comp : ClassId) (N M : Nat) : ∀ i, (ux_z T ca comp N M i).heap.size = T.heap.size + 1 + i ∧ (ux_z T ca comp N M i).heap[T.heap.size]? = some (ux_oc ca N T.heap.size i) ∧ (ux_z T ca comp N M i).vm = T.vm ∧ (ux_z T ca comp N M i).slotsUsed = T.slotsUsed + N + i * M ∧ ∀ a, a < T.heap.size → (ux_z T ca comp N M i).heap[a]? = T.heap[a]?
  | 0 => ⟨by simp [ux_z], State.heap_pushCell_size _ _, rfl, by simp [ux_z, ux_oc], fun a ha => State.heap_pushCell_of_lt _ _ ha⟩
  | i + 1 => by
    obtain ⟨h1, h2, h3, h4, h5⟩ := ux_z_facts T ca comp N M i
    have hlt : T.heap.size < (ux_z T ca comp N M i).heap.size := by omega
    have h6 : ((ux_z T ca comp N M i).pushCell (ux_ic comp M)).heap[T.heap.size]? = some (ux_oc ca N T.heap.size i) := by rw [State.heap_pushCell_of_lt (h := hlt)]; exact h2
    refine ⟨?_, State.heap_setCell_self h6, by simp [ux_z, h3], ?_, fun a ha => ?_⟩
    · simp [ux_z, State.setCell, h1]; omega
    · simp [ux_z, h4, ux_ic, Nat.succ_mul]; omega
    · show (((ux_z T ca comp N M i).pushCell (ux_ic comp M)).setCell T.heap.size _).heap[a]? = _
      have ha2 : a < (ux_z T ca comp N M i).heap.size := by omega
      rw [State.heap_setCell_other (Nat.ne_of_gt ha), State.heap_pushCell_of_lt (h := ha2)]
      exact h5 a ha
theorem ux_z_top (T : State) (f : JFrame) (ca comp : ClassId) (N M : Nat) : ∀ i, ux_z (T.setTop f) ca comp N M i = (ux_z T ca comp N M i).setTop f
  | 0 => rfl
  | i + 1 => by simp only [ux_z, ux_z_top T f ca comp N M i, State.heap_setTop, State.pushCell_setTop, State.setCell_setTop]
theorem ux_refFits {t : FieldType} (h : t.isReference = true) (v : Value) (hv : v = .null ∨ ∃ a, v = .ref a) : fits t v = true := by
  rcases hv with rfl | ⟨a, rfl⟩ <;> cases t <;> simp [FieldType.isReference] at h <;> rfl
section UXL
variable {E : CtlPost} {e : Env} {d : Bool} {acts : List Action} {s : State}
theorem ux_wpInner {comp cc : ClassId} {k : Class} {n : Int32} (hk : s.vm.classes[comp]? = some k) (hkind : k.kind = .array cc .byte) (hn : ¬ n < 0) (h1 : ¬ n.toNatClampNeg > e.platform.arrayLengthLimit) (h2 : ¬ n.toNatClampNeg * componentBytes .byte > e.platform.maxHeapBytes)
    (hc : s.heap.size < e.platform.maxCells) (hs : s.slotsUsed + n.toNatClampNeg ≤ e.platform.maxSlots) {Q : Addr → Pre} (hq : Q s.heap.size d acts (s.pushCell (ux_ic comp n.toNatClampNeg))) : wp (multianewarray.make comp [n]) Q E e d acts s := by
  rw [multianewarray.make]
  simp only [wp_bind', W.ite, hn, if_false, wp_pure', W.theClass, hk, hkind, Option.some.injEq, exists_eq_left']
  exact ux_wpNew hk hkind h1 h2 rfl rfl hc hs hq
theorem ux_wpMake {ca comp cc : ClassId} {kA kC : Class} {n k : Int32} (hkA : s.vm.classes[ca]? = some kA) (hA : kA.kind = .array comp (.array .byte)) (hkC : s.vm.classes[comp]? = some kC) (hC : kC.kind = .array cc .byte) (hn : ¬ n < 0) (hk : ¬ k < 0)
    (h1 : ¬ n.toNatClampNeg > e.platform.arrayLengthLimit) (h2 : ¬ n.toNatClampNeg * componentBytes (.array .byte) > e.platform.maxHeapBytes) (h3 : ¬ k.toNatClampNeg > e.platform.arrayLengthLimit) (h4 : ¬ k.toNatClampNeg * componentBytes .byte > e.platform.maxHeapBytes)
    (hc : s.heap.size + 1 + n.toNatClampNeg ≤ e.platform.maxCells) (hs : s.slotsUsed + n.toNatClampNeg + n.toNatClampNeg * k.toNatClampNeg ≤ e.platform.maxSlots)
    {Q : Addr → Pre} (hq : ∀ d' acts', Q s.heap.size d' acts' (ux_z s ca comp n.toNatClampNeg k.toNatClampNeg n.toNatClampNeg)) : wp (multianewarray.make ca [n, k]) Q E e d acts s := by
  have hfind : ([k].find? (· < 0)) = none := by simp [hk]
  generalize hN : n.toNatClampNeg = N at h1 h2 hc hs hq
  rw [multianewarray.make]
  simp only [wp_bind', W.ite, hn, if_false, wp_pure', W.theClass, hkA, hA, Option.some.injEq, exists_eq_left', hN]
  refine ux_wpNew hkA hA h1 h2 rfl rfl (by omega) (by have := Nat.zero_le (N * k.toNatClampNeg); omega) ?_
  simp only [hfind]
  rw [ite_self, wp_bind', Std.Legacy.Range.forIn_eq_forIn_range']
  have hsz : ([:N] : Std.Legacy.Range).size = N := by simp [Std.Legacy.Range.size]
  rw [hsz]
  show wp (forIn (List.range' 0 N 1) PUnit.unit _) _ E e d acts _
  refine wp_forIn_inv (fun l u => ∃ i, i ≤ N ∧ l = List.range' i (N - i) ∧ u = ux_z s ca comp N k.toNatClampNeg i) _ _ ⟨0, Nat.zero_le _, rfl, rfl⟩ ?_ ?_
  · rintro x l u d' acts' Q' ⟨i, hi, hl, rfl⟩ hnext
    have hlt : i < N := by
      rcases Nat.lt_or_ge i N with h | h
      · exact h
      · rw [show N - i = 0 by omega] at hl; cases hl
    rw [show N - i = (N - (i + 1)) + 1 by omega, List.range'_succ] at hl
    obtain ⟨rfl, rfl⟩ := List.cons.inj hl
    obtain ⟨f1, f2, f3, f4, f5⟩ := ux_z_facts s ca comp N k.toNatClampNeg x
    obtain ⟨o1, o2, o3⟩ := ux_oc_facts ca N s.heap.size x
    have hmul : x * k.toNatClampNeg + k.toNatClampNeg ≤ N * k.toNatClampNeg := by
      have := Nat.mul_le_mul_right k.toNatClampNeg (show x + 1 ≤ N from hlt)
      rw [Nat.succ_mul] at this
      exact this
    simp only [wp_bind']
    refine ux_wpInner (by rw [f3]; exact hkC) hC hk h3 h4 (by rw [f1]; omega) (by rw [f4]; omega) ?_
    have hlt0 : s.heap.size < (ux_z s ca comp N k.toNatClampNeg x).heap.size := by rw [f1]; omega
    simp only [wp_bind', W.writeLoc, wp_pure']
    refine ⟨ux_oc ca N s.heap.size x, by rw [State.heap_pushCell_of_lt (h := hlt0)]; exact f2, by rw [o2]; simp, by rw [o3]; exact hlt, ?_, hnext _ _ _ ⟨x + 1, hlt, rfl, ?_⟩⟩
    · rw [o1, o2]
      simp [State.fitsSlot, State.slotType?, f3, hkA, hA]
      exact ux_refFits (t := .array .byte) rfl _ (Or.inr ⟨_, rfl⟩)
    · rw [f1]; rfl
  · rintro u d' acts' ⟨i, hi, hl, rfl⟩
    have hiN : i = N := by
      rcases Nat.lt_or_ge i N with h | h
      · rw [show N - i = (N - (i + 1)) + 1 by omega, List.range'_succ] at hl; cases hl
      · omega
    subst hiN
    simp only [wp_pure']
    exact hq _ _
end UXL
section UXN
variable {p : Program} {l : Launch} {e : Env} {R : Room} {s : State} {m : MethodId} {args : Array Value} {below : List Frame} {meth : Method} {c : Code} {H : Heap} {locs : List Loc} {cells slots : Nat} {Q : State → Prop}
theorem ux_z_stand {T : State} (X : Stand p l e R s m args below meth c T locs cells slots) (ca comp : ClassId) (N M : Nat) :
    ∀ i, Stand p l e R s m args below meth c (ux_z T ca comp N M i) (locs ++ (List.range i).map fun j => ⟨T.heap.size, j⟩) (cells + 1 + i) (slots + N + i * M)
  | 0 => by
    have h := X.pushed (ux_oc ca N T.heap.size 0)
    rw [(ux_oc_facts ca N T.heap.size 0).2.2] at h
    simpa [ux_z] using h
  | i + 1 => by
    have Xi := ux_z_stand X ca comp N M i
    obtain ⟨f1, f2, f3, f4, f5⟩ := ux_z_facts T ca comp N M i
    have hlt0 : T.heap.size < (ux_z T ca comp N M i).heap.size := by rw [f1]; omega
    have hcell : ((ux_z T ca comp N M i).pushCell (ux_ic comp M)).heap[T.heap.size]? = some (ux_oc ca N T.heap.size i) := by rw [State.heap_pushCell_of_lt (h := hlt0)]; exact f2
    have h := (Xi.pushed (ux_ic comp M)).stored hcell i (.ref (T.heap.size + 1 + i))
    have e1 : (ux_ic comp M).slots.size = M := by simp [ux_ic]
    rw [e1] at h
    have e2 : (locs ++ (List.range (i + 1)).map fun j => (⟨T.heap.size, j⟩ : Loc)) = (locs ++ (List.range i).map fun j => (⟨T.heap.size, j⟩ : Loc)) ++ [⟨T.heap.size, i⟩] := by simp [List.range_succ, List.append_assoc]
    have e3 : slots + N + (i + 1) * M = slots + N + i * M + M := by rw [Nat.succ_mul]; omega
    rw [e2, e3]
    exact h
theorem ux_multi {cc : ByteArray} {own : String} {index pc N M : Nat} {n k : Int32} {ls : Array Slot} {rest : List Value} {D : va_G} {cl : List vw_C} {ws : va_W} {A : Nat → Prop} {H0 : Heap}
    (hexec : p.tables.exec = Jvm.exec) (hb : c.code = cc) (hown : s.vm.findClass own = some m.cls) (hcl : (Cond.classLink own index "[[B").before args s = true) (hover : (Cond.arrayOver (.array .byte)).before args s = true) (harr : (Cond.arrayClass .byte).before args s = true)
    (hP : va_P D cl ws H) (hS : va_S A H0 H locs) (hA : ∀ q, H0.size ≤ q → A q)
    (hn : ¬ n < 0) (hk : ¬ k < 0) (hN : n.toNatClampNeg = N) (hM : k.toNatClampNeg = M) (hb1 : N ≤ 1000000) (hb2 : M ≤ 1000000) (hcells : cells + (1 + N) ≤ R.cells) (hslots : slots + (N + N * M) ≤ R.slots) (hdg : decode cc pc = .ok (.multianewarray index 2, 4))
    (kk : ∀ (q : Nat) (H1 : Heap) (locs1 : List Loc), va_P D cl ws H1 → va_S A H0 H1 locs1 → W p l e R s m args below meth c H1 locs1 (cells + 1 + N) (slots + N + N * M) Q (F0 m (pc + 4) ls (.ref q :: rest))) :
    W p l e R s m args below meth c H locs cells slots Q (F0 m pc ls (.int k :: .int n :: rest)) := by
  intro T hT X
  subst hb
  subst hN
  subst hM
  have hpl : e.platform.magicAccessors = ({} : Platform).magicAccessors := by rw [X.admits.platform]
  obtain ⟨comp, ca, kA, hcomp, -, hkA, hkindA, hnameA⟩ := ux_over_spec hover
  obtain ⟨comp', kC, cc', hcomp', hkC, hkindC⟩ := Cond.arrayClass_spec harr
  have ec : comp' = comp := Option.some.inj (hcomp'.symm.trans hcomp)
  subst ec
  obtain ⟨c0, hfc0, hcl0⟩ := Cond.classLink_spec hown hcl e.platform hpl
  have e0 : c0 = ca := Option.some.inj (hfc0.symm.trans hnameA)
  subst e0
  obtain ⟨hg1, hwarm, -⟩ := State.classEntry (e := e) X.warmed hcl0
  generalize T.vm.noted m.cls index (.cls c0) = vm1 at hg1 hwarm
  obtain ⟨kA1, hkA1, heA⟩ := hwarm.alike.2.2 _ _ hkA
  obtain ⟨kC1, hkC1, heC⟩ := hwarm.alike.2.2 _ _ hkC
  have hkA2 : kA1.kind = .array comp' (.array .byte) := by rw [heA]; exact hkindA
  have hkC2 : kC1.kind = .array cc' .byte := by rw [heC]; exact hkindC
  have X1 := X.noted hwarm
  have XF := ux_z_stand X1 c0 comp' n.toNatClampNeg k.toNatClampNeg n.toNatClampNeg
  obtain ⟨f1, f2, f3, f4, f5⟩ := ux_z_facts (T.setVm vm1) c0 comp' n.toNatClampNeg k.toNatClampNeg n.toNatClampNeg
  have hTh : (T.setVm vm1).heap = H := hT
  rw [hTh] at f1 f5
  have hPz : va_P D cl ws (ux_z (T.setVm vm1) c0 comp' n.toNatClampNeg k.toNatClampNeg n.toNatClampNeg).heap := hP.kept (fun i q hq => f5 q.1 ((hP i q hq).lt))
  have hSz : va_S A H0 (ux_z (T.setVm vm1) c0 comp' n.toNatClampNeg k.toNatClampNeg n.toNatClampNeg).heap (locs ++ (List.range n.toNatClampNeg).map fun j => ⟨(T.setVm vm1).heap.size, j⟩) := by
    refine ⟨Nat.le_trans hS.1 (by rw [f1]; omega), fun q h1 h2 => by rw [f5 q (Nat.lt_of_lt_of_le h1 hS.1)]; exact hS.2.1 q h1 h2, fun q hq => ?_⟩
    rcases List.mem_append.mp hq with h | h
    · exact hS.2.2 q h
    · obtain ⟨j, -, rfl⟩ := List.mem_map.mp h
      exact hA _ (by show H0.size ≤ (T.setVm vm1).heap.size; rw [hTh]; exact hS.1)
  obtain ⟨t, a1, b1⟩ := kk T.heap.size _ _ hPz hSz _ rfl XF
  refine ⟨t, ?_, b1⟩
  obtain ⟨hr1, hr2⟩ := X.roomAbove hcells hslots
  have hl1 : ¬ n.toNatClampNeg > e.platform.arrayLengthLimit := by rw [Launch.admits_arrayLengthLimit X.admits]; omega
  have hh1 : ¬ n.toNatClampNeg * componentBytes (.array .byte) > e.platform.maxHeapBytes := by
    rw [Launch.admits_maxHeapBytes X.admits]; show ¬ n.toNatClampNeg * 4 > 536870912; omega
  have hl2 : ¬ k.toNatClampNeg > e.platform.arrayLengthLimit := by rw [Launch.admits_arrayLengthLimit X.admits]; omega
  have hh2 : ¬ k.toNatClampNeg * componentBytes .byte > e.platform.maxHeapBytes := by
    rw [Launch.admits_maxHeapBytes X.admits]; show ¬ k.toNatClampNeg * 1 > 536870912; omega
  jvm_step X.here [hexec, hdg]
  simp only [multianewarray.sem, wp_bind', W.resolveClassAt_links (State.method?_setTop (F0 m pc ls (.int k :: .int n :: rest)) X.here.top) hg1]
  rw [W.popN, if_neg (by decide)]
  refine ⟨F0 m pc ls (.int k :: .int n :: rest), State.topJava?_setTop' (s := T.setVm vm1) _ X.here.top, [.int n, .int k], rest, rfl, rfl, ?_⟩
  simp only [List.mapM_cons, List.mapM_nil, wp_bind', wp_pure']
  refine ux_wpMake (kA := kA1) (kC := kC1) (comp := comp') (cc := cc') hkA1 hkA2 hkC1 hkC2 hn hk hl1 hh1 hl2 hh2 (by show T.heap.size + 1 + _ ≤ _; omega) (by show T.slotsUsed + _ + _ ≤ _; omega) (fun d' acts' => ?_)
  have eS : ((T.setTop (F0 m pc ls (.int k :: .int n :: rest))).setVm vm1).setTop { (F0 m pc ls (.int k :: .int n :: rest)) with stack := rest } = (T.setVm vm1).setTop { (F0 m pc ls (.int k :: .int n :: rest)) with stack := rest } := by
    show ((T.setVm vm1).setTop _).setTop _ = _
    rw [State.setTop_setTop]
  rw [eS, ux_z_top]
  simp only [wp_bind', W.mark, W.pushRef, State.topJava?_setTop' _ XF.here.top, Option.some.injEq, exists_eq_left', State.setTop_setTop, State.heap_setTop]
  intro acts
  simp [jvm, XF.here.top]
  exact a1
end UXN
end
section
/-! Own rows: a throw behind pure calls; the words on Throwable's statics; a static call of a method with a table. -/
def ux_W4 : List Cond := [.laysStatic "java/lang/Throwable" "UNASSIGNED_STACK" "[Ljava/lang/StackTraceElement;", .laysStatic "java/lang/Throwable" "SUPPRESSED_SENTINEL" "Ljava/util/List;", .isRef (.static "java/lang/Throwable" "UNASSIGNED_STACK" "[Ljava/lang/StackTraceElement;"), .isRef (.static "java/lang/Throwable" "SUPPRESSED_SENTINEL" "Ljava/util/List;")]
def ux_H (U : State) : Prop := ∀ w ∈ ux_W4, ∀ A : Array Value, w.before A U = true
theorem ux_lay_move {o n d : String} {A A' : Array Value} {s U : State} (hW : s.WarmedH U.vm) (hh : ∀ q, q < s.heap.size → U.heap[q]? = s.heap[q]?) (h : (Cond.laysStatic o n d).before A s = true) : (Cond.laysStatic o n d).before A' U = true := by
  have h1 : (Cond.laysStatic o n d).before A (s.setVm U.vm) = true := by
    have := Cond.value_setVm₂ (args := A) (o := none) hW.alike hW.alike (.laysStatic o n d) [] rfl
    unfold Cond.before Cond.holds at h ⊢
    rw [this]
    exact h
  unfold Cond.before Cond.holds at h1 ⊢
  simp only [Cond.value, beq_iff_eq] at h1 ⊢
  have e1 : (s.setVm U.vm).vm = U.vm := rfl
  have e2 : (s.setVm U.vm).fieldFound? o n d = U.fieldFound? o n d := rfl
  have e3 : (s.setVm U.vm).heap = s.heap := rfl
  rw [e1, e2, e3] at h1
  cases hc : U.vm.findClass o with
  | none => simp [hc] at h1
  | some c =>
    cases hf : U.fieldFound? o n d with
    | none => simp [hc, hf] at h1
    | some r =>
      obtain ⟨c', k, i, f⟩ := r
      simp only [hc, hf] at h1 ⊢
      cases hs : k.statics with
      | none => simp [hs] at h1
      | some a =>
        simp only [hs, Option.bind_some] at h1 ⊢
        cases ha : s.heap[a]? with
        | none => simp [ha] at h1
        | some cell =>
          have hlt : a < s.heap.size := (Array.getElem?_eq_some_iff.mp ha).1
          rw [hh a hlt]
          exact h1
theorem ux_ref_move {o n d : String} {A A' : Array Value} {s U : State} (hW : s.WarmedH U.vm) (hh : ∀ q, q < s.heap.size → U.heap[q]? = s.heap[q]?) (h : (Cond.isRef (.static o n d)).before A s = true) : (Cond.isRef (.static o n d)).before A' U = true := by
  have h1 : (Cond.isRef (.static o n d)).before A (s.setVm U.vm) = true := by
    have := Cond.value_setVm₂ (args := A) (o := none) hW.alike hW.alike (.isRef (.static o n d)) [] rfl
    unfold Cond.before Cond.holds at h ⊢
    rw [this]
    exact h
  unfold Cond.before Cond.holds at h1 ⊢
  simp only [Cond.value, Term.eval, beq_iff_eq] at h1 ⊢
  have e2 : (s.setVm U.vm).fieldNamed? o n d true = U.fieldNamed? o n d true := rfl
  have e3 : (s.setVm U.vm).heap = s.heap := rfl
  rw [e2, e3] at h1
  cases hf : U.fieldNamed? o n d true with
  | none => simp [hf] at h1
  | some r =>
    obtain ⟨c', k, i⟩ := r
    simp only [hf, Option.bind_eq_bind, Option.bind_some] at h1 ⊢
    cases hs : k.statics with
    | none => simp [hs] at h1
    | some a =>
      simp only [hs, Option.bind_some] at h1 ⊢
      cases ha : s.heap[a]? with
      | none => simp [ha] at h1
      | some cell =>
        have hlt : a < s.heap.size := (Array.getElem?_eq_some_iff.mp ha).1
        rw [hh a hlt]
        exact h1
theorem ux_H_move {s U : State} (hW : s.WarmedH U.vm) (hh : ∀ q, q < s.heap.size → U.heap[q]? = s.heap[q]?) (h : ux_H s) : ux_H U := by
  intro w hw A
  simp only [ux_W4, List.mem_cons, List.not_mem_nil, or_false] at hw
  rcases hw with rfl | rfl | rfl | rfl
  · exact ux_lay_move (A := #[]) hW hh (h _ (by simp [ux_W4]) _)
  · exact ux_lay_move (A := #[]) hW hh (h _ (by simp [ux_W4]) _)
  · exact ux_ref_move (A := #[]) hW hh (h _ (by simp [ux_W4]) _)
  · exact ux_ref_move (A := #[]) hW hh (h _ (by simp [ux_W4]) _)
theorem ux_off {l : Launch} {e : Env} (hf : l.flags = flags0) (ha : l.admits e) : e.platform.stackTraces = false := by
  obtain ⟨-, -, -, -, hp, -⟩ := ha
  rw [hp]
  show l.stackTraces = false
  unfold Launch.stackTraces
  rw [hf]
  decide
/-- a contract's start where something may be thrown -/
def ux_PcH (av : List Value) (D : va_G) (cl : List vw_C) (ws : va_W) (tys : List (ClassId × FieldType)) (sz : Nat) : Array Value → State → Prop := fun v U => ux_Pc av D cl ws tys sz v U ∧ ux_H U
/-- a contract's end by an E -/
def ux_X (E : String) (A : Nat → Prop) : Array Value → State → Outcome → State → Prop := fun _ st o t => (∃ (z : Addr) (cell : Cell), o = .threw z ∧ t.heap[z]? = some cell ∧ cell.vm.isStatics = false ∧ t.vm.findClass E = some cell.cls) ∧ va_F A st t
theorem ux_preH {s : State} {H : Heap} {D : va_G} {cl : List vw_C} {ws : va_W} {tys : List (ClassId × FieldType)} {A : Nat → Prop} (av : List Value) (hT : ux_T s) (hH : ux_H s) (hh : ∀ q, q < s.heap.size → H[q]? = s.heap[q]?) (hP : va_P D cl ws H) (hK : va_K D cl tys s) (hD : va_D A ws) : PreS s H (ux_PcH av D cl ws tys H.size) av :=
  ⟨fun a U g mk q => ⟨(ux_pre av hT hP hK hD).1 a U g mk q.1, ux_H_move (s := U) (U := U.calling g mk a) (State.WarmedH.refl U) (fun _ _ => rfl) q.2⟩,
   fun U hU hW => ⟨(ux_pre av hT hP hK hD).2 U hU hW, ux_H_move hW (fun q hq => by rw [hU]; exact hh q hq) hH⟩⟩
theorem ux_preHV {s : State} {H : Heap} {D : va_G} {cl : List vw_C} {ws : va_W} {tys : List (ClassId × FieldType)} {A : Nat → Prop} {r : vw_C} {b ci q0 : Nat} {fs : List Value} (As : List Value) (hT : ux_T s) (hH : ux_H s) (hh : ∀ q, q < s.heap.size → H[q]? = s.heap[q]?) (hP : va_P D cl ws H) (hK : va_K D cl tys s) (hD : va_D A ws) (hc : cl[ci]? = some r) (he : ws[q0]? = some (b, .inr (ci, fs))) : PreV s H r.1 b (ux_PcH (.ref b :: As) D cl ws tys H.size) As :=
  ⟨(ux_preH (.ref b :: As) hT hH hh hP hK hD).1, va_recv hK hP hc he, (ux_preH (.ref b :: As) hT hH hh hP hK hD).2⟩
/-- nothing of a world is a cell of statics -/
theorem ux_ns {D : va_G} {cl : List vw_C} {ws : va_W} {H : Heap} (hP : va_P D cl ws H) : ∀ (q : Nat) (cell : Cell), va_A ws H.size q → H[q]? = some cell → cell.vm.isStatics = false := by
  intro q cell hA hc
  rcases hA with ⟨k, e, he⟩ | h
  · have h1 := hP k _ he
    cases e with
    | inl x =>
      have h2 : H[q]? = some (vp_cell x.1 x.2) := h1
      rw [hc] at h2
      cases h2
      obtain ⟨c0, n, b⟩ := x
      rcases b with f | f | f | f | f <;> rfl
    | inr o =>
      obtain ⟨r, -, cell', h2, -, h3, -⟩ := h1
      have h2' : H[q]? = some cell' := h2
      rw [hc] at h2'
      cases h2'
      rw [h3]
      rfl
  · rw [Array.getElem?_eq_none (by exact h)] at hc
    cases hc
section UXT
variable {p : Program} {l : Launch} {e : Env} {R : Room} {s : State} {m : MethodId} {args : Array Value} {below : List Frame} {meth : Method} {c : Code} {H : Heap} {locs : List Loc} {cells slots : Nat} {Q : State → Prop}
theorem ux_throwX {cc : ByteArray} {own E : String} {names : List String} {ic iN mc ms : Nat} {pc : Nat} {ls : Array Slot} {A : Nat → Prop}
    (hexec : p.tables.exec = Jvm.exec) (htr : e.platform.stackTraces = false) (hb : c.code = cc) (hlk : meth.locks = false) (hnoH : c.exceptionTable.isEmpty = true) (hown : s.vm.findClass own = some m.cls) (hE : Bundle.fit E = true) (hnames : ∀ n ∈ names, Bundle.fit n = true)
    (hat : ∀ a ∈ Bundle.ownAtoms0 own ic E names, a.before args s = true) (hcl : (Cond.classLink own iN E).before args s = true) (hini : (Cond.initialized E).before args s = true) (hsize : ls.size = c.maxLocals)
    (d0 : decode cc pc = .ok (.new iN, 3)) (d3 : decode cc (pc + 3) = .ok (.dup, 1)) (d4 : decode cc (pc + 4) = .ok (.invokespecial ic, 3)) (d7 : decode cc (pc + 7) = .ok (.athrow, 1))
    (hmc : cells + 1 ≤ mc) (hms : slots + 6 ≤ ms) (hRc : cells + 1 ≤ R.cells) (hRs : slots + 6 ≤ R.slots) (hRf : names.length + 3 < R.frames) (hRl : 1 + (13 * (names.length + 1) + 41) ≤ R.locals)
    (hS : va_S A s.heap H locs) (hns : ∀ (q : Nat) (cell : Cell), A q → s.heap[q]? = some cell → cell.vm.isStatics = false) :
    W p l e R s m args below meth c H locs cells slots (ux_E below (ux_X E A) args s mc ms A) (F0 m pc ls []) := by
  intro T hT X
  subst hb
  obtain ⟨vm', cC, kC, h1, h2, h3, h4, X1, st1⟩ := X.newCold hexec hown hcl (n := 6) (hat (.instantiable E 6) (by simp [Bundle.ownAtoms0])) hini (g := F0 m pc ls []) rfl d0 hRc hRs
  have hs0 : s.heap.size ≤ T.heap.size := by rw [hT]; exact hS.1
  have hcellA : ((T.setVm vm').pushCell { cls := cC, slots := kC.instanceTypes.map defaultValue, vm := .none }).heap[T.heap.size]? = some (freshCell cC kC) := by
    have := State.heap_pushCell_size (T.setVm vm') ({ cls := cC, slots := kC.instanceTypes.map defaultValue, vm := .none } : Cell)
    exact this
  obtain ⟨U, hU, hrun, hend, hWU, hsame, ce, hce, hO⟩ := X1.ctorThrow0 hexec htr (ic := ic) hown hE hnames hat (fun x hx cell hc => hns x.base cell (hS.2.2 x hx) hc) h1 h2 hcellA hs0
    (g := F0 m (pc + 4) ls [.ref T.heap.size, .ref T.heap.size]) rfl hsize rfl rfl (rest := []) rfl d4 d7 (fun x hx => by
      have : c.exceptionTable.toList = [] := by simpa using hnoH
      rw [this] at hx; cases hx) hRf (by show 2 * 0 + (1 + 0) + _ ≤ _; omega) hlk
  have hkeep : ∀ q, q < s.heap.size → ¬ A q → U.heap[q]? = s.heap[q]? := by
    intro q hq hnA
    obtain ⟨c', g1, g2, g3, g4⟩ := hsame.2.2.2.2.2 q s.heap[q] (Array.getElem?_eq_getElem hq)
    have g1' : U.heap[q]? = some c' := g1
    rw [g1', Array.getElem?_eq_getElem hq]
    have hsl : c'.slots = (s.heap[q]).slots := Array.ext_getElem? fun i => g4 i (fun hh => hnA (hS.2.2 ⟨q, i⟩ hh))
    rw [g2, hsl]
  refine ⟨U, ?_, .threw T.heap.size, hrun, hend, ⟨⟨T.heap.size, ce, rfl, hce, by rw [hO.vm]; rfl, by rw [hWU.alike.findClass]; exact hO.cls⟩, (by have := hsame.2.1; exact this), hkeep⟩, locs, ⟨hWU, hsame.mono hmc hms⟩, hS.2.2⟩
  refine st1 _ ?_
  exact ux_dup X1 hexec d3 rfl _ hU
/-- a static call of a method with a table -/
theorem ux_runSW {y : MethodName} {bytes cc : ByteArray} {maxL nL mc ms n index : Nat} {ret : Option FieldType} {hh : List (Nat × Nat × Nat × Nat)} {rm : Room} {Pc : Array Value → State → Prop} {Qc : Array Value → State → Outcome → State → Prop} {free : Addr → Prop} {Ts : List Cond} {own : String} {As rest : List Value} {g : JFrame}
    (S : CallFix p m c cc nL s args Ts own) (hM : Met l y [Cond.codeWith y bytes maxL ret hh] rm Pc Qc mc ms free) (hTT : ux_T s) (h1 : Cond.codeWith y bytes maxL ret hh ∈ lw_tbl) (h2 : Cond.methodLink own index y ∈ lw_tbl) (h3 : Cond.initialized y.cls ∈ lw_tbl) (h4 : Cond.static y ∈ lw_tbl) (hrc : rm.cells = mc) (hrs : rm.slots = ms)
    (hd : y.cls ≠ "java/lang/invoke/MethodHandle" ∧ y.cls ≠ "java/lang/invoke/VarHandle" ∧ (parseMethodDescriptor y.desc).map (fun d => d.parameters.length) = some n) (hR : rm.frames + 1 ≤ R.frames ∧ 8 + (maxL + 11) + rm.locals ≤ R.locals) (hp : PreS s H Pc As)
    (hg : g.method = m) (hn : As.length = n) (hsize : g.locals.size = nL) (hstack : g.stack = As.reverse ++ rest) (hW : 2 * g.monitorRoom + (rest.map fun v => v.category).sum ≤ 8) (hdg : decode cc g.pc = .ok (.invokestatic index, 3)) (hf : cells + mc ≤ R.cells ∧ slots + ms ≤ R.slots) :
    va_Run p l e R s m args below meth c H locs cells slots mc ms g rest (Qc As.toArray) (free) := by
  have hcode : (Cond.codeWith y bytes maxL ret hh).before args s = true := ux_T_at hTT h1 rfl
  have hK : Back l R p e below s args y 3 8 (PreOf R mc ms Pc) (PostOf Qc mc ms free) := va_backW (hh := hh) (bytes := bytes) (maxL := maxL) (ret := ret) hM hp.1 hrc hrs hR.1 hR.2 (fun w hw a' U hW => by
    rw [List.mem_singleton] at hw
    subst hw
    exact ux_T_at (ux_T_warm hTT hW) h1 rfl) (List.mem_singleton.mpr rfl) (fun a' U hW => ux_T_at (ux_T_warm hTT hW) h3 rfl)
  obtain ⟨hx, hb, hml, ho, -⟩ := S
  intro T hT X
  obtain ⟨mk, methM, cM, hnamed, hmethM, -, -, -, -, -, -, hsigM⟩ := Cond.codeWith_spec hcode
  have hstatic : methM.isStatic = true := Cond.static_spec hnamed hmethM (ux_T_at hTT h4 rfl (A := args))
  obtain ⟨kP, hkP, -⟩ := className_of_methodNamed hnamed
  have hinitP : kP.init = .initialized := Cond.initialized_spec (findClass_of_methodNamed hnamed) hkP (ux_T_at hTT h3 rfl (A := args))
  have hlen : As.length = methM.sig.parameters.length := by
    have z := hd.2.2
    rw [hsigM] at z
    rw [hn]
    exact (Option.some.inj z).symm
  obtain ⟨vm₁, X₁, hstep₁⟩ := X.invokestatic hx ho (ux_T_at hTT h2 rfl) hnamed hmethM hstatic hkP hinitP ⟨hd.1, hd.2.1⟩ (g := g) hg (argsL := As) (rest := rest) hlen hstack (by rw [hb]; exact hdg)
  obtain ⟨v, B, X', hpost, hsteps⟩ := hK m meth c ⟨T.setVm vm₁, locs, cells, slots⟩ { g with stack := rest } (.invokestatic index) mk As.toArray X₁ hg (hsize.trans hml.symm) (by rw [hb]; exact hdg) hW (X₁.named hnamed) ⟨hf.1, hf.2, hp.2 (T.setVm vm₁) hT X₁.warmed⟩
  obtain ⟨U', l2, c2, s2⟩ := B
  obtain ⟨g', mk', t, L, e1, e2, hq, q1, hL, q2, q3⟩ := hpost
  dsimp only [Pt.U, Pt.locs, Pt.cells, Pt.slots] at X' e1 e2 q1 q2 q3 hsteps
  subst q1; subst q2; subst q3
  exact ⟨v, (T.setVm vm₁).calling g' mk' As.toArray, t, U', L, hT, X', hL, e1, e2, hq, fun target h => hstep₁ _ fun acts => by rw [doInvoke_state]; exact hsteps.trans h⟩
end UXT
end
section
/-! Which words the rows behind use, by their places. -/
theorem tw_55 : (Jvm.Cond.laysFinal "UnikernelHttp$Neighbours" "UnikernelHttp$Neighbours" "addresses" "[I") ∈ lw_tbl := ux_in 55 ux_t1 rfl
theorem tw_57 : (Jvm.Cond.laysFinal "UnikernelHttp$Neighbours" "UnikernelHttp$Neighbours" "hardware" "[J") ∈ lw_tbl := ux_in 57 ux_t1 rfl
theorem tw_59 : (Jvm.Cond.laysFinal "UnikernelHttp$Neighbours" "UnikernelHttp$Neighbours" "heard" "[I") ∈ lw_tbl := ux_in 59 ux_t1 rfl
theorem tw_61 : (Jvm.Cond.lays "UnikernelHttp$Neighbours" "UnikernelHttp$Neighbours" "held" "I") ∈ lw_tbl := ux_in 61 ux_t1 rfl
theorem tw_63 : (Jvm.Cond.lays "UnikernelHttp$Neighbours" "UnikernelHttp$Neighbours" "hearings" "I") ∈ lw_tbl := ux_in 63 ux_t1 rfl
theorem tw_84 : (Jvm.Cond.laysFinal "UnikernelHttp$Wire" "UnikernelHttp$Wire" "neighbours" "LUnikernelHttp$Neighbours;") ∈ lw_tbl := ux_in 84 ux_t1 rfl
theorem tw_86 : (Jvm.Cond.laysFinal "UnikernelHttp$Wire" "UnikernelHttp$Wire" "frames" "[B") ∈ lw_tbl := ux_in 86 ux_t1 rfl
theorem tw_88 : (Jvm.Cond.laysFinal "UnikernelHttp$Wire" "UnikernelHttp$Wire" "sizes" "[I") ∈ lw_tbl := ux_in 88 ux_t1 rfl
theorem tw_90 : (Jvm.Cond.lays "UnikernelHttp$Wire" "UnikernelHttp$Wire" "sent" "I") ∈ lw_tbl := ux_in 90 ux_t1 rfl
theorem tw_92 : (Jvm.Cond.lays "UnikernelHttp$Wire" "UnikernelHttp$Wire" "made" "I") ∈ lw_tbl := ux_in 92 ux_t1 rfl
theorem tw_123 : (Jvm.Cond.laysFinal "UnikernelHttp$Gathering" "UnikernelHttp$Gathering" "content" "[B") ∈ lw_tbl := ux_in 123 ux_t1 rfl
theorem tw_125 : (Jvm.Cond.laysFinal "UnikernelHttp$Gathering" "UnikernelHttp$Gathering" "there" "[B") ∈ lw_tbl := ux_in 125 ux_t1 rfl
theorem tw_127 : (Jvm.Cond.lays "UnikernelHttp$Gathering" "UnikernelHttp$Gathering" "source" "I") ∈ lw_tbl := ux_in 127 ux_t1 rfl
theorem tw_129 : (Jvm.Cond.lays "UnikernelHttp$Gathering" "UnikernelHttp$Gathering" "number" "I") ∈ lw_tbl := ux_in 129 ux_t1 rfl
theorem tw_131 : (Jvm.Cond.lays "UnikernelHttp$Gathering" "UnikernelHttp$Gathering" "protocol" "I") ∈ lw_tbl := ux_in 131 ux_t1 rfl
theorem tw_133 : (Jvm.Cond.lays "UnikernelHttp$Gathering" "UnikernelHttp$Gathering" "begun" "I") ∈ lw_tbl := ux_in 133 ux_t1 rfl
theorem tw_135 : (Jvm.Cond.lays "UnikernelHttp$Gathering" "UnikernelHttp$Gathering" "told" "I") ∈ lw_tbl := ux_in 135 ux_t1 rfl
theorem tw_137 : (Jvm.Cond.lays "UnikernelHttp$Gathering" "UnikernelHttp$Gathering" "farthest" "I") ∈ lw_tbl := ux_in 137 ux_t1 rfl
theorem tw_139 : (Jvm.Cond.lays "UnikernelHttp$Gathering" "UnikernelHttp$Gathering" "filled" "I") ∈ lw_tbl := ux_in 139 ux_t1 rfl
theorem tw_145 : (Jvm.Cond.laysFinal "UnikernelHttp$Gatherings" "UnikernelHttp$Gatherings" "list" "[LUnikernelHttp$Gathering;") ∈ lw_tbl := ux_in 145 ux_t1 rfl
theorem tw_147 : (Jvm.Cond.lays "UnikernelHttp$Gatherings" "UnikernelHttp$Gatherings" "held" "I") ∈ lw_tbl := ux_in 147 ux_t1 rfl
theorem tw_189 : (Jvm.Cond.lays "UnikernelHttp$Segment" "UnikernelHttp$Segment" "from" "[B") ∈ lw_tbl := ux_in 189 ux_t1 rfl
theorem tw_191 : (Jvm.Cond.lays "UnikernelHttp$Segment" "UnikernelHttp$Segment" "dataAt" "I") ∈ lw_tbl := ux_in 191 ux_t1 rfl
theorem tw_193 : (Jvm.Cond.lays "UnikernelHttp$Segment" "UnikernelHttp$Segment" "dataLength" "I") ∈ lw_tbl := ux_in 193 ux_t1 rfl
theorem tw_195 : (Jvm.Cond.lays "UnikernelHttp$Segment" "UnikernelHttp$Segment" "address" "I") ∈ lw_tbl := ux_in 195 ux_t1 rfl
theorem tw_197 : (Jvm.Cond.lays "UnikernelHttp$Segment" "UnikernelHttp$Segment" "port" "I") ∈ lw_tbl := ux_in 197 ux_t1 rfl
theorem tw_199 : (Jvm.Cond.lays "UnikernelHttp$Segment" "UnikernelHttp$Segment" "toPort" "I") ∈ lw_tbl := ux_in 199 ux_t1 rfl
theorem tw_201 : (Jvm.Cond.lays "UnikernelHttp$Segment" "UnikernelHttp$Segment" "number" "I") ∈ lw_tbl := ux_in 201 ux_t1 rfl
theorem tw_203 : (Jvm.Cond.lays "UnikernelHttp$Segment" "UnikernelHttp$Segment" "acknowledgement" "I") ∈ lw_tbl := ux_in 203 ux_t1 rfl
theorem tw_205 : (Jvm.Cond.lays "UnikernelHttp$Segment" "UnikernelHttp$Segment" "flags" "I") ∈ lw_tbl := ux_in 205 ux_t1 rfl
theorem tw_207 : (Jvm.Cond.lays "UnikernelHttp$Segment" "UnikernelHttp$Segment" "window" "I") ∈ lw_tbl := ux_in 207 ux_t1 rfl
theorem tw_209 : (Jvm.Cond.lays "UnikernelHttp$Segment" "UnikernelHttp$Segment" "length" "I") ∈ lw_tbl := ux_in 209 ux_t1 rfl
theorem tw_211 : (Jvm.Cond.lays "UnikernelHttp$Segment" "UnikernelHttp$Segment" "mss" "I") ∈ lw_tbl := ux_in 211 ux_t1 rfl
theorem tw_247 : (Jvm.Cond.laysFinal "UnikernelHttp$Inbox" "UnikernelHttp$Inbox" "content" "[B") ∈ lw_tbl := ux_in 7 ux_t2 rfl
theorem tw_249 : (Jvm.Cond.laysFinal "UnikernelHttp$Inbox" "UnikernelHttp$Inbox" "there" "[B") ∈ lw_tbl := ux_in 9 ux_t2 rfl
theorem tw_251 : (Jvm.Cond.lays "UnikernelHttp$Inbox" "UnikernelHttp$Inbox" "length" "I") ∈ lw_tbl := ux_in 11 ux_t2 rfl
theorem tw_253 : (Jvm.Cond.lays "UnikernelHttp$Inbox" "UnikernelHttp$Inbox" "next" "I") ∈ lw_tbl := ux_in 13 ux_t2 rfl
theorem tw_255 : (Jvm.Cond.lays "UnikernelHttp$Inbox" "UnikernelHttp$Inbox" "finTold" "Z") ∈ lw_tbl := ux_in 15 ux_t2 rfl
theorem tw_257 : (Jvm.Cond.lays "UnikernelHttp$Inbox" "UnikernelHttp$Inbox" "finPlace" "I") ∈ lw_tbl := ux_in 17 ux_t2 rfl
theorem tw_259 : (Jvm.Cond.lays "UnikernelHttp$Inbox" "UnikernelHttp$Inbox" "finReached" "Z") ∈ lw_tbl := ux_in 19 ux_t2 rfl
theorem tw_283 : (Jvm.Cond.laysFinal "UnikernelHttp$Outbox" "UnikernelHttp$Outbox" "content" "[B") ∈ lw_tbl := ux_in 43 ux_t2 rfl
theorem tw_285 : (Jvm.Cond.lays "UnikernelHttp$Outbox" "UnikernelHttp$Outbox" "length" "I") ∈ lw_tbl := ux_in 45 ux_t2 rfl
theorem tw_287 : (Jvm.Cond.lays "UnikernelHttp$Outbox" "UnikernelHttp$Outbox" "unacked" "I") ∈ lw_tbl := ux_in 47 ux_t2 rfl
theorem tw_289 : (Jvm.Cond.lays "UnikernelHttp$Outbox" "UnikernelHttp$Outbox" "sendNext" "I") ∈ lw_tbl := ux_in 49 ux_t2 rfl
theorem tw_291 : (Jvm.Cond.lays "UnikernelHttp$Outbox" "UnikernelHttp$Outbox" "finSent" "Z") ∈ lw_tbl := ux_in 51 ux_t2 rfl
theorem tw_335 : (Jvm.Cond.laysFinal "UnikernelHttp$Connection" "UnikernelHttp$Connection" "inbox" "LUnikernelHttp$Inbox;") ∈ lw_tbl := ux_in 95 ux_t2 rfl
theorem tw_337 : (Jvm.Cond.laysFinal "UnikernelHttp$Connection" "UnikernelHttp$Connection" "outbox" "LUnikernelHttp$Outbox;") ∈ lw_tbl := ux_in 97 ux_t2 rfl
theorem tw_339 : (Jvm.Cond.lays "UnikernelHttp$Connection" "UnikernelHttp$Connection" "address" "I") ∈ lw_tbl := ux_in 99 ux_t2 rfl
theorem tw_341 : (Jvm.Cond.lays "UnikernelHttp$Connection" "UnikernelHttp$Connection" "port" "I") ∈ lw_tbl := ux_in 101 ux_t2 rfl
theorem tw_343 : (Jvm.Cond.lays "UnikernelHttp$Connection" "UnikernelHttp$Connection" "state" "I") ∈ lw_tbl := ux_in 103 ux_t2 rfl
theorem tw_345 : (Jvm.Cond.lays "UnikernelHttp$Connection" "UnikernelHttp$Connection" "window" "I") ∈ lw_tbl := ux_in 105 ux_t2 rfl
theorem tw_347 : (Jvm.Cond.lays "UnikernelHttp$Connection" "UnikernelHttp$Connection" "windowNumber" "I") ∈ lw_tbl := ux_in 107 ux_t2 rfl
theorem tw_349 : (Jvm.Cond.lays "UnikernelHttp$Connection" "UnikernelHttp$Connection" "windowAcknowledgement" "I") ∈ lw_tbl := ux_in 109 ux_t2 rfl
theorem tw_351 : (Jvm.Cond.lays "UnikernelHttp$Connection" "UnikernelHttp$Connection" "mss" "I") ∈ lw_tbl := ux_in 111 ux_t2 rfl
theorem tw_353 : (Jvm.Cond.lays "UnikernelHttp$Connection" "UnikernelHttp$Connection" "span" "I") ∈ lw_tbl := ux_in 113 ux_t2 rfl
theorem tw_355 : (Jvm.Cond.lays "UnikernelHttp$Connection" "UnikernelHttp$Connection" "limit" "I") ∈ lw_tbl := ux_in 115 ux_t2 rfl
theorem tw_357 : (Jvm.Cond.lays "UnikernelHttp$Connection" "UnikernelHttp$Connection" "doubles" "I") ∈ lw_tbl := ux_in 117 ux_t2 rfl
theorem tw_359 : (Jvm.Cond.lays "UnikernelHttp$Connection" "UnikernelHttp$Connection" "tries" "I") ∈ lw_tbl := ux_in 119 ux_t2 rfl
theorem tw_361 : (Jvm.Cond.lays "UnikernelHttp$Connection" "UnikernelHttp$Connection" "timeout" "I") ∈ lw_tbl := ux_in 121 ux_t2 rfl
theorem tw_363 : (Jvm.Cond.lays "UnikernelHttp$Connection" "UnikernelHttp$Connection" "timer" "I") ∈ lw_tbl := ux_in 123 ux_t2 rfl
theorem tw_365 : (Jvm.Cond.lays "UnikernelHttp$Connection" "UnikernelHttp$Connection" "leavesAt" "I") ∈ lw_tbl := ux_in 125 ux_t2 rfl
theorem tw_367 : (Jvm.Cond.lays "UnikernelHttp$Connection" "UnikernelHttp$Connection" "ends" "Z") ∈ lw_tbl := ux_in 127 ux_t2 rfl
theorem tw_377 : (Jvm.Cond.laysFinal "UnikernelHttp$Tcp" "UnikernelHttp$Tcp" "list" "[LUnikernelHttp$Connection;") ∈ lw_tbl := ux_in 137 ux_t2 rfl
theorem tw_379 : (Jvm.Cond.laysFinal "UnikernelHttp$Tcp" "UnikernelHttp$Tcp" "body" "[B") ∈ lw_tbl := ux_in 139 ux_t2 rfl
theorem tw_381 : (Jvm.Cond.laysFinal "UnikernelHttp$Tcp" "UnikernelHttp$Tcp" "wire" "LUnikernelHttp$Wire;") ∈ lw_tbl := ux_in 141 ux_t2 rfl
theorem tw_383 : (Jvm.Cond.lays "UnikernelHttp$Tcp" "UnikernelHttp$Tcp" "held" "I") ∈ lw_tbl := ux_in 143 ux_t2 rfl
theorem tw_385 : (Jvm.Cond.lays "UnikernelHttp$Tcp" "UnikernelHttp$Tcp" "made" "I") ∈ lw_tbl := ux_in 145 ux_t2 rfl
theorem tw_408 : (Jvm.Cond.laysFinal "UnikernelHttp$Store" "UnikernelHttp$Store" "targets" "[[B") ∈ lw_tbl := ux_in 168 ux_t2 rfl
theorem tw_410 : (Jvm.Cond.laysFinal "UnikernelHttp$Store" "UnikernelHttp$Store" "targetLengths" "[I") ∈ lw_tbl := ux_in 170 ux_t2 rfl
theorem tw_412 : (Jvm.Cond.laysFinal "UnikernelHttp$Store" "UnikernelHttp$Store" "contents" "[[B") ∈ lw_tbl := ux_in 172 ux_t2 rfl
theorem tw_414 : (Jvm.Cond.laysFinal "UnikernelHttp$Store" "UnikernelHttp$Store" "lengths" "[I") ∈ lw_tbl := ux_in 174 ux_t2 rfl
theorem tw_416 : (Jvm.Cond.laysFinal "UnikernelHttp$Store" "UnikernelHttp$Store" "sums" "[I") ∈ lw_tbl := ux_in 176 ux_t2 rfl
theorem tw_418 : (Jvm.Cond.lays "UnikernelHttp$Store" "UnikernelHttp$Store" "held" "I") ∈ lw_tbl := ux_in 178 ux_t2 rfl
theorem tw_432 : (Jvm.Cond.laysFinal "UnikernelHttp$Http" "UnikernelHttp$Http" "store" "LUnikernelHttp$Store;") ∈ lw_tbl := ux_in 192 ux_t2 rfl
theorem tw_434 : (Jvm.Cond.laysFinal "UnikernelHttp$Http" "UnikernelHttp$Http" "answer" "[B") ∈ lw_tbl := ux_in 194 ux_t2 rfl
theorem tw_436 : (Jvm.Cond.lays "UnikernelHttp$Http" "UnikernelHttp$Http" "answerLength" "I") ∈ lw_tbl := ux_in 196 ux_t2 rfl
theorem tw_438 : (Jvm.Cond.lays "UnikernelHttp$Http" "UnikernelHttp$Http" "closes" "Z") ∈ lw_tbl := ux_in 198 ux_t2 rfl
theorem tw_440 : (Jvm.Cond.lays "UnikernelHttp$Http" "UnikernelHttp$Http" "found" "I") ∈ lw_tbl := ux_in 200 ux_t2 rfl
theorem tw_457 : (Jvm.Cond.laysFinal "UnikernelHttp" "UnikernelHttp" "row" "[B") ∈ lw_tbl := ux_in 217 ux_t2 rfl
theorem tw_459 : (Jvm.Cond.lays "UnikernelHttp" "UnikernelHttp" "rowLength" "I") ∈ lw_tbl := ux_in 219 ux_t2 rfl
theorem tw_461 : (Jvm.Cond.lays "UnikernelHttp" "UnikernelHttp" "time" "I") ∈ lw_tbl := ux_in 221 ux_t2 rfl
theorem tw_463 : (Jvm.Cond.laysFinal "UnikernelHttp" "UnikernelHttp" "neighbours" "LUnikernelHttp$Neighbours;") ∈ lw_tbl := ux_in 223 ux_t2 rfl
theorem tw_465 : (Jvm.Cond.laysFinal "UnikernelHttp" "UnikernelHttp" "wire" "LUnikernelHttp$Wire;") ∈ lw_tbl := ux_in 225 ux_t2 rfl
theorem tw_467 : (Jvm.Cond.laysFinal "UnikernelHttp" "UnikernelHttp" "gatherings" "LUnikernelHttp$Gatherings;") ∈ lw_tbl := ux_in 227 ux_t2 rfl
theorem tw_469 : (Jvm.Cond.laysFinal "UnikernelHttp" "UnikernelHttp" "segment" "LUnikernelHttp$Segment;") ∈ lw_tbl := ux_in 229 ux_t2 rfl
theorem tw_471 : (Jvm.Cond.laysFinal "UnikernelHttp" "UnikernelHttp" "tcp" "LUnikernelHttp$Tcp;") ∈ lw_tbl := ux_in 231 ux_t2 rfl
theorem tw_473 : (Jvm.Cond.laysFinal "UnikernelHttp" "UnikernelHttp" "store" "LUnikernelHttp$Store;") ∈ lw_tbl := ux_in 233 ux_t2 rfl
theorem tw_475 : (Jvm.Cond.laysFinal "UnikernelHttp" "UnikernelHttp" "http" "LUnikernelHttp$Http;") ∈ lw_tbl := ux_in 235 ux_t2 rfl
theorem tw_477 : (Jvm.Cond.laysFinal "UnikernelHttp" "UnikernelHttp" "echo" "[B") ∈ lw_tbl := ux_in 237 ux_t2 rfl
theorem tw_479 : (Jvm.Cond.lays "UnikernelHttp" "UnikernelHttp" "datagram" "[B") ∈ lw_tbl := ux_in 239 ux_t2 rfl
theorem tw_481 : (Jvm.Cond.lays "UnikernelHttp" "UnikernelHttp" "datagramAt" "I") ∈ lw_tbl := ux_in 1 ux_t3 rfl
theorem tw_483 : (Jvm.Cond.lays "UnikernelHttp" "UnikernelHttp" "datagramLength" "I") ∈ lw_tbl := ux_in 3 ux_t3 rfl
theorem tw_1528 : (Jvm.Cond.lays "UnikernelHttpModel$Peer" "UnikernelHttpModel$Peer" "ip" "I") ∈ lw_tbl := ux_in 88 ux_t7 rfl
theorem tw_1530 : (Jvm.Cond.lays "UnikernelHttpModel$Peer" "UnikernelHttpModel$Peer" "port" "I") ∈ lw_tbl := ux_in 90 ux_t7 rfl
theorem tw_1532 : (Jvm.Cond.lays "UnikernelHttpModel$Peer" "UnikernelHttpModel$Peer" "state" "I") ∈ lw_tbl := ux_in 92 ux_t7 rfl
theorem tw_1534 : (Jvm.Cond.lays "UnikernelHttpModel$Peer" "UnikernelHttpModel$Peer" "next" "I") ∈ lw_tbl := ux_in 94 ux_t7 rfl
theorem tw_1536 : (Jvm.Cond.lays "UnikernelHttpModel$Peer" "UnikernelHttpModel$Peer" "ours" "I") ∈ lw_tbl := ux_in 96 ux_t7 rfl
theorem tw_1538 : (Jvm.Cond.lays "UnikernelHttpModel$Peer" "UnikernelHttpModel$Peer" "unacked" "I") ∈ lw_tbl := ux_in 98 ux_t7 rfl
theorem tw_1540 : (Jvm.Cond.lays "UnikernelHttpModel$Peer" "UnikernelHttpModel$Peer" "toSend" "I") ∈ lw_tbl := ux_in 100 ux_t7 rfl
theorem tw_1542 : (Jvm.Cond.lays "UnikernelHttpModel$Peer" "UnikernelHttpModel$Peer" "window" "I") ∈ lw_tbl := ux_in 102 ux_t7 rfl
theorem tw_1544 : (Jvm.Cond.lays "UnikernelHttpModel$Peer" "UnikernelHttpModel$Peer" "wl1" "I") ∈ lw_tbl := ux_in 104 ux_t7 rfl
theorem tw_1546 : (Jvm.Cond.lays "UnikernelHttpModel$Peer" "UnikernelHttpModel$Peer" "wl2" "I") ∈ lw_tbl := ux_in 106 ux_t7 rfl
theorem tw_1548 : (Jvm.Cond.lays "UnikernelHttpModel$Peer" "UnikernelHttpModel$Peer" "mss" "I") ∈ lw_tbl := ux_in 108 ux_t7 rfl
theorem tw_1550 : (Jvm.Cond.lays "UnikernelHttpModel$Peer" "UnikernelHttpModel$Peer" "span" "I") ∈ lw_tbl := ux_in 110 ux_t7 rfl
theorem tw_1552 : (Jvm.Cond.lays "UnikernelHttpModel$Peer" "UnikernelHttpModel$Peer" "limit" "I") ∈ lw_tbl := ux_in 112 ux_t7 rfl
theorem tw_1554 : (Jvm.Cond.lays "UnikernelHttpModel$Peer" "UnikernelHttpModel$Peer" "doubles" "I") ∈ lw_tbl := ux_in 114 ux_t7 rfl
theorem tw_1556 : (Jvm.Cond.lays "UnikernelHttpModel$Peer" "UnikernelHttpModel$Peer" "tries" "I") ∈ lw_tbl := ux_in 116 ux_t7 rfl
theorem tw_1558 : (Jvm.Cond.lays "UnikernelHttpModel$Peer" "UnikernelHttpModel$Peer" "timeout" "I") ∈ lw_tbl := ux_in 118 ux_t7 rfl
theorem tw_1560 : (Jvm.Cond.lays "UnikernelHttpModel$Peer" "UnikernelHttpModel$Peer" "timer" "I") ∈ lw_tbl := ux_in 120 ux_t7 rfl
theorem tw_1562 : (Jvm.Cond.lays "UnikernelHttpModel$Peer" "UnikernelHttpModel$Peer" "dies" "I") ∈ lw_tbl := ux_in 122 ux_t7 rfl
theorem tw_1564 : (Jvm.Cond.lays "UnikernelHttpModel$Peer" "UnikernelHttpModel$Peer" "order" "I") ∈ lw_tbl := ux_in 124 ux_t7 rfl
theorem tw_1566 : (Jvm.Cond.laysFinal "UnikernelHttpModel$Peer" "UnikernelHttpModel$Peer" "inbox" "[B") ∈ lw_tbl := ux_in 126 ux_t7 rfl
theorem tw_1568 : (Jvm.Cond.laysFinal "UnikernelHttpModel$Peer" "UnikernelHttpModel$Peer" "early" "[B") ∈ lw_tbl := ux_in 128 ux_t7 rfl
theorem tw_1570 : (Jvm.Cond.laysFinal "UnikernelHttpModel$Peer" "UnikernelHttpModel$Peer" "there" "[Z") ∈ lw_tbl := ux_in 130 ux_t7 rfl
theorem tw_1572 : (Jvm.Cond.lays "UnikernelHttpModel$Peer" "UnikernelHttpModel$Peer" "inboxes" "I") ∈ lw_tbl := ux_in 132 ux_t7 rfl
theorem tw_1574 : (Jvm.Cond.lays "UnikernelHttpModel$Peer" "UnikernelHttpModel$Peer" "finAt" "I") ∈ lw_tbl := ux_in 134 ux_t7 rfl
theorem tw_1576 : (Jvm.Cond.lays "UnikernelHttpModel$Peer" "UnikernelHttpModel$Peer" "finTold" "Z") ∈ lw_tbl := ux_in 136 ux_t7 rfl
theorem tw_1578 : (Jvm.Cond.lays "UnikernelHttpModel$Peer" "UnikernelHttpModel$Peer" "finReached" "Z") ∈ lw_tbl := ux_in 138 ux_t7 rfl
theorem tw_1580 : (Jvm.Cond.lays "UnikernelHttpModel$Peer" "UnikernelHttpModel$Peer" "ends" "Z") ∈ lw_tbl := ux_in 140 ux_t7 rfl
theorem tw_1582 : (Jvm.Cond.lays "UnikernelHttpModel$Peer" "UnikernelHttpModel$Peer" "finSent" "Z") ∈ lw_tbl := ux_in 142 ux_t7 rfl
theorem tw_1584 : (Jvm.Cond.lays "UnikernelHttpModel$Peer" "UnikernelHttpModel$Peer" "finAcked" "Z") ∈ lw_tbl := ux_in 144 ux_t7 rfl
theorem tw_1586 : (Jvm.Cond.laysFinal "UnikernelHttpModel$Peer" "UnikernelHttpModel$Peer" "outbox" "[B") ∈ lw_tbl := ux_in 146 ux_t7 rfl
theorem tw_1588 : (Jvm.Cond.lays "UnikernelHttpModel$Peer" "UnikernelHttpModel$Peer" "outboxes" "I") ∈ lw_tbl := ux_in 148 ux_t7 rfl
theorem tw_1590 : (Jvm.Cond.lays "UnikernelHttpModel$Peer" "UnikernelHttpModel$Peer" "sent" "I") ∈ lw_tbl := ux_in 150 ux_t7 rfl
theorem tw_1632 : (Jvm.Cond.laysFinal "UnikernelHttpModel" "UnikernelHttpModel" "row" "[B") ∈ lw_tbl := ux_in 192 ux_t7 rfl
theorem tw_1634 : (Jvm.Cond.laysFinal "UnikernelHttpModel" "UnikernelHttpModel" "in" "[B") ∈ lw_tbl := ux_in 194 ux_t7 rfl
theorem tw_1636 : (Jvm.Cond.laysFinal "UnikernelHttpModel" "UnikernelHttpModel" "out" "[B") ∈ lw_tbl := ux_in 196 ux_t7 rfl
theorem tw_1638 : (Jvm.Cond.lays "UnikernelHttpModel" "UnikernelHttpModel" "rows" "I") ∈ lw_tbl := ux_in 198 ux_t7 rfl
theorem tw_1640 : (Jvm.Cond.lays "UnikernelHttpModel" "UnikernelHttpModel" "thrown" "I") ∈ lw_tbl := ux_in 200 ux_t7 rfl
theorem tw_1642 : (Jvm.Cond.lays "UnikernelHttpModel" "UnikernelHttpModel" "time" "I") ∈ lw_tbl := ux_in 202 ux_t7 rfl
theorem tw_1644 : (Jvm.Cond.lays "UnikernelHttpModel" "UnikernelHttpModel" "packets" "I") ∈ lw_tbl := ux_in 204 ux_t7 rfl
theorem tw_1646 : (Jvm.Cond.lays "UnikernelHttpModel" "UnikernelHttpModel" "frames" "I") ∈ lw_tbl := ux_in 206 ux_t7 rfl
theorem tw_1648 : (Jvm.Cond.laysFinal "UnikernelHttpModel" "UnikernelHttpModel" "kept" "[B") ∈ lw_tbl := ux_in 208 ux_t7 rfl
theorem tw_1650 : (Jvm.Cond.laysFinal "UnikernelHttpModel" "UnikernelHttpModel" "keptSize" "[I") ∈ lw_tbl := ux_in 210 ux_t7 rfl
theorem tw_1652 : (Jvm.Cond.laysFinal "UnikernelHttpModel" "UnikernelHttpModel" "nIp" "[I") ∈ lw_tbl := ux_in 212 ux_t7 rfl
theorem tw_1654 : (Jvm.Cond.laysFinal "UnikernelHttpModel" "UnikernelHttpModel" "nHeard" "[I") ∈ lw_tbl := ux_in 214 ux_t7 rfl
theorem tw_1656 : (Jvm.Cond.laysFinal "UnikernelHttpModel" "UnikernelHttpModel" "nHard" "[J") ∈ lw_tbl := ux_in 216 ux_t7 rfl
theorem tw_1658 : (Jvm.Cond.lays "UnikernelHttpModel" "UnikernelHttpModel" "neighbours" "I") ∈ lw_tbl := ux_in 218 ux_t7 rfl
theorem tw_1660 : (Jvm.Cond.lays "UnikernelHttpModel" "UnikernelHttpModel" "heard" "I") ∈ lw_tbl := ux_in 220 ux_t7 rfl
theorem tw_1662 : (Jvm.Cond.laysFinal "UnikernelHttpModel" "UnikernelHttpModel" "gIp" "[I") ∈ lw_tbl := ux_in 222 ux_t7 rfl
theorem tw_1664 : (Jvm.Cond.laysFinal "UnikernelHttpModel" "UnikernelHttpModel" "gNumber" "[I") ∈ lw_tbl := ux_in 224 ux_t7 rfl
theorem tw_1666 : (Jvm.Cond.laysFinal "UnikernelHttpModel" "UnikernelHttpModel" "gProtocol" "[I") ∈ lw_tbl := ux_in 226 ux_t7 rfl
theorem tw_1668 : (Jvm.Cond.laysFinal "UnikernelHttpModel" "UnikernelHttpModel" "gTold" "[I") ∈ lw_tbl := ux_in 228 ux_t7 rfl
theorem tw_1670 : (Jvm.Cond.laysFinal "UnikernelHttpModel" "UnikernelHttpModel" "gBegun" "[I") ∈ lw_tbl := ux_in 230 ux_t7 rfl
theorem tw_1672 : (Jvm.Cond.laysFinal "UnikernelHttpModel" "UnikernelHttpModel" "gOrder" "[I") ∈ lw_tbl := ux_in 232 ux_t7 rfl
theorem tw_1674 : (Jvm.Cond.laysFinal "UnikernelHttpModel" "UnikernelHttpModel" "gBytes" "[B") ∈ lw_tbl := ux_in 234 ux_t7 rfl
theorem tw_1676 : (Jvm.Cond.laysFinal "UnikernelHttpModel" "UnikernelHttpModel" "gThere" "[Z") ∈ lw_tbl := ux_in 236 ux_t7 rfl
theorem tw_1678 : (Jvm.Cond.lays "UnikernelHttpModel" "UnikernelHttpModel" "gatherings" "I") ∈ lw_tbl := ux_in 238 ux_t7 rfl
theorem tw_1680 : (Jvm.Cond.lays "UnikernelHttpModel" "UnikernelHttpModel" "begun" "I") ∈ lw_tbl := ux_in 0 ux_t8 rfl
theorem tw_1682 : (Jvm.Cond.laysFinal "UnikernelHttpModel" "UnikernelHttpModel" "pTarget" "[B") ∈ lw_tbl := ux_in 2 ux_t8 rfl
theorem tw_1684 : (Jvm.Cond.laysFinal "UnikernelHttpModel" "UnikernelHttpModel" "pBytes" "[B") ∈ lw_tbl := ux_in 4 ux_t8 rfl
theorem tw_1686 : (Jvm.Cond.laysFinal "UnikernelHttpModel" "UnikernelHttpModel" "pLong" "[I") ∈ lw_tbl := ux_in 6 ux_t8 rfl
theorem tw_1688 : (Jvm.Cond.laysFinal "UnikernelHttpModel" "UnikernelHttpModel" "pSize" "[I") ∈ lw_tbl := ux_in 8 ux_t8 rfl
theorem tw_1690 : (Jvm.Cond.laysFinal "UnikernelHttpModel" "UnikernelHttpModel" "pSum" "[I") ∈ lw_tbl := ux_in 10 ux_t8 rfl
theorem tw_1692 : (Jvm.Cond.lays "UnikernelHttpModel" "UnikernelHttpModel" "pages" "I") ∈ lw_tbl := ux_in 12 ux_t8 rfl
theorem tw_1694 : (Jvm.Cond.laysFinal "UnikernelHttpModel" "UnikernelHttpModel" "peer" "[LUnikernelHttpModel$Peer;") ∈ lw_tbl := ux_in 14 ux_t8 rfl
theorem tw_1696 : (Jvm.Cond.lays "UnikernelHttpModel" "UnikernelHttpModel" "peers" "I") ∈ lw_tbl := ux_in 16 ux_t8 rfl
theorem tw_1698 : (Jvm.Cond.lays "UnikernelHttpModel" "UnikernelHttpModel" "made" "I") ∈ lw_tbl := ux_in 18 ux_t8 rfl
theorem tw_1700 : (Jvm.Cond.lays "UnikernelHttpModel" "UnikernelHttpModel" "size" "I") ∈ lw_tbl := ux_in 20 ux_t8 rfl
theorem tw_1702 : (Jvm.Cond.lays "UnikernelHttpModel" "UnikernelHttpModel" "whole" "I") ∈ lw_tbl := ux_in 22 ux_t8 rfl
theorem tw_1704 : (Jvm.Cond.laysFinal "UnikernelHttpModel" "UnikernelHttpModel" "answer" "[B") ∈ lw_tbl := ux_in 24 ux_t8 rfl
theorem tw_1706 : (Jvm.Cond.lays "UnikernelHttpModel" "UnikernelHttpModel" "answers" "I") ∈ lw_tbl := ux_in 26 ux_t8 rfl
theorem tw_1708 : (Jvm.Cond.lays "UnikernelHttpModel" "UnikernelHttpModel" "at" "I") ∈ lw_tbl := ux_in 28 ux_t8 rfl
end
section
/-! Names: the kinds of objects, their fields in an order of their own, their types; by program out of the Statement. -/
def R_U : String := "UnikernelHttp"
def F_U : u_T := fun k => match k with
  | 0 => ("UnikernelHttp", "row", "[B", true)
  | 1 => ("UnikernelHttp", "rowLength", "I", false)
  | 2 => ("UnikernelHttp", "time", "I", false)
  | 3 => ("UnikernelHttp", "neighbours", "LUnikernelHttp$Neighbours;", true)
  | 4 => ("UnikernelHttp", "wire", "LUnikernelHttp$Wire;", true)
  | 5 => ("UnikernelHttp", "gatherings", "LUnikernelHttp$Gatherings;", true)
  | 6 => ("UnikernelHttp", "segment", "LUnikernelHttp$Segment;", true)
  | 7 => ("UnikernelHttp", "tcp", "LUnikernelHttp$Tcp;", true)
  | 8 => ("UnikernelHttp", "store", "LUnikernelHttp$Store;", true)
  | 9 => ("UnikernelHttp", "http", "LUnikernelHttp$Http;", true)
  | 10 => ("UnikernelHttp", "echo", "[B", true)
  | 11 => ("UnikernelHttp", "datagram", "[B", false)
  | 12 => ("UnikernelHttp", "datagramAt", "I", false)
  | _ => ("UnikernelHttp", "datagramLength", "I", false)
def t_U : Nat → FieldType := fun k => match k with
  | 0 => .array .byte
  | 1 => .int
  | 2 => .int
  | 3 => .object "UnikernelHttp$Neighbours"
  | 4 => .object "UnikernelHttp$Wire"
  | 5 => .object "UnikernelHttp$Gatherings"
  | 6 => .object "UnikernelHttp$Segment"
  | 7 => .object "UnikernelHttp$Tcp"
  | 8 => .object "UnikernelHttp$Store"
  | 9 => .object "UnikernelHttp$Http"
  | 10 => .array .byte
  | 11 => .array .byte
  | 12 => .int
  | _ => .int
theorem n_U : ∀ a, a < 14 → ∀ b, b < 14 → a ≠ b → (F_U a).2.1 ≠ (F_U b).2.1 := by decide +kernel
theorem k_U : ∀ k, k < 14 → parseFieldDescriptor (F_U k).2.2.1 = some (t_U k) := by decide +kernel
theorem u_U {args : Array Value} {s : State} (hT : ux_T s) : ∀ w ∈ u_ws R_U F_U 14, w.before args s = true := by
  have h : ∀ w ∈ ([.laysFinal "UnikernelHttp" "UnikernelHttp" "row" "[B", .lays "UnikernelHttp" "UnikernelHttp" "rowLength" "I", .lays "UnikernelHttp" "UnikernelHttp" "time" "I", .laysFinal "UnikernelHttp" "UnikernelHttp" "neighbours" "LUnikernelHttp$Neighbours;", .laysFinal "UnikernelHttp" "UnikernelHttp" "wire" "LUnikernelHttp$Wire;", .laysFinal "UnikernelHttp" "UnikernelHttp" "gatherings" "LUnikernelHttp$Gatherings;", .laysFinal "UnikernelHttp" "UnikernelHttp" "segment" "LUnikernelHttp$Segment;", .laysFinal "UnikernelHttp" "UnikernelHttp" "tcp" "LUnikernelHttp$Tcp;", .laysFinal "UnikernelHttp" "UnikernelHttp" "store" "LUnikernelHttp$Store;", .laysFinal "UnikernelHttp" "UnikernelHttp" "http" "LUnikernelHttp$Http;", .laysFinal "UnikernelHttp" "UnikernelHttp" "echo" "[B", .lays "UnikernelHttp" "UnikernelHttp" "datagram" "[B", .lays "UnikernelHttp" "UnikernelHttp" "datagramAt" "I", .lays "UnikernelHttp" "UnikernelHttp" "datagramLength" "I"] : List Cond), w.before args s = true := by
    intro w hw
    simp only [List.mem_cons, List.not_mem_nil, or_false] at hw
    rcases hw with rfl | rfl | rfl | rfl | rfl | rfl | rfl | rfl | rfl | rfl | rfl | rfl | rfl | rfl
    · exact ux_T_at hT tw_457 rfl
    · exact ux_T_at hT tw_459 rfl
    · exact ux_T_at hT tw_461 rfl
    · exact ux_T_at hT tw_463 rfl
    · exact ux_T_at hT tw_465 rfl
    · exact ux_T_at hT tw_467 rfl
    · exact ux_T_at hT tw_469 rfl
    · exact ux_T_at hT tw_471 rfl
    · exact ux_T_at hT tw_473 rfl
    · exact ux_T_at hT tw_475 rfl
    · exact ux_T_at hT tw_477 rfl
    · exact ux_T_at hT tw_479 rfl
    · exact ux_T_at hT tw_481 rfl
    · exact ux_T_at hT tw_483 rfl
  exact h
def R_N : String := "UnikernelHttp$Neighbours"
def F_N : u_T := fun k => match k with
  | 0 => ("UnikernelHttp$Neighbours", "addresses", "[I", true)
  | 1 => ("UnikernelHttp$Neighbours", "hardware", "[J", true)
  | 2 => ("UnikernelHttp$Neighbours", "heard", "[I", true)
  | 3 => ("UnikernelHttp$Neighbours", "held", "I", false)
  | _ => ("UnikernelHttp$Neighbours", "hearings", "I", false)
def t_N : Nat → FieldType := fun k => match k with
  | 0 => .array .int
  | 1 => .array .long
  | 2 => .array .int
  | 3 => .int
  | _ => .int
theorem n_N : ∀ a, a < 5 → ∀ b, b < 5 → a ≠ b → (F_N a).2.1 ≠ (F_N b).2.1 := by decide +kernel
theorem k_N : ∀ k, k < 5 → parseFieldDescriptor (F_N k).2.2.1 = some (t_N k) := by decide +kernel
theorem u_N {args : Array Value} {s : State} (hT : ux_T s) : ∀ w ∈ u_ws R_N F_N 5, w.before args s = true := by
  have h : ∀ w ∈ ([.laysFinal "UnikernelHttp$Neighbours" "UnikernelHttp$Neighbours" "addresses" "[I", .laysFinal "UnikernelHttp$Neighbours" "UnikernelHttp$Neighbours" "hardware" "[J", .laysFinal "UnikernelHttp$Neighbours" "UnikernelHttp$Neighbours" "heard" "[I", .lays "UnikernelHttp$Neighbours" "UnikernelHttp$Neighbours" "held" "I", .lays "UnikernelHttp$Neighbours" "UnikernelHttp$Neighbours" "hearings" "I"] : List Cond), w.before args s = true := by
    intro w hw
    simp only [List.mem_cons, List.not_mem_nil, or_false] at hw
    rcases hw with rfl | rfl | rfl | rfl | rfl
    · exact ux_T_at hT tw_55 rfl
    · exact ux_T_at hT tw_57 rfl
    · exact ux_T_at hT tw_59 rfl
    · exact ux_T_at hT tw_61 rfl
    · exact ux_T_at hT tw_63 rfl
  exact h
def R_Wi : String := "UnikernelHttp$Wire"
def F_Wi : u_T := fun k => match k with
  | 0 => ("UnikernelHttp$Wire", "neighbours", "LUnikernelHttp$Neighbours;", true)
  | 1 => ("UnikernelHttp$Wire", "frames", "[B", true)
  | 2 => ("UnikernelHttp$Wire", "sizes", "[I", true)
  | 3 => ("UnikernelHttp$Wire", "sent", "I", false)
  | _ => ("UnikernelHttp$Wire", "made", "I", false)
def t_Wi : Nat → FieldType := fun k => match k with
  | 0 => .object "UnikernelHttp$Neighbours"
  | 1 => .array .byte
  | 2 => .array .int
  | 3 => .int
  | _ => .int
theorem n_Wi : ∀ a, a < 5 → ∀ b, b < 5 → a ≠ b → (F_Wi a).2.1 ≠ (F_Wi b).2.1 := by decide +kernel
theorem k_Wi : ∀ k, k < 5 → parseFieldDescriptor (F_Wi k).2.2.1 = some (t_Wi k) := by decide +kernel
theorem u_Wi {args : Array Value} {s : State} (hT : ux_T s) : ∀ w ∈ u_ws R_Wi F_Wi 5, w.before args s = true := by
  have h : ∀ w ∈ ([.laysFinal "UnikernelHttp$Wire" "UnikernelHttp$Wire" "neighbours" "LUnikernelHttp$Neighbours;", .laysFinal "UnikernelHttp$Wire" "UnikernelHttp$Wire" "frames" "[B", .laysFinal "UnikernelHttp$Wire" "UnikernelHttp$Wire" "sizes" "[I", .lays "UnikernelHttp$Wire" "UnikernelHttp$Wire" "sent" "I", .lays "UnikernelHttp$Wire" "UnikernelHttp$Wire" "made" "I"] : List Cond), w.before args s = true := by
    intro w hw
    simp only [List.mem_cons, List.not_mem_nil, or_false] at hw
    rcases hw with rfl | rfl | rfl | rfl | rfl
    · exact ux_T_at hT tw_84 rfl
    · exact ux_T_at hT tw_86 rfl
    · exact ux_T_at hT tw_88 rfl
    · exact ux_T_at hT tw_90 rfl
    · exact ux_T_at hT tw_92 rfl
  exact h
def R_Gs : String := "UnikernelHttp$Gatherings"
def F_Gs : u_T := fun k => match k with
  | 0 => ("UnikernelHttp$Gatherings", "list", "[LUnikernelHttp$Gathering;", true)
  | _ => ("UnikernelHttp$Gatherings", "held", "I", false)
def t_Gs : Nat → FieldType := fun k => match k with
  | 0 => .array (.object "UnikernelHttp$Gathering")
  | _ => .int
theorem n_Gs : ∀ a, a < 2 → ∀ b, b < 2 → a ≠ b → (F_Gs a).2.1 ≠ (F_Gs b).2.1 := by decide +kernel
theorem k_Gs : ∀ k, k < 2 → parseFieldDescriptor (F_Gs k).2.2.1 = some (t_Gs k) := by decide +kernel
theorem u_Gs {args : Array Value} {s : State} (hT : ux_T s) : ∀ w ∈ u_ws R_Gs F_Gs 2, w.before args s = true := by
  have h : ∀ w ∈ ([.laysFinal "UnikernelHttp$Gatherings" "UnikernelHttp$Gatherings" "list" "[LUnikernelHttp$Gathering;", .lays "UnikernelHttp$Gatherings" "UnikernelHttp$Gatherings" "held" "I"] : List Cond), w.before args s = true := by
    intro w hw
    simp only [List.mem_cons, List.not_mem_nil, or_false] at hw
    rcases hw with rfl | rfl
    · exact ux_T_at hT tw_145 rfl
    · exact ux_T_at hT tw_147 rfl
  exact h
def R_G : String := "UnikernelHttp$Gathering"
def F_G : u_T := fun k => match k with
  | 0 => ("UnikernelHttp$Gathering", "content", "[B", true)
  | 1 => ("UnikernelHttp$Gathering", "there", "[B", true)
  | 2 => ("UnikernelHttp$Gathering", "source", "I", false)
  | 3 => ("UnikernelHttp$Gathering", "number", "I", false)
  | 4 => ("UnikernelHttp$Gathering", "protocol", "I", false)
  | 5 => ("UnikernelHttp$Gathering", "begun", "I", false)
  | 6 => ("UnikernelHttp$Gathering", "told", "I", false)
  | 7 => ("UnikernelHttp$Gathering", "farthest", "I", false)
  | _ => ("UnikernelHttp$Gathering", "filled", "I", false)
def t_G : Nat → FieldType := fun k => match k with
  | 0 => .array .byte
  | 1 => .array .byte
  | 2 => .int
  | 3 => .int
  | 4 => .int
  | 5 => .int
  | 6 => .int
  | 7 => .int
  | _ => .int
theorem n_G : ∀ a, a < 9 → ∀ b, b < 9 → a ≠ b → (F_G a).2.1 ≠ (F_G b).2.1 := by decide +kernel
theorem k_G : ∀ k, k < 9 → parseFieldDescriptor (F_G k).2.2.1 = some (t_G k) := by decide +kernel
theorem u_G {args : Array Value} {s : State} (hT : ux_T s) : ∀ w ∈ u_ws R_G F_G 9, w.before args s = true := by
  have h : ∀ w ∈ ([.laysFinal "UnikernelHttp$Gathering" "UnikernelHttp$Gathering" "content" "[B", .laysFinal "UnikernelHttp$Gathering" "UnikernelHttp$Gathering" "there" "[B", .lays "UnikernelHttp$Gathering" "UnikernelHttp$Gathering" "source" "I", .lays "UnikernelHttp$Gathering" "UnikernelHttp$Gathering" "number" "I", .lays "UnikernelHttp$Gathering" "UnikernelHttp$Gathering" "protocol" "I", .lays "UnikernelHttp$Gathering" "UnikernelHttp$Gathering" "begun" "I", .lays "UnikernelHttp$Gathering" "UnikernelHttp$Gathering" "told" "I", .lays "UnikernelHttp$Gathering" "UnikernelHttp$Gathering" "farthest" "I", .lays "UnikernelHttp$Gathering" "UnikernelHttp$Gathering" "filled" "I"] : List Cond), w.before args s = true := by
    intro w hw
    simp only [List.mem_cons, List.not_mem_nil, or_false] at hw
    rcases hw with rfl | rfl | rfl | rfl | rfl | rfl | rfl | rfl | rfl
    · exact ux_T_at hT tw_123 rfl
    · exact ux_T_at hT tw_125 rfl
    · exact ux_T_at hT tw_127 rfl
    · exact ux_T_at hT tw_129 rfl
    · exact ux_T_at hT tw_131 rfl
    · exact ux_T_at hT tw_133 rfl
    · exact ux_T_at hT tw_135 rfl
    · exact ux_T_at hT tw_137 rfl
    · exact ux_T_at hT tw_139 rfl
  exact h
def R_Sg : String := "UnikernelHttp$Segment"
def F_Sg : u_T := fun k => match k with
  | 0 => ("UnikernelHttp$Segment", "from", "[B", false)
  | 1 => ("UnikernelHttp$Segment", "dataAt", "I", false)
  | 2 => ("UnikernelHttp$Segment", "dataLength", "I", false)
  | 3 => ("UnikernelHttp$Segment", "address", "I", false)
  | 4 => ("UnikernelHttp$Segment", "port", "I", false)
  | 5 => ("UnikernelHttp$Segment", "toPort", "I", false)
  | 6 => ("UnikernelHttp$Segment", "number", "I", false)
  | 7 => ("UnikernelHttp$Segment", "acknowledgement", "I", false)
  | 8 => ("UnikernelHttp$Segment", "flags", "I", false)
  | 9 => ("UnikernelHttp$Segment", "window", "I", false)
  | 10 => ("UnikernelHttp$Segment", "length", "I", false)
  | _ => ("UnikernelHttp$Segment", "mss", "I", false)
def t_Sg : Nat → FieldType := fun k => match k with
  | 0 => .array .byte
  | 1 => .int
  | 2 => .int
  | 3 => .int
  | 4 => .int
  | 5 => .int
  | 6 => .int
  | 7 => .int
  | 8 => .int
  | 9 => .int
  | 10 => .int
  | _ => .int
theorem n_Sg : ∀ a, a < 12 → ∀ b, b < 12 → a ≠ b → (F_Sg a).2.1 ≠ (F_Sg b).2.1 := by decide +kernel
theorem k_Sg : ∀ k, k < 12 → parseFieldDescriptor (F_Sg k).2.2.1 = some (t_Sg k) := by decide +kernel
theorem u_Sg {args : Array Value} {s : State} (hT : ux_T s) : ∀ w ∈ u_ws R_Sg F_Sg 12, w.before args s = true := by
  have h : ∀ w ∈ ([.lays "UnikernelHttp$Segment" "UnikernelHttp$Segment" "from" "[B", .lays "UnikernelHttp$Segment" "UnikernelHttp$Segment" "dataAt" "I", .lays "UnikernelHttp$Segment" "UnikernelHttp$Segment" "dataLength" "I", .lays "UnikernelHttp$Segment" "UnikernelHttp$Segment" "address" "I", .lays "UnikernelHttp$Segment" "UnikernelHttp$Segment" "port" "I", .lays "UnikernelHttp$Segment" "UnikernelHttp$Segment" "toPort" "I", .lays "UnikernelHttp$Segment" "UnikernelHttp$Segment" "number" "I", .lays "UnikernelHttp$Segment" "UnikernelHttp$Segment" "acknowledgement" "I", .lays "UnikernelHttp$Segment" "UnikernelHttp$Segment" "flags" "I", .lays "UnikernelHttp$Segment" "UnikernelHttp$Segment" "window" "I", .lays "UnikernelHttp$Segment" "UnikernelHttp$Segment" "length" "I", .lays "UnikernelHttp$Segment" "UnikernelHttp$Segment" "mss" "I"] : List Cond), w.before args s = true := by
    intro w hw
    simp only [List.mem_cons, List.not_mem_nil, or_false] at hw
    rcases hw with rfl | rfl | rfl | rfl | rfl | rfl | rfl | rfl | rfl | rfl | rfl | rfl
    · exact ux_T_at hT tw_189 rfl
    · exact ux_T_at hT tw_191 rfl
    · exact ux_T_at hT tw_193 rfl
    · exact ux_T_at hT tw_195 rfl
    · exact ux_T_at hT tw_197 rfl
    · exact ux_T_at hT tw_199 rfl
    · exact ux_T_at hT tw_201 rfl
    · exact ux_T_at hT tw_203 rfl
    · exact ux_T_at hT tw_205 rfl
    · exact ux_T_at hT tw_207 rfl
    · exact ux_T_at hT tw_209 rfl
    · exact ux_T_at hT tw_211 rfl
  exact h
def R_Tc : String := "UnikernelHttp$Tcp"
def F_Tc : u_T := fun k => match k with
  | 0 => ("UnikernelHttp$Tcp", "list", "[LUnikernelHttp$Connection;", true)
  | 1 => ("UnikernelHttp$Tcp", "body", "[B", true)
  | 2 => ("UnikernelHttp$Tcp", "wire", "LUnikernelHttp$Wire;", true)
  | 3 => ("UnikernelHttp$Tcp", "held", "I", false)
  | _ => ("UnikernelHttp$Tcp", "made", "I", false)
def t_Tc : Nat → FieldType := fun k => match k with
  | 0 => .array (.object "UnikernelHttp$Connection")
  | 1 => .array .byte
  | 2 => .object "UnikernelHttp$Wire"
  | 3 => .int
  | _ => .int
theorem n_Tc : ∀ a, a < 5 → ∀ b, b < 5 → a ≠ b → (F_Tc a).2.1 ≠ (F_Tc b).2.1 := by decide +kernel
theorem k_Tc : ∀ k, k < 5 → parseFieldDescriptor (F_Tc k).2.2.1 = some (t_Tc k) := by decide +kernel
theorem u_Tc {args : Array Value} {s : State} (hT : ux_T s) : ∀ w ∈ u_ws R_Tc F_Tc 5, w.before args s = true := by
  have h : ∀ w ∈ ([.laysFinal "UnikernelHttp$Tcp" "UnikernelHttp$Tcp" "list" "[LUnikernelHttp$Connection;", .laysFinal "UnikernelHttp$Tcp" "UnikernelHttp$Tcp" "body" "[B", .laysFinal "UnikernelHttp$Tcp" "UnikernelHttp$Tcp" "wire" "LUnikernelHttp$Wire;", .lays "UnikernelHttp$Tcp" "UnikernelHttp$Tcp" "held" "I", .lays "UnikernelHttp$Tcp" "UnikernelHttp$Tcp" "made" "I"] : List Cond), w.before args s = true := by
    intro w hw
    simp only [List.mem_cons, List.not_mem_nil, or_false] at hw
    rcases hw with rfl | rfl | rfl | rfl | rfl
    · exact ux_T_at hT tw_377 rfl
    · exact ux_T_at hT tw_379 rfl
    · exact ux_T_at hT tw_381 rfl
    · exact ux_T_at hT tw_383 rfl
    · exact ux_T_at hT tw_385 rfl
  exact h
def R_Co : String := "UnikernelHttp$Connection"
def F_Co : u_T := fun k => match k with
  | 0 => ("UnikernelHttp$Connection", "inbox", "LUnikernelHttp$Inbox;", true)
  | 1 => ("UnikernelHttp$Connection", "outbox", "LUnikernelHttp$Outbox;", true)
  | 2 => ("UnikernelHttp$Connection", "address", "I", false)
  | 3 => ("UnikernelHttp$Connection", "port", "I", false)
  | 4 => ("UnikernelHttp$Connection", "state", "I", false)
  | 5 => ("UnikernelHttp$Connection", "window", "I", false)
  | 6 => ("UnikernelHttp$Connection", "windowNumber", "I", false)
  | 7 => ("UnikernelHttp$Connection", "windowAcknowledgement", "I", false)
  | 8 => ("UnikernelHttp$Connection", "mss", "I", false)
  | 9 => ("UnikernelHttp$Connection", "span", "I", false)
  | 10 => ("UnikernelHttp$Connection", "limit", "I", false)
  | 11 => ("UnikernelHttp$Connection", "doubles", "I", false)
  | 12 => ("UnikernelHttp$Connection", "tries", "I", false)
  | 13 => ("UnikernelHttp$Connection", "timeout", "I", false)
  | 14 => ("UnikernelHttp$Connection", "timer", "I", false)
  | 15 => ("UnikernelHttp$Connection", "leavesAt", "I", false)
  | _ => ("UnikernelHttp$Connection", "ends", "Z", false)
def t_Co : Nat → FieldType := fun k => match k with
  | 0 => .object "UnikernelHttp$Inbox"
  | 1 => .object "UnikernelHttp$Outbox"
  | 2 => .int
  | 3 => .int
  | 4 => .int
  | 5 => .int
  | 6 => .int
  | 7 => .int
  | 8 => .int
  | 9 => .int
  | 10 => .int
  | 11 => .int
  | 12 => .int
  | 13 => .int
  | 14 => .int
  | 15 => .int
  | _ => .boolean
theorem n_Co : ∀ a, a < 17 → ∀ b, b < 17 → a ≠ b → (F_Co a).2.1 ≠ (F_Co b).2.1 := by decide +kernel
theorem k_Co : ∀ k, k < 17 → parseFieldDescriptor (F_Co k).2.2.1 = some (t_Co k) := by decide +kernel
theorem u_Co {args : Array Value} {s : State} (hT : ux_T s) : ∀ w ∈ u_ws R_Co F_Co 17, w.before args s = true := by
  have h : ∀ w ∈ ([.laysFinal "UnikernelHttp$Connection" "UnikernelHttp$Connection" "inbox" "LUnikernelHttp$Inbox;", .laysFinal "UnikernelHttp$Connection" "UnikernelHttp$Connection" "outbox" "LUnikernelHttp$Outbox;", .lays "UnikernelHttp$Connection" "UnikernelHttp$Connection" "address" "I", .lays "UnikernelHttp$Connection" "UnikernelHttp$Connection" "port" "I", .lays "UnikernelHttp$Connection" "UnikernelHttp$Connection" "state" "I", .lays "UnikernelHttp$Connection" "UnikernelHttp$Connection" "window" "I", .lays "UnikernelHttp$Connection" "UnikernelHttp$Connection" "windowNumber" "I", .lays "UnikernelHttp$Connection" "UnikernelHttp$Connection" "windowAcknowledgement" "I", .lays "UnikernelHttp$Connection" "UnikernelHttp$Connection" "mss" "I", .lays "UnikernelHttp$Connection" "UnikernelHttp$Connection" "span" "I", .lays "UnikernelHttp$Connection" "UnikernelHttp$Connection" "limit" "I", .lays "UnikernelHttp$Connection" "UnikernelHttp$Connection" "doubles" "I", .lays "UnikernelHttp$Connection" "UnikernelHttp$Connection" "tries" "I", .lays "UnikernelHttp$Connection" "UnikernelHttp$Connection" "timeout" "I", .lays "UnikernelHttp$Connection" "UnikernelHttp$Connection" "timer" "I", .lays "UnikernelHttp$Connection" "UnikernelHttp$Connection" "leavesAt" "I", .lays "UnikernelHttp$Connection" "UnikernelHttp$Connection" "ends" "Z"] : List Cond), w.before args s = true := by
    intro w hw
    simp only [List.mem_cons, List.not_mem_nil, or_false] at hw
    rcases hw with rfl | rfl | rfl | rfl | rfl | rfl | rfl | rfl | rfl | rfl | rfl | rfl | rfl | rfl | rfl | rfl | rfl
    · exact ux_T_at hT tw_335 rfl
    · exact ux_T_at hT tw_337 rfl
    · exact ux_T_at hT tw_339 rfl
    · exact ux_T_at hT tw_341 rfl
    · exact ux_T_at hT tw_343 rfl
    · exact ux_T_at hT tw_345 rfl
    · exact ux_T_at hT tw_347 rfl
    · exact ux_T_at hT tw_349 rfl
    · exact ux_T_at hT tw_351 rfl
    · exact ux_T_at hT tw_353 rfl
    · exact ux_T_at hT tw_355 rfl
    · exact ux_T_at hT tw_357 rfl
    · exact ux_T_at hT tw_359 rfl
    · exact ux_T_at hT tw_361 rfl
    · exact ux_T_at hT tw_363 rfl
    · exact ux_T_at hT tw_365 rfl
    · exact ux_T_at hT tw_367 rfl
  exact h
def R_In : String := "UnikernelHttp$Inbox"
def F_In : u_T := fun k => match k with
  | 0 => ("UnikernelHttp$Inbox", "content", "[B", true)
  | 1 => ("UnikernelHttp$Inbox", "there", "[B", true)
  | 2 => ("UnikernelHttp$Inbox", "length", "I", false)
  | 3 => ("UnikernelHttp$Inbox", "next", "I", false)
  | 4 => ("UnikernelHttp$Inbox", "finTold", "Z", false)
  | 5 => ("UnikernelHttp$Inbox", "finPlace", "I", false)
  | _ => ("UnikernelHttp$Inbox", "finReached", "Z", false)
def t_In : Nat → FieldType := fun k => match k with
  | 0 => .array .byte
  | 1 => .array .byte
  | 2 => .int
  | 3 => .int
  | 4 => .boolean
  | 5 => .int
  | _ => .boolean
theorem n_In : ∀ a, a < 7 → ∀ b, b < 7 → a ≠ b → (F_In a).2.1 ≠ (F_In b).2.1 := by decide +kernel
theorem k_In : ∀ k, k < 7 → parseFieldDescriptor (F_In k).2.2.1 = some (t_In k) := by decide +kernel
theorem u_In {args : Array Value} {s : State} (hT : ux_T s) : ∀ w ∈ u_ws R_In F_In 7, w.before args s = true := by
  have h : ∀ w ∈ ([.laysFinal "UnikernelHttp$Inbox" "UnikernelHttp$Inbox" "content" "[B", .laysFinal "UnikernelHttp$Inbox" "UnikernelHttp$Inbox" "there" "[B", .lays "UnikernelHttp$Inbox" "UnikernelHttp$Inbox" "length" "I", .lays "UnikernelHttp$Inbox" "UnikernelHttp$Inbox" "next" "I", .lays "UnikernelHttp$Inbox" "UnikernelHttp$Inbox" "finTold" "Z", .lays "UnikernelHttp$Inbox" "UnikernelHttp$Inbox" "finPlace" "I", .lays "UnikernelHttp$Inbox" "UnikernelHttp$Inbox" "finReached" "Z"] : List Cond), w.before args s = true := by
    intro w hw
    simp only [List.mem_cons, List.not_mem_nil, or_false] at hw
    rcases hw with rfl | rfl | rfl | rfl | rfl | rfl | rfl
    · exact ux_T_at hT tw_247 rfl
    · exact ux_T_at hT tw_249 rfl
    · exact ux_T_at hT tw_251 rfl
    · exact ux_T_at hT tw_253 rfl
    · exact ux_T_at hT tw_255 rfl
    · exact ux_T_at hT tw_257 rfl
    · exact ux_T_at hT tw_259 rfl
  exact h
def R_Ou : String := "UnikernelHttp$Outbox"
def F_Ou : u_T := fun k => match k with
  | 0 => ("UnikernelHttp$Outbox", "content", "[B", true)
  | 1 => ("UnikernelHttp$Outbox", "length", "I", false)
  | 2 => ("UnikernelHttp$Outbox", "unacked", "I", false)
  | 3 => ("UnikernelHttp$Outbox", "sendNext", "I", false)
  | _ => ("UnikernelHttp$Outbox", "finSent", "Z", false)
def t_Ou : Nat → FieldType := fun k => match k with
  | 0 => .array .byte
  | 1 => .int
  | 2 => .int
  | 3 => .int
  | _ => .boolean
theorem n_Ou : ∀ a, a < 5 → ∀ b, b < 5 → a ≠ b → (F_Ou a).2.1 ≠ (F_Ou b).2.1 := by decide +kernel
theorem k_Ou : ∀ k, k < 5 → parseFieldDescriptor (F_Ou k).2.2.1 = some (t_Ou k) := by decide +kernel
theorem u_Ou {args : Array Value} {s : State} (hT : ux_T s) : ∀ w ∈ u_ws R_Ou F_Ou 5, w.before args s = true := by
  have h : ∀ w ∈ ([.laysFinal "UnikernelHttp$Outbox" "UnikernelHttp$Outbox" "content" "[B", .lays "UnikernelHttp$Outbox" "UnikernelHttp$Outbox" "length" "I", .lays "UnikernelHttp$Outbox" "UnikernelHttp$Outbox" "unacked" "I", .lays "UnikernelHttp$Outbox" "UnikernelHttp$Outbox" "sendNext" "I", .lays "UnikernelHttp$Outbox" "UnikernelHttp$Outbox" "finSent" "Z"] : List Cond), w.before args s = true := by
    intro w hw
    simp only [List.mem_cons, List.not_mem_nil, or_false] at hw
    rcases hw with rfl | rfl | rfl | rfl | rfl
    · exact ux_T_at hT tw_283 rfl
    · exact ux_T_at hT tw_285 rfl
    · exact ux_T_at hT tw_287 rfl
    · exact ux_T_at hT tw_289 rfl
    · exact ux_T_at hT tw_291 rfl
  exact h
def R_So : String := "UnikernelHttp$Store"
def F_So : u_T := fun k => match k with
  | 0 => ("UnikernelHttp$Store", "targets", "[[B", true)
  | 1 => ("UnikernelHttp$Store", "targetLengths", "[I", true)
  | 2 => ("UnikernelHttp$Store", "contents", "[[B", true)
  | 3 => ("UnikernelHttp$Store", "lengths", "[I", true)
  | 4 => ("UnikernelHttp$Store", "sums", "[I", true)
  | _ => ("UnikernelHttp$Store", "held", "I", false)
def t_So : Nat → FieldType := fun k => match k with
  | 0 => .array (.array .byte)
  | 1 => .array .int
  | 2 => .array (.array .byte)
  | 3 => .array .int
  | 4 => .array .int
  | _ => .int
theorem n_So : ∀ a, a < 6 → ∀ b, b < 6 → a ≠ b → (F_So a).2.1 ≠ (F_So b).2.1 := by decide +kernel
theorem k_So : ∀ k, k < 6 → parseFieldDescriptor (F_So k).2.2.1 = some (t_So k) := by decide +kernel
theorem u_So {args : Array Value} {s : State} (hT : ux_T s) : ∀ w ∈ u_ws R_So F_So 6, w.before args s = true := by
  have h : ∀ w ∈ ([.laysFinal "UnikernelHttp$Store" "UnikernelHttp$Store" "targets" "[[B", .laysFinal "UnikernelHttp$Store" "UnikernelHttp$Store" "targetLengths" "[I", .laysFinal "UnikernelHttp$Store" "UnikernelHttp$Store" "contents" "[[B", .laysFinal "UnikernelHttp$Store" "UnikernelHttp$Store" "lengths" "[I", .laysFinal "UnikernelHttp$Store" "UnikernelHttp$Store" "sums" "[I", .lays "UnikernelHttp$Store" "UnikernelHttp$Store" "held" "I"] : List Cond), w.before args s = true := by
    intro w hw
    simp only [List.mem_cons, List.not_mem_nil, or_false] at hw
    rcases hw with rfl | rfl | rfl | rfl | rfl | rfl
    · exact ux_T_at hT tw_408 rfl
    · exact ux_T_at hT tw_410 rfl
    · exact ux_T_at hT tw_412 rfl
    · exact ux_T_at hT tw_414 rfl
    · exact ux_T_at hT tw_416 rfl
    · exact ux_T_at hT tw_418 rfl
  exact h
def R_Ht : String := "UnikernelHttp$Http"
def F_Ht : u_T := fun k => match k with
  | 0 => ("UnikernelHttp$Http", "store", "LUnikernelHttp$Store;", true)
  | 1 => ("UnikernelHttp$Http", "answer", "[B", true)
  | 2 => ("UnikernelHttp$Http", "answerLength", "I", false)
  | 3 => ("UnikernelHttp$Http", "closes", "Z", false)
  | _ => ("UnikernelHttp$Http", "found", "I", false)
def t_Ht : Nat → FieldType := fun k => match k with
  | 0 => .object "UnikernelHttp$Store"
  | 1 => .array .byte
  | 2 => .int
  | 3 => .boolean
  | _ => .int
theorem n_Ht : ∀ a, a < 5 → ∀ b, b < 5 → a ≠ b → (F_Ht a).2.1 ≠ (F_Ht b).2.1 := by decide +kernel
theorem k_Ht : ∀ k, k < 5 → parseFieldDescriptor (F_Ht k).2.2.1 = some (t_Ht k) := by decide +kernel
theorem u_Ht {args : Array Value} {s : State} (hT : ux_T s) : ∀ w ∈ u_ws R_Ht F_Ht 5, w.before args s = true := by
  have h : ∀ w ∈ ([.laysFinal "UnikernelHttp$Http" "UnikernelHttp$Http" "store" "LUnikernelHttp$Store;", .laysFinal "UnikernelHttp$Http" "UnikernelHttp$Http" "answer" "[B", .lays "UnikernelHttp$Http" "UnikernelHttp$Http" "answerLength" "I", .lays "UnikernelHttp$Http" "UnikernelHttp$Http" "closes" "Z", .lays "UnikernelHttp$Http" "UnikernelHttp$Http" "found" "I"] : List Cond), w.before args s = true := by
    intro w hw
    simp only [List.mem_cons, List.not_mem_nil, or_false] at hw
    rcases hw with rfl | rfl | rfl | rfl | rfl
    · exact ux_T_at hT tw_432 rfl
    · exact ux_T_at hT tw_434 rfl
    · exact ux_T_at hT tw_436 rfl
    · exact ux_T_at hT tw_438 rfl
    · exact ux_T_at hT tw_440 rfl
  exact h
def R_Mo : String := "UnikernelHttpModel"
def F_Mo : u_T := fun k => match k with
  | 0 => ("UnikernelHttpModel", "row", "[B", true)
  | 1 => ("UnikernelHttpModel", "in", "[B", true)
  | 2 => ("UnikernelHttpModel", "out", "[B", true)
  | 3 => ("UnikernelHttpModel", "rows", "I", false)
  | 4 => ("UnikernelHttpModel", "thrown", "I", false)
  | 5 => ("UnikernelHttpModel", "time", "I", false)
  | 6 => ("UnikernelHttpModel", "packets", "I", false)
  | 7 => ("UnikernelHttpModel", "frames", "I", false)
  | 8 => ("UnikernelHttpModel", "kept", "[B", true)
  | 9 => ("UnikernelHttpModel", "keptSize", "[I", true)
  | 10 => ("UnikernelHttpModel", "nIp", "[I", true)
  | 11 => ("UnikernelHttpModel", "nHeard", "[I", true)
  | 12 => ("UnikernelHttpModel", "nHard", "[J", true)
  | 13 => ("UnikernelHttpModel", "neighbours", "I", false)
  | 14 => ("UnikernelHttpModel", "heard", "I", false)
  | 15 => ("UnikernelHttpModel", "gIp", "[I", true)
  | 16 => ("UnikernelHttpModel", "gNumber", "[I", true)
  | 17 => ("UnikernelHttpModel", "gProtocol", "[I", true)
  | 18 => ("UnikernelHttpModel", "gTold", "[I", true)
  | 19 => ("UnikernelHttpModel", "gBegun", "[I", true)
  | 20 => ("UnikernelHttpModel", "gOrder", "[I", true)
  | 21 => ("UnikernelHttpModel", "gBytes", "[B", true)
  | 22 => ("UnikernelHttpModel", "gThere", "[Z", true)
  | 23 => ("UnikernelHttpModel", "gatherings", "I", false)
  | 24 => ("UnikernelHttpModel", "begun", "I", false)
  | 25 => ("UnikernelHttpModel", "pTarget", "[B", true)
  | 26 => ("UnikernelHttpModel", "pBytes", "[B", true)
  | 27 => ("UnikernelHttpModel", "pLong", "[I", true)
  | 28 => ("UnikernelHttpModel", "pSize", "[I", true)
  | 29 => ("UnikernelHttpModel", "pSum", "[I", true)
  | 30 => ("UnikernelHttpModel", "pages", "I", false)
  | 31 => ("UnikernelHttpModel", "peer", "[LUnikernelHttpModel$Peer;", true)
  | 32 => ("UnikernelHttpModel", "peers", "I", false)
  | 33 => ("UnikernelHttpModel", "made", "I", false)
  | 34 => ("UnikernelHttpModel", "size", "I", false)
  | 35 => ("UnikernelHttpModel", "whole", "I", false)
  | 36 => ("UnikernelHttpModel", "answer", "[B", true)
  | 37 => ("UnikernelHttpModel", "answers", "I", false)
  | _ => ("UnikernelHttpModel", "at", "I", false)
def t_Mo : Nat → FieldType := fun k => match k with
  | 0 => .array .byte
  | 1 => .array .byte
  | 2 => .array .byte
  | 3 => .int
  | 4 => .int
  | 5 => .int
  | 6 => .int
  | 7 => .int
  | 8 => .array .byte
  | 9 => .array .int
  | 10 => .array .int
  | 11 => .array .int
  | 12 => .array .long
  | 13 => .int
  | 14 => .int
  | 15 => .array .int
  | 16 => .array .int
  | 17 => .array .int
  | 18 => .array .int
  | 19 => .array .int
  | 20 => .array .int
  | 21 => .array .byte
  | 22 => .array .boolean
  | 23 => .int
  | 24 => .int
  | 25 => .array .byte
  | 26 => .array .byte
  | 27 => .array .int
  | 28 => .array .int
  | 29 => .array .int
  | 30 => .int
  | 31 => .array (.object "UnikernelHttpModel$Peer")
  | 32 => .int
  | 33 => .int
  | 34 => .int
  | 35 => .int
  | 36 => .array .byte
  | 37 => .int
  | _ => .int
theorem n_Mo : ∀ a, a < 39 → ∀ b, b < 39 → a ≠ b → (F_Mo a).2.1 ≠ (F_Mo b).2.1 := by decide +kernel
theorem k_Mo : ∀ k, k < 39 → parseFieldDescriptor (F_Mo k).2.2.1 = some (t_Mo k) := by decide +kernel
theorem u_Mo {args : Array Value} {s : State} (hT : ux_T s) : ∀ w ∈ u_ws R_Mo F_Mo 39, w.before args s = true := by
  have h : ∀ w ∈ ([.laysFinal "UnikernelHttpModel" "UnikernelHttpModel" "row" "[B", .laysFinal "UnikernelHttpModel" "UnikernelHttpModel" "in" "[B", .laysFinal "UnikernelHttpModel" "UnikernelHttpModel" "out" "[B", .lays "UnikernelHttpModel" "UnikernelHttpModel" "rows" "I", .lays "UnikernelHttpModel" "UnikernelHttpModel" "thrown" "I", .lays "UnikernelHttpModel" "UnikernelHttpModel" "time" "I", .lays "UnikernelHttpModel" "UnikernelHttpModel" "packets" "I", .lays "UnikernelHttpModel" "UnikernelHttpModel" "frames" "I", .laysFinal "UnikernelHttpModel" "UnikernelHttpModel" "kept" "[B", .laysFinal "UnikernelHttpModel" "UnikernelHttpModel" "keptSize" "[I", .laysFinal "UnikernelHttpModel" "UnikernelHttpModel" "nIp" "[I", .laysFinal "UnikernelHttpModel" "UnikernelHttpModel" "nHeard" "[I", .laysFinal "UnikernelHttpModel" "UnikernelHttpModel" "nHard" "[J", .lays "UnikernelHttpModel" "UnikernelHttpModel" "neighbours" "I", .lays "UnikernelHttpModel" "UnikernelHttpModel" "heard" "I", .laysFinal "UnikernelHttpModel" "UnikernelHttpModel" "gIp" "[I", .laysFinal "UnikernelHttpModel" "UnikernelHttpModel" "gNumber" "[I", .laysFinal "UnikernelHttpModel" "UnikernelHttpModel" "gProtocol" "[I", .laysFinal "UnikernelHttpModel" "UnikernelHttpModel" "gTold" "[I", .laysFinal "UnikernelHttpModel" "UnikernelHttpModel" "gBegun" "[I", .laysFinal "UnikernelHttpModel" "UnikernelHttpModel" "gOrder" "[I", .laysFinal "UnikernelHttpModel" "UnikernelHttpModel" "gBytes" "[B", .laysFinal "UnikernelHttpModel" "UnikernelHttpModel" "gThere" "[Z", .lays "UnikernelHttpModel" "UnikernelHttpModel" "gatherings" "I", .lays "UnikernelHttpModel" "UnikernelHttpModel" "begun" "I", .laysFinal "UnikernelHttpModel" "UnikernelHttpModel" "pTarget" "[B", .laysFinal "UnikernelHttpModel" "UnikernelHttpModel" "pBytes" "[B", .laysFinal "UnikernelHttpModel" "UnikernelHttpModel" "pLong" "[I", .laysFinal "UnikernelHttpModel" "UnikernelHttpModel" "pSize" "[I", .laysFinal "UnikernelHttpModel" "UnikernelHttpModel" "pSum" "[I", .lays "UnikernelHttpModel" "UnikernelHttpModel" "pages" "I", .laysFinal "UnikernelHttpModel" "UnikernelHttpModel" "peer" "[LUnikernelHttpModel$Peer;", .lays "UnikernelHttpModel" "UnikernelHttpModel" "peers" "I", .lays "UnikernelHttpModel" "UnikernelHttpModel" "made" "I", .lays "UnikernelHttpModel" "UnikernelHttpModel" "size" "I", .lays "UnikernelHttpModel" "UnikernelHttpModel" "whole" "I", .laysFinal "UnikernelHttpModel" "UnikernelHttpModel" "answer" "[B", .lays "UnikernelHttpModel" "UnikernelHttpModel" "answers" "I", .lays "UnikernelHttpModel" "UnikernelHttpModel" "at" "I"] : List Cond), w.before args s = true := by
    intro w hw
    simp only [List.mem_cons, List.not_mem_nil, or_false] at hw
    rcases hw with rfl | rfl | rfl | rfl | rfl | rfl | rfl | rfl | rfl | rfl | rfl | rfl | rfl | rfl | rfl | rfl | rfl | rfl | rfl | rfl | rfl | rfl | rfl | rfl | rfl | rfl | rfl | rfl | rfl | rfl | rfl | rfl | rfl | rfl | rfl | rfl | rfl | rfl | rfl
    · exact ux_T_at hT tw_1632 rfl
    · exact ux_T_at hT tw_1634 rfl
    · exact ux_T_at hT tw_1636 rfl
    · exact ux_T_at hT tw_1638 rfl
    · exact ux_T_at hT tw_1640 rfl
    · exact ux_T_at hT tw_1642 rfl
    · exact ux_T_at hT tw_1644 rfl
    · exact ux_T_at hT tw_1646 rfl
    · exact ux_T_at hT tw_1648 rfl
    · exact ux_T_at hT tw_1650 rfl
    · exact ux_T_at hT tw_1652 rfl
    · exact ux_T_at hT tw_1654 rfl
    · exact ux_T_at hT tw_1656 rfl
    · exact ux_T_at hT tw_1658 rfl
    · exact ux_T_at hT tw_1660 rfl
    · exact ux_T_at hT tw_1662 rfl
    · exact ux_T_at hT tw_1664 rfl
    · exact ux_T_at hT tw_1666 rfl
    · exact ux_T_at hT tw_1668 rfl
    · exact ux_T_at hT tw_1670 rfl
    · exact ux_T_at hT tw_1672 rfl
    · exact ux_T_at hT tw_1674 rfl
    · exact ux_T_at hT tw_1676 rfl
    · exact ux_T_at hT tw_1678 rfl
    · exact ux_T_at hT tw_1680 rfl
    · exact ux_T_at hT tw_1682 rfl
    · exact ux_T_at hT tw_1684 rfl
    · exact ux_T_at hT tw_1686 rfl
    · exact ux_T_at hT tw_1688 rfl
    · exact ux_T_at hT tw_1690 rfl
    · exact ux_T_at hT tw_1692 rfl
    · exact ux_T_at hT tw_1694 rfl
    · exact ux_T_at hT tw_1696 rfl
    · exact ux_T_at hT tw_1698 rfl
    · exact ux_T_at hT tw_1700 rfl
    · exact ux_T_at hT tw_1702 rfl
    · exact ux_T_at hT tw_1704 rfl
    · exact ux_T_at hT tw_1706 rfl
    · exact ux_T_at hT tw_1708 rfl
  exact h
def R_Pe : String := "UnikernelHttpModel$Peer"
def F_Pe : u_T := fun k => match k with
  | 0 => ("UnikernelHttpModel$Peer", "ip", "I", false)
  | 1 => ("UnikernelHttpModel$Peer", "port", "I", false)
  | 2 => ("UnikernelHttpModel$Peer", "state", "I", false)
  | 3 => ("UnikernelHttpModel$Peer", "next", "I", false)
  | 4 => ("UnikernelHttpModel$Peer", "ours", "I", false)
  | 5 => ("UnikernelHttpModel$Peer", "unacked", "I", false)
  | 6 => ("UnikernelHttpModel$Peer", "toSend", "I", false)
  | 7 => ("UnikernelHttpModel$Peer", "window", "I", false)
  | 8 => ("UnikernelHttpModel$Peer", "wl1", "I", false)
  | 9 => ("UnikernelHttpModel$Peer", "wl2", "I", false)
  | 10 => ("UnikernelHttpModel$Peer", "mss", "I", false)
  | 11 => ("UnikernelHttpModel$Peer", "span", "I", false)
  | 12 => ("UnikernelHttpModel$Peer", "limit", "I", false)
  | 13 => ("UnikernelHttpModel$Peer", "doubles", "I", false)
  | 14 => ("UnikernelHttpModel$Peer", "tries", "I", false)
  | 15 => ("UnikernelHttpModel$Peer", "timeout", "I", false)
  | 16 => ("UnikernelHttpModel$Peer", "timer", "I", false)
  | 17 => ("UnikernelHttpModel$Peer", "dies", "I", false)
  | 18 => ("UnikernelHttpModel$Peer", "order", "I", false)
  | 19 => ("UnikernelHttpModel$Peer", "inbox", "[B", true)
  | 20 => ("UnikernelHttpModel$Peer", "early", "[B", true)
  | 21 => ("UnikernelHttpModel$Peer", "there", "[Z", true)
  | 22 => ("UnikernelHttpModel$Peer", "inboxes", "I", false)
  | 23 => ("UnikernelHttpModel$Peer", "finAt", "I", false)
  | 24 => ("UnikernelHttpModel$Peer", "finTold", "Z", false)
  | 25 => ("UnikernelHttpModel$Peer", "finReached", "Z", false)
  | 26 => ("UnikernelHttpModel$Peer", "ends", "Z", false)
  | 27 => ("UnikernelHttpModel$Peer", "finSent", "Z", false)
  | 28 => ("UnikernelHttpModel$Peer", "finAcked", "Z", false)
  | 29 => ("UnikernelHttpModel$Peer", "outbox", "[B", true)
  | 30 => ("UnikernelHttpModel$Peer", "outboxes", "I", false)
  | _ => ("UnikernelHttpModel$Peer", "sent", "I", false)
def t_Pe : Nat → FieldType := fun k => match k with
  | 0 => .int
  | 1 => .int
  | 2 => .int
  | 3 => .int
  | 4 => .int
  | 5 => .int
  | 6 => .int
  | 7 => .int
  | 8 => .int
  | 9 => .int
  | 10 => .int
  | 11 => .int
  | 12 => .int
  | 13 => .int
  | 14 => .int
  | 15 => .int
  | 16 => .int
  | 17 => .int
  | 18 => .int
  | 19 => .array .byte
  | 20 => .array .byte
  | 21 => .array .boolean
  | 22 => .int
  | 23 => .int
  | 24 => .boolean
  | 25 => .boolean
  | 26 => .boolean
  | 27 => .boolean
  | 28 => .boolean
  | 29 => .array .byte
  | 30 => .int
  | _ => .int
theorem n_Pe : ∀ a, a < 32 → ∀ b, b < 32 → a ≠ b → (F_Pe a).2.1 ≠ (F_Pe b).2.1 := by decide +kernel
theorem k_Pe : ∀ k, k < 32 → parseFieldDescriptor (F_Pe k).2.2.1 = some (t_Pe k) := by decide +kernel
theorem u_Pe {args : Array Value} {s : State} (hT : ux_T s) : ∀ w ∈ u_ws R_Pe F_Pe 32, w.before args s = true := by
  have h : ∀ w ∈ ([.lays "UnikernelHttpModel$Peer" "UnikernelHttpModel$Peer" "ip" "I", .lays "UnikernelHttpModel$Peer" "UnikernelHttpModel$Peer" "port" "I", .lays "UnikernelHttpModel$Peer" "UnikernelHttpModel$Peer" "state" "I", .lays "UnikernelHttpModel$Peer" "UnikernelHttpModel$Peer" "next" "I", .lays "UnikernelHttpModel$Peer" "UnikernelHttpModel$Peer" "ours" "I", .lays "UnikernelHttpModel$Peer" "UnikernelHttpModel$Peer" "unacked" "I", .lays "UnikernelHttpModel$Peer" "UnikernelHttpModel$Peer" "toSend" "I", .lays "UnikernelHttpModel$Peer" "UnikernelHttpModel$Peer" "window" "I", .lays "UnikernelHttpModel$Peer" "UnikernelHttpModel$Peer" "wl1" "I", .lays "UnikernelHttpModel$Peer" "UnikernelHttpModel$Peer" "wl2" "I", .lays "UnikernelHttpModel$Peer" "UnikernelHttpModel$Peer" "mss" "I", .lays "UnikernelHttpModel$Peer" "UnikernelHttpModel$Peer" "span" "I", .lays "UnikernelHttpModel$Peer" "UnikernelHttpModel$Peer" "limit" "I", .lays "UnikernelHttpModel$Peer" "UnikernelHttpModel$Peer" "doubles" "I", .lays "UnikernelHttpModel$Peer" "UnikernelHttpModel$Peer" "tries" "I", .lays "UnikernelHttpModel$Peer" "UnikernelHttpModel$Peer" "timeout" "I", .lays "UnikernelHttpModel$Peer" "UnikernelHttpModel$Peer" "timer" "I", .lays "UnikernelHttpModel$Peer" "UnikernelHttpModel$Peer" "dies" "I", .lays "UnikernelHttpModel$Peer" "UnikernelHttpModel$Peer" "order" "I", .laysFinal "UnikernelHttpModel$Peer" "UnikernelHttpModel$Peer" "inbox" "[B", .laysFinal "UnikernelHttpModel$Peer" "UnikernelHttpModel$Peer" "early" "[B", .laysFinal "UnikernelHttpModel$Peer" "UnikernelHttpModel$Peer" "there" "[Z", .lays "UnikernelHttpModel$Peer" "UnikernelHttpModel$Peer" "inboxes" "I", .lays "UnikernelHttpModel$Peer" "UnikernelHttpModel$Peer" "finAt" "I", .lays "UnikernelHttpModel$Peer" "UnikernelHttpModel$Peer" "finTold" "Z", .lays "UnikernelHttpModel$Peer" "UnikernelHttpModel$Peer" "finReached" "Z", .lays "UnikernelHttpModel$Peer" "UnikernelHttpModel$Peer" "ends" "Z", .lays "UnikernelHttpModel$Peer" "UnikernelHttpModel$Peer" "finSent" "Z", .lays "UnikernelHttpModel$Peer" "UnikernelHttpModel$Peer" "finAcked" "Z", .laysFinal "UnikernelHttpModel$Peer" "UnikernelHttpModel$Peer" "outbox" "[B", .lays "UnikernelHttpModel$Peer" "UnikernelHttpModel$Peer" "outboxes" "I", .lays "UnikernelHttpModel$Peer" "UnikernelHttpModel$Peer" "sent" "I"] : List Cond), w.before args s = true := by
    intro w hw
    simp only [List.mem_cons, List.not_mem_nil, or_false] at hw
    rcases hw with rfl | rfl | rfl | rfl | rfl | rfl | rfl | rfl | rfl | rfl | rfl | rfl | rfl | rfl | rfl | rfl | rfl | rfl | rfl | rfl | rfl | rfl | rfl | rfl | rfl | rfl | rfl | rfl | rfl | rfl | rfl | rfl
    · exact ux_T_at hT tw_1528 rfl
    · exact ux_T_at hT tw_1530 rfl
    · exact ux_T_at hT tw_1532 rfl
    · exact ux_T_at hT tw_1534 rfl
    · exact ux_T_at hT tw_1536 rfl
    · exact ux_T_at hT tw_1538 rfl
    · exact ux_T_at hT tw_1540 rfl
    · exact ux_T_at hT tw_1542 rfl
    · exact ux_T_at hT tw_1544 rfl
    · exact ux_T_at hT tw_1546 rfl
    · exact ux_T_at hT tw_1548 rfl
    · exact ux_T_at hT tw_1550 rfl
    · exact ux_T_at hT tw_1552 rfl
    · exact ux_T_at hT tw_1554 rfl
    · exact ux_T_at hT tw_1556 rfl
    · exact ux_T_at hT tw_1558 rfl
    · exact ux_T_at hT tw_1560 rfl
    · exact ux_T_at hT tw_1562 rfl
    · exact ux_T_at hT tw_1564 rfl
    · exact ux_T_at hT tw_1566 rfl
    · exact ux_T_at hT tw_1568 rfl
    · exact ux_T_at hT tw_1570 rfl
    · exact ux_T_at hT tw_1572 rfl
    · exact ux_T_at hT tw_1574 rfl
    · exact ux_T_at hT tw_1576 rfl
    · exact ux_T_at hT tw_1578 rfl
    · exact ux_T_at hT tw_1580 rfl
    · exact ux_T_at hT tw_1582 rfl
    · exact ux_T_at hT tw_1584 rfl
    · exact ux_T_at hT tw_1586 rfl
    · exact ux_T_at hT tw_1588 rfl
    · exact ux_T_at hT tw_1590 rfl
  exact h
abbrev cls : List vw_C := [(R_U, F_U, 14), (R_N, F_N, 5), (R_Wi, F_Wi, 5), (R_Gs, F_Gs, 2), (R_G, F_G, 9), (R_Sg, F_Sg, 12), (R_Tc, F_Tc, 5), (R_Co, F_Co, 17), (R_In, F_In, 7), (R_Ou, F_Ou, 5), (R_So, F_So, 6), (R_Ht, F_Ht, 5), (R_Mo, F_Mo, 39), (R_Pe, F_Pe, 32)]
theorem z_U : ∀ j, j < 14 → defaultValue (t_U j) = vp_V [.null, .int 0, .int 0, .null, .null, .null, .null, .null, .null, .null, .null, .null, .int 0, .int 0] j := by
  intro j hj
  match j, hj with
  | 0, _ => rfl
  | 1, _ => rfl
  | 2, _ => rfl
  | 3, _ => rfl
  | 4, _ => rfl
  | 5, _ => rfl
  | 6, _ => rfl
  | 7, _ => rfl
  | 8, _ => rfl
  | 9, _ => rfl
  | 10, _ => rfl
  | 11, _ => rfl
  | 12, _ => rfl
  | 13, _ => rfl
  | n + 14, h => exact absurd h (by omega)
theorem z_N : ∀ j, j < 5 → defaultValue (t_N j) = vp_V [.null, .null, .null, .int 0, .int 0] j := by
  intro j hj
  match j, hj with
  | 0, _ => rfl
  | 1, _ => rfl
  | 2, _ => rfl
  | 3, _ => rfl
  | 4, _ => rfl
  | n + 5, h => exact absurd h (by omega)
theorem z_Wi : ∀ j, j < 5 → defaultValue (t_Wi j) = vp_V [.null, .null, .null, .int 0, .int 0] j := by
  intro j hj
  match j, hj with
  | 0, _ => rfl
  | 1, _ => rfl
  | 2, _ => rfl
  | 3, _ => rfl
  | 4, _ => rfl
  | n + 5, h => exact absurd h (by omega)
theorem z_Gs : ∀ j, j < 2 → defaultValue (t_Gs j) = vp_V [.null, .int 0] j := by
  intro j hj
  match j, hj with
  | 0, _ => rfl
  | 1, _ => rfl
  | n + 2, h => exact absurd h (by omega)
theorem z_G : ∀ j, j < 9 → defaultValue (t_G j) = vp_V [.null, .null, .int 0, .int 0, .int 0, .int 0, .int 0, .int 0, .int 0] j := by
  intro j hj
  match j, hj with
  | 0, _ => rfl
  | 1, _ => rfl
  | 2, _ => rfl
  | 3, _ => rfl
  | 4, _ => rfl
  | 5, _ => rfl
  | 6, _ => rfl
  | 7, _ => rfl
  | 8, _ => rfl
  | n + 9, h => exact absurd h (by omega)
theorem z_Sg : ∀ j, j < 12 → defaultValue (t_Sg j) = vp_V [.null, .int 0, .int 0, .int 0, .int 0, .int 0, .int 0, .int 0, .int 0, .int 0, .int 0, .int 0] j := by
  intro j hj
  match j, hj with
  | 0, _ => rfl
  | 1, _ => rfl
  | 2, _ => rfl
  | 3, _ => rfl
  | 4, _ => rfl
  | 5, _ => rfl
  | 6, _ => rfl
  | 7, _ => rfl
  | 8, _ => rfl
  | 9, _ => rfl
  | 10, _ => rfl
  | 11, _ => rfl
  | n + 12, h => exact absurd h (by omega)
theorem z_Tc : ∀ j, j < 5 → defaultValue (t_Tc j) = vp_V [.null, .null, .null, .int 0, .int 0] j := by
  intro j hj
  match j, hj with
  | 0, _ => rfl
  | 1, _ => rfl
  | 2, _ => rfl
  | 3, _ => rfl
  | 4, _ => rfl
  | n + 5, h => exact absurd h (by omega)
theorem z_Co : ∀ j, j < 17 → defaultValue (t_Co j) = vp_V [.null, .null, .int 0, .int 0, .int 0, .int 0, .int 0, .int 0, .int 0, .int 0, .int 0, .int 0, .int 0, .int 0, .int 0, .int 0, .int 0] j := by
  intro j hj
  match j, hj with
  | 0, _ => rfl
  | 1, _ => rfl
  | 2, _ => rfl
  | 3, _ => rfl
  | 4, _ => rfl
  | 5, _ => rfl
  | 6, _ => rfl
  | 7, _ => rfl
  | 8, _ => rfl
  | 9, _ => rfl
  | 10, _ => rfl
  | 11, _ => rfl
  | 12, _ => rfl
  | 13, _ => rfl
  | 14, _ => rfl
  | 15, _ => rfl
  | 16, _ => rfl
  | n + 17, h => exact absurd h (by omega)
theorem z_In : ∀ j, j < 7 → defaultValue (t_In j) = vp_V [.null, .null, .int 0, .int 0, .int 0, .int 0, .int 0] j := by
  intro j hj
  match j, hj with
  | 0, _ => rfl
  | 1, _ => rfl
  | 2, _ => rfl
  | 3, _ => rfl
  | 4, _ => rfl
  | 5, _ => rfl
  | 6, _ => rfl
  | n + 7, h => exact absurd h (by omega)
theorem z_Ou : ∀ j, j < 5 → defaultValue (t_Ou j) = vp_V [.null, .int 0, .int 0, .int 0, .int 0] j := by
  intro j hj
  match j, hj with
  | 0, _ => rfl
  | 1, _ => rfl
  | 2, _ => rfl
  | 3, _ => rfl
  | 4, _ => rfl
  | n + 5, h => exact absurd h (by omega)
theorem z_So : ∀ j, j < 6 → defaultValue (t_So j) = vp_V [.null, .null, .null, .null, .null, .int 0] j := by
  intro j hj
  match j, hj with
  | 0, _ => rfl
  | 1, _ => rfl
  | 2, _ => rfl
  | 3, _ => rfl
  | 4, _ => rfl
  | 5, _ => rfl
  | n + 6, h => exact absurd h (by omega)
theorem z_Ht : ∀ j, j < 5 → defaultValue (t_Ht j) = vp_V [.null, .null, .int 0, .int 0, .int 0] j := by
  intro j hj
  match j, hj with
  | 0, _ => rfl
  | 1, _ => rfl
  | 2, _ => rfl
  | 3, _ => rfl
  | 4, _ => rfl
  | n + 5, h => exact absurd h (by omega)
theorem z_Mo : ∀ j, j < 39 → defaultValue (t_Mo j) = vp_V [.null, .null, .null, .int 0, .int 0, .int 0, .int 0, .int 0, .null, .null, .null, .null, .null, .int 0, .int 0, .null, .null, .null, .null, .null, .null, .null, .null, .int 0, .int 0, .null, .null, .null, .null, .null, .int 0, .null, .int 0, .int 0, .int 0, .int 0, .null, .int 0, .int 0] j := by
  intro j hj
  match j, hj with
  | 0, _ => rfl
  | 1, _ => rfl
  | 2, _ => rfl
  | 3, _ => rfl
  | 4, _ => rfl
  | 5, _ => rfl
  | 6, _ => rfl
  | 7, _ => rfl
  | 8, _ => rfl
  | 9, _ => rfl
  | 10, _ => rfl
  | 11, _ => rfl
  | 12, _ => rfl
  | 13, _ => rfl
  | 14, _ => rfl
  | 15, _ => rfl
  | 16, _ => rfl
  | 17, _ => rfl
  | 18, _ => rfl
  | 19, _ => rfl
  | 20, _ => rfl
  | 21, _ => rfl
  | 22, _ => rfl
  | 23, _ => rfl
  | 24, _ => rfl
  | 25, _ => rfl
  | 26, _ => rfl
  | 27, _ => rfl
  | 28, _ => rfl
  | 29, _ => rfl
  | 30, _ => rfl
  | 31, _ => rfl
  | 32, _ => rfl
  | 33, _ => rfl
  | 34, _ => rfl
  | 35, _ => rfl
  | 36, _ => rfl
  | 37, _ => rfl
  | 38, _ => rfl
  | n + 39, h => exact absurd h (by omega)
theorem z_Pe : ∀ j, j < 32 → defaultValue (t_Pe j) = vp_V [.int 0, .int 0, .int 0, .int 0, .int 0, .int 0, .int 0, .int 0, .int 0, .int 0, .int 0, .int 0, .int 0, .int 0, .int 0, .int 0, .int 0, .int 0, .int 0, .null, .null, .null, .int 0, .int 0, .int 0, .int 0, .int 0, .int 0, .int 0, .null, .int 0, .int 0] j := by
  intro j hj
  match j, hj with
  | 0, _ => rfl
  | 1, _ => rfl
  | 2, _ => rfl
  | 3, _ => rfl
  | 4, _ => rfl
  | 5, _ => rfl
  | 6, _ => rfl
  | 7, _ => rfl
  | 8, _ => rfl
  | 9, _ => rfl
  | 10, _ => rfl
  | 11, _ => rfl
  | 12, _ => rfl
  | 13, _ => rfl
  | 14, _ => rfl
  | 15, _ => rfl
  | 16, _ => rfl
  | 17, _ => rfl
  | 18, _ => rfl
  | 19, _ => rfl
  | 20, _ => rfl
  | 21, _ => rfl
  | 22, _ => rfl
  | 23, _ => rfl
  | 24, _ => rfl
  | 25, _ => rfl
  | 26, _ => rfl
  | 27, _ => rfl
  | 28, _ => rfl
  | 29, _ => rfl
  | 30, _ => rfl
  | 31, _ => rfl
  | n + 32, h => exact absurd h (by omega)
end
section
/-! Which words the rows behind use, by their places. -/
theorem tw_5 : (Jvm.Cond.initialized "UnikernelHttp$Gathering") ∈ lw_tbl := ux_in 5 ux_t1 rfl
theorem tw_9 : (Jvm.Cond.initialized "UnikernelHttp$Inbox") ∈ lw_tbl := ux_in 9 ux_t1 rfl
theorem tw_10 : (Jvm.Cond.initialized "UnikernelHttp$Outbox") ∈ lw_tbl := ux_in 10 ux_t1 rfl
theorem tw_40 : (Jvm.Cond.instanceMethod ({ cls := "java/lang/Object", name := "<init>", desc := "()V" } : Jvm.MethodName)) ∈ lw_tbl := ux_in 40 ux_t1 rfl
theorem tw_41 : (Jvm.Cond.code ({ cls := "java/lang/Object", name := "<init>", desc := "()V" } : Jvm.MethodName) object_method_1_code (1 : Nat) (Option.none : Option Jvm.ClassFile.FieldType)) ∈ lw_tbl := ux_in 41 ux_t1 rfl
theorem tw_47 : (Jvm.Cond.methodLink "UnikernelHttp$Neighbours" (3 : Nat) ({ cls := "java/lang/Object", name := "<init>", desc := "()V" } : Jvm.MethodName)) ∈ lw_tbl := ux_in 47 ux_t1 rfl
theorem tw_48 : (Jvm.Cond.fieldLink "UnikernelHttp$Neighbours" (9 : Nat) "UnikernelHttp$Neighbours" "addresses" "[I") ∈ lw_tbl := ux_in 48 ux_t1 rfl
theorem tw_49 : (Jvm.Cond.fieldLink "UnikernelHttp$Neighbours" (15 : Nat) "UnikernelHttp$Neighbours" "hardware" "[J") ∈ lw_tbl := ux_in 49 ux_t1 rfl
theorem tw_51 : (Jvm.Cond.fieldLink "UnikernelHttp$Neighbours" (19 : Nat) "UnikernelHttp$Neighbours" "heard" "[I") ∈ lw_tbl := ux_in 51 ux_t1 rfl
theorem tw_66 : (Jvm.Cond.arrayClass Jvm.ClassFile.FieldType.byte) ∈ lw_tbl := ux_in 66 ux_t1 rfl
theorem tw_67 : (Jvm.Cond.arrayClass Jvm.ClassFile.FieldType.int) ∈ lw_tbl := ux_in 67 ux_t1 rfl
theorem tw_68 : (Jvm.Cond.arrayClass Jvm.ClassFile.FieldType.long) ∈ lw_tbl := ux_in 68 ux_t1 rfl
theorem tw_74 : (Jvm.Cond.methodLink "UnikernelHttp$Wire" (3 : Nat) ({ cls := "java/lang/Object", name := "<init>", desc := "()V" } : Jvm.MethodName)) ∈ lw_tbl := ux_in 74 ux_t1 rfl
theorem tw_75 : (Jvm.Cond.constant "UnikernelHttp$Wire" (9 : Nat) (97152 : Int32)) ∈ lw_tbl := ux_in 75 ux_t1 rfl
theorem tw_76 : (Jvm.Cond.fieldLink "UnikernelHttp$Wire" (20 : Nat) "UnikernelHttp$Wire" "neighbours" "LUnikernelHttp$Neighbours;") ∈ lw_tbl := ux_in 76 ux_t1 rfl
theorem tw_77 : (Jvm.Cond.fieldLink "UnikernelHttp$Wire" (10 : Nat) "UnikernelHttp$Wire" "frames" "[B") ∈ lw_tbl := ux_in 77 ux_t1 rfl
theorem tw_78 : (Jvm.Cond.fieldLink "UnikernelHttp$Wire" (16 : Nat) "UnikernelHttp$Wire" "sizes" "[I") ∈ lw_tbl := ux_in 78 ux_t1 rfl
theorem tw_100 : (Jvm.Cond.methodLink "UnikernelHttp$Gatherings" (3 : Nat) ({ cls := "java/lang/Object", name := "<init>", desc := "()V" } : Jvm.MethodName)) ∈ lw_tbl := ux_in 100 ux_t1 rfl
theorem tw_101 : (Jvm.Cond.classLink "UnikernelHttp$Gatherings" (9 : Nat) "UnikernelHttp$Gathering") ∈ lw_tbl := ux_in 101 ux_t1 rfl
theorem tw_102 : (Jvm.Cond.arrayOver (Jvm.ClassFile.FieldType.object "UnikernelHttp$Gathering")) ∈ lw_tbl := ux_in 102 ux_t1 rfl
theorem tw_103 : (Jvm.Cond.instantiable "UnikernelHttp$Gathering" (9 : Nat)) ∈ lw_tbl := ux_in 103 ux_t1 rfl
theorem tw_104 : (Jvm.Cond.methodLinkNest "UnikernelHttp$Gatherings" (17 : Nat) ({ cls := "UnikernelHttp$Gathering", name := "<init>", desc := "()V" } : Jvm.MethodName) "UnikernelHttp") ∈ lw_tbl := ux_in 104 ux_t1 rfl
theorem tw_105 : (Jvm.Cond.instanceMethod ({ cls := "UnikernelHttp$Gathering", name := "<init>", desc := "()V" } : Jvm.MethodName)) ∈ lw_tbl := ux_in 105 ux_t1 rfl
theorem tw_106 : (Jvm.Cond.code ({ cls := "UnikernelHttp$Gathering", name := "<init>", desc := "()V" } : Jvm.MethodName) prog_3_method_1_code (1 : Nat) (Option.none : Option Jvm.ClassFile.FieldType)) ∈ lw_tbl := ux_in 106 ux_t1 rfl
theorem tw_107 : (Jvm.Cond.methodLink "UnikernelHttp$Gathering" (3 : Nat) ({ cls := "java/lang/Object", name := "<init>", desc := "()V" } : Jvm.MethodName)) ∈ lw_tbl := ux_in 107 ux_t1 rfl
theorem tw_108 : (Jvm.Cond.fieldLink "UnikernelHttp$Gathering" (9 : Nat) "UnikernelHttp$Gathering" "content" "[B") ∈ lw_tbl := ux_in 108 ux_t1 rfl
theorem tw_110 : (Jvm.Cond.fieldLink "UnikernelHttp$Gathering" (15 : Nat) "UnikernelHttp$Gathering" "there" "[B") ∈ lw_tbl := ux_in 110 ux_t1 rfl
theorem tw_142 : (Jvm.Cond.fieldLink "UnikernelHttp$Gatherings" (11 : Nat) "UnikernelHttp$Gatherings" "list" "[LUnikernelHttp$Gathering;") ∈ lw_tbl := ux_in 142 ux_t1 rfl
theorem tw_155 : (Jvm.Cond.methodLink "UnikernelHttp$Segment" (3 : Nat) ({ cls := "java/lang/Object", name := "<init>", desc := "()V" } : Jvm.MethodName)) ∈ lw_tbl := ux_in 155 ux_t1 rfl
theorem tw_156 : (Jvm.Cond.fieldLink "UnikernelHttp$Segment" (9 : Nat) "UnikernelHttp$Segment" "from" "[B") ∈ lw_tbl := ux_in 156 ux_t1 rfl
theorem tw_226 : (Jvm.Cond.methodLink "UnikernelHttp$Connection" (3 : Nat) ({ cls := "java/lang/Object", name := "<init>", desc := "()V" } : Jvm.MethodName)) ∈ lw_tbl := ux_in 226 ux_t1 rfl
theorem tw_227 : (Jvm.Cond.classLink "UnikernelHttp$Connection" (9 : Nat) "UnikernelHttp$Inbox") ∈ lw_tbl := ux_in 227 ux_t1 rfl
theorem tw_228 : (Jvm.Cond.instantiable "UnikernelHttp$Inbox" (7 : Nat)) ∈ lw_tbl := ux_in 228 ux_t1 rfl
theorem tw_229 : (Jvm.Cond.methodLinkNest "UnikernelHttp$Connection" (11 : Nat) ({ cls := "UnikernelHttp$Inbox", name := "<init>", desc := "()V" } : Jvm.MethodName) "UnikernelHttp") ∈ lw_tbl := ux_in 229 ux_t1 rfl
theorem tw_230 : (Jvm.Cond.instanceMethod ({ cls := "UnikernelHttp$Inbox", name := "<init>", desc := "()V" } : Jvm.MethodName)) ∈ lw_tbl := ux_in 230 ux_t1 rfl
theorem tw_231 : (Jvm.Cond.code ({ cls := "UnikernelHttp$Inbox", name := "<init>", desc := "()V" } : Jvm.MethodName) prog_6_method_1_code (1 : Nat) (Option.none : Option Jvm.ClassFile.FieldType)) ∈ lw_tbl := ux_in 231 ux_t1 rfl
theorem tw_232 : (Jvm.Cond.methodLink "UnikernelHttp$Inbox" (3 : Nat) ({ cls := "java/lang/Object", name := "<init>", desc := "()V" } : Jvm.MethodName)) ∈ lw_tbl := ux_in 232 ux_t1 rfl
theorem tw_233 : (Jvm.Cond.fieldLink "UnikernelHttp$Inbox" (9 : Nat) "UnikernelHttp$Inbox" "content" "[B") ∈ lw_tbl := ux_in 233 ux_t1 rfl
theorem tw_235 : (Jvm.Cond.fieldLink "UnikernelHttp$Inbox" (15 : Nat) "UnikernelHttp$Inbox" "there" "[B") ∈ lw_tbl := ux_in 235 ux_t1 rfl
theorem tw_262 : (Jvm.Cond.classLink "UnikernelHttp$Connection" (18 : Nat) "UnikernelHttp$Outbox") ∈ lw_tbl := ux_in 22 ux_t2 rfl
theorem tw_263 : (Jvm.Cond.instantiable "UnikernelHttp$Outbox" (5 : Nat)) ∈ lw_tbl := ux_in 23 ux_t2 rfl
theorem tw_264 : (Jvm.Cond.methodLinkNest "UnikernelHttp$Connection" (20 : Nat) ({ cls := "UnikernelHttp$Outbox", name := "<init>", desc := "()V" } : Jvm.MethodName) "UnikernelHttp") ∈ lw_tbl := ux_in 24 ux_t2 rfl
theorem tw_265 : (Jvm.Cond.instanceMethod ({ cls := "UnikernelHttp$Outbox", name := "<init>", desc := "()V" } : Jvm.MethodName)) ∈ lw_tbl := ux_in 25 ux_t2 rfl
theorem tw_266 : (Jvm.Cond.code ({ cls := "UnikernelHttp$Outbox", name := "<init>", desc := "()V" } : Jvm.MethodName) prog_8_method_1_code (1 : Nat) (Option.none : Option Jvm.ClassFile.FieldType)) ∈ lw_tbl := ux_in 26 ux_t2 rfl
theorem tw_267 : (Jvm.Cond.methodLink "UnikernelHttp$Outbox" (3 : Nat) ({ cls := "java/lang/Object", name := "<init>", desc := "()V" } : Jvm.MethodName)) ∈ lw_tbl := ux_in 27 ux_t2 rfl
theorem tw_268 : (Jvm.Cond.fieldLink "UnikernelHttp$Outbox" (9 : Nat) "UnikernelHttp$Outbox" "content" "[B") ∈ lw_tbl := ux_in 28 ux_t2 rfl
theorem tw_294 : (Jvm.Cond.fieldLink "UnikernelHttp$Connection" (12 : Nat) "UnikernelHttp$Connection" "inbox" "LUnikernelHttp$Inbox;") ∈ lw_tbl := ux_in 54 ux_t2 rfl
theorem tw_298 : (Jvm.Cond.fieldLink "UnikernelHttp$Connection" (21 : Nat) "UnikernelHttp$Connection" "outbox" "LUnikernelHttp$Outbox;") ∈ lw_tbl := ux_in 58 ux_t2 rfl
abbrev b_N_init : ByteArray := prog_7_method_1_code
abbrev y_N_init : MethodName := ⟨"UnikernelHttp$Neighbours", "<init>", "()V"⟩
theorem d_N_init_0 : decode b_N_init 0 = .ok (.aload_n 0, 1) := by decide +kernel
theorem d_N_init_1 : decode b_N_init 1 = .ok (.invokespecial 3, 3) := by decide +kernel
theorem d_N_init_4 : decode b_N_init 4 = .ok (.aload_n 0, 1) := by decide +kernel
theorem d_N_init_5 : decode b_N_init 5 = .ok (.bipush 16, 2) := by decide +kernel
theorem d_N_init_7 : decode b_N_init 7 = .ok (.newarray .int, 2) := by decide +kernel
theorem d_N_init_9 : decode b_N_init 9 = .ok (.putfield 9, 3) := by decide +kernel
theorem d_N_init_12 : decode b_N_init 12 = .ok (.aload_n 0, 1) := by decide +kernel
theorem d_N_init_13 : decode b_N_init 13 = .ok (.bipush 16, 2) := by decide +kernel
theorem d_N_init_15 : decode b_N_init 15 = .ok (.newarray .long, 2) := by decide +kernel
theorem d_N_init_17 : decode b_N_init 17 = .ok (.putfield 15, 3) := by decide +kernel
theorem d_N_init_20 : decode b_N_init 20 = .ok (.aload_n 0, 1) := by decide +kernel
theorem d_N_init_21 : decode b_N_init 21 = .ok (.bipush 16, 2) := by decide +kernel
theorem d_N_init_23 : decode b_N_init 23 = .ok (.newarray .int, 2) := by decide +kernel
theorem d_N_init_25 : decode b_N_init 25 = .ok (.putfield 19, 3) := by decide +kernel
theorem d_N_init_28 : decode b_N_init 28 = .ok (.return_, 1) := by decide +kernel
abbrev b_Wi_init : ByteArray := prog_12_method_1_code
abbrev y_Wi_init : MethodName := ⟨"UnikernelHttp$Wire", "<init>", "(LUnikernelHttp$Neighbours;)V"⟩
theorem d_Wi_init_0 : decode b_Wi_init 0 = .ok (.aload_n 0, 1) := by decide +kernel
theorem d_Wi_init_1 : decode b_Wi_init 1 = .ok (.invokespecial 3, 3) := by decide +kernel
theorem d_Wi_init_4 : decode b_Wi_init 4 = .ok (.aload_n 0, 1) := by decide +kernel
theorem d_Wi_init_5 : decode b_Wi_init 5 = .ok (.ldc 9, 2) := by decide +kernel
theorem d_Wi_init_7 : decode b_Wi_init 7 = .ok (.newarray .byte, 2) := by decide +kernel
theorem d_Wi_init_9 : decode b_Wi_init 9 = .ok (.putfield 10, 3) := by decide +kernel
theorem d_Wi_init_12 : decode b_Wi_init 12 = .ok (.aload_n 0, 1) := by decide +kernel
theorem d_Wi_init_13 : decode b_Wi_init 13 = .ok (.bipush 64, 2) := by decide +kernel
theorem d_Wi_init_15 : decode b_Wi_init 15 = .ok (.newarray .int, 2) := by decide +kernel
theorem d_Wi_init_17 : decode b_Wi_init 17 = .ok (.putfield 16, 3) := by decide +kernel
theorem d_Wi_init_20 : decode b_Wi_init 20 = .ok (.aload_n 0, 1) := by decide +kernel
theorem d_Wi_init_21 : decode b_Wi_init 21 = .ok (.aload_n 1, 1) := by decide +kernel
theorem d_Wi_init_22 : decode b_Wi_init 22 = .ok (.putfield 20, 3) := by decide +kernel
theorem d_Wi_init_25 : decode b_Wi_init 25 = .ok (.return_, 1) := by decide +kernel
abbrev b_G_init : ByteArray := prog_3_method_1_code
abbrev y_G_init : MethodName := ⟨"UnikernelHttp$Gathering", "<init>", "()V"⟩
theorem d_G_init_0 : decode b_G_init 0 = .ok (.aload_n 0, 1) := by decide +kernel
theorem d_G_init_1 : decode b_G_init 1 = .ok (.invokespecial 3, 3) := by decide +kernel
theorem d_G_init_4 : decode b_G_init 4 = .ok (.aload_n 0, 1) := by decide +kernel
theorem d_G_init_5 : decode b_G_init 5 = .ok (.sipush 4096, 3) := by decide +kernel
theorem d_G_init_8 : decode b_G_init 8 = .ok (.newarray .byte, 2) := by decide +kernel
theorem d_G_init_10 : decode b_G_init 10 = .ok (.putfield 9, 3) := by decide +kernel
theorem d_G_init_13 : decode b_G_init 13 = .ok (.aload_n 0, 1) := by decide +kernel
theorem d_G_init_14 : decode b_G_init 14 = .ok (.sipush 4096, 3) := by decide +kernel
theorem d_G_init_17 : decode b_G_init 17 = .ok (.newarray .byte, 2) := by decide +kernel
theorem d_G_init_19 : decode b_G_init 19 = .ok (.putfield 15, 3) := by decide +kernel
theorem d_G_init_22 : decode b_G_init 22 = .ok (.return_, 1) := by decide +kernel
abbrev b_Gs_init : ByteArray := prog_4_method_1_code
abbrev y_Gs_init : MethodName := ⟨"UnikernelHttp$Gatherings", "<init>", "()V"⟩
theorem d_Gs_init_0 : decode b_Gs_init 0 = .ok (.aload_n 0, 1) := by decide +kernel
theorem d_Gs_init_1 : decode b_Gs_init 1 = .ok (.invokespecial 3, 3) := by decide +kernel
theorem d_Gs_init_4 : decode b_Gs_init 4 = .ok (.aload_n 0, 1) := by decide +kernel
theorem d_Gs_init_5 : decode b_Gs_init 5 = .ok (.iconst 4, 1) := by decide +kernel
theorem d_Gs_init_6 : decode b_Gs_init 6 = .ok (.anewarray 9, 3) := by decide +kernel
theorem d_Gs_init_9 : decode b_Gs_init 9 = .ok (.putfield 11, 3) := by decide +kernel
theorem d_Gs_init_12 : decode b_Gs_init 12 = .ok (.iconst 0, 1) := by decide +kernel
theorem d_Gs_init_13 : decode b_Gs_init 13 = .ok (.istore_n 1, 1) := by decide +kernel
theorem d_Gs_init_14 : decode b_Gs_init 14 = .ok (.iload_n 1, 1) := by decide +kernel
theorem d_Gs_init_15 : decode b_Gs_init 15 = .ok (.iconst 4, 1) := by decide +kernel
theorem d_Gs_init_16 : decode b_Gs_init 16 = .ok (.if_icmp .ge 22, 3) := by decide +kernel
theorem d_Gs_init_19 : decode b_Gs_init 19 = .ok (.aload_n 0, 1) := by decide +kernel
theorem d_Gs_init_20 : decode b_Gs_init 20 = .ok (.getfield 11, 3) := by decide +kernel
theorem d_Gs_init_23 : decode b_Gs_init 23 = .ok (.iload_n 1, 1) := by decide +kernel
theorem d_Gs_init_24 : decode b_Gs_init 24 = .ok (.new 9, 3) := by decide +kernel
theorem d_Gs_init_27 : decode b_Gs_init 27 = .ok (.dup, 1) := by decide +kernel
theorem d_Gs_init_28 : decode b_Gs_init 28 = .ok (.invokespecial 17, 3) := by decide +kernel
theorem d_Gs_init_31 : decode b_Gs_init 31 = .ok (.aastore, 1) := by decide +kernel
theorem d_Gs_init_32 : decode b_Gs_init 32 = .ok (.iinc 1 1, 3) := by decide +kernel
theorem d_Gs_init_35 : decode b_Gs_init 35 = .ok (.goto (-21), 3) := by decide +kernel
theorem d_Gs_init_38 : decode b_Gs_init 38 = .ok (.return_, 1) := by decide +kernel
abbrev b_Sg_init : ByteArray := prog_9_method_1_code
abbrev y_Sg_init : MethodName := ⟨"UnikernelHttp$Segment", "<init>", "()V"⟩
theorem d_Sg_init_0 : decode b_Sg_init 0 = .ok (.aload_n 0, 1) := by decide +kernel
theorem d_Sg_init_1 : decode b_Sg_init 1 = .ok (.invokespecial 3, 3) := by decide +kernel
theorem d_Sg_init_4 : decode b_Sg_init 4 = .ok (.aload_n 0, 1) := by decide +kernel
theorem d_Sg_init_5 : decode b_Sg_init 5 = .ok (.iconst 0, 1) := by decide +kernel
theorem d_Sg_init_6 : decode b_Sg_init 6 = .ok (.newarray .byte, 2) := by decide +kernel
theorem d_Sg_init_8 : decode b_Sg_init 8 = .ok (.putfield 9, 3) := by decide +kernel
theorem d_Sg_init_11 : decode b_Sg_init 11 = .ok (.return_, 1) := by decide +kernel
abbrev b_In_init : ByteArray := prog_6_method_1_code
abbrev y_In_init : MethodName := ⟨"UnikernelHttp$Inbox", "<init>", "()V"⟩
theorem d_In_init_0 : decode b_In_init 0 = .ok (.aload_n 0, 1) := by decide +kernel
theorem d_In_init_1 : decode b_In_init 1 = .ok (.invokespecial 3, 3) := by decide +kernel
theorem d_In_init_4 : decode b_In_init 4 = .ok (.aload_n 0, 1) := by decide +kernel
theorem d_In_init_5 : decode b_In_init 5 = .ok (.sipush 2048, 3) := by decide +kernel
theorem d_In_init_8 : decode b_In_init 8 = .ok (.newarray .byte, 2) := by decide +kernel
theorem d_In_init_10 : decode b_In_init 10 = .ok (.putfield 9, 3) := by decide +kernel
theorem d_In_init_13 : decode b_In_init 13 = .ok (.aload_n 0, 1) := by decide +kernel
theorem d_In_init_14 : decode b_In_init 14 = .ok (.sipush 2048, 3) := by decide +kernel
theorem d_In_init_17 : decode b_In_init 17 = .ok (.newarray .byte, 2) := by decide +kernel
theorem d_In_init_19 : decode b_In_init 19 = .ok (.putfield 15, 3) := by decide +kernel
theorem d_In_init_22 : decode b_In_init 22 = .ok (.return_, 1) := by decide +kernel
abbrev b_Ou_init : ByteArray := prog_8_method_1_code
abbrev y_Ou_init : MethodName := ⟨"UnikernelHttp$Outbox", "<init>", "()V"⟩
theorem d_Ou_init_0 : decode b_Ou_init 0 = .ok (.aload_n 0, 1) := by decide +kernel
theorem d_Ou_init_1 : decode b_Ou_init 1 = .ok (.invokespecial 3, 3) := by decide +kernel
theorem d_Ou_init_4 : decode b_Ou_init 4 = .ok (.aload_n 0, 1) := by decide +kernel
theorem d_Ou_init_5 : decode b_Ou_init 5 = .ok (.sipush 4096, 3) := by decide +kernel
theorem d_Ou_init_8 : decode b_Ou_init 8 = .ok (.newarray .byte, 2) := by decide +kernel
theorem d_Ou_init_10 : decode b_Ou_init 10 = .ok (.putfield 9, 3) := by decide +kernel
theorem d_Ou_init_13 : decode b_Ou_init 13 = .ok (.return_, 1) := by decide +kernel
abbrev b_Co_init : ByteArray := prog_2_method_1_code
abbrev y_Co_init : MethodName := ⟨"UnikernelHttp$Connection", "<init>", "()V"⟩
theorem d_Co_init_0 : decode b_Co_init 0 = .ok (.aload_n 0, 1) := by decide +kernel
theorem d_Co_init_1 : decode b_Co_init 1 = .ok (.invokespecial 3, 3) := by decide +kernel
theorem d_Co_init_4 : decode b_Co_init 4 = .ok (.aload_n 0, 1) := by decide +kernel
theorem d_Co_init_5 : decode b_Co_init 5 = .ok (.new 9, 3) := by decide +kernel
theorem d_Co_init_8 : decode b_Co_init 8 = .ok (.dup, 1) := by decide +kernel
theorem d_Co_init_9 : decode b_Co_init 9 = .ok (.invokespecial 11, 3) := by decide +kernel
theorem d_Co_init_12 : decode b_Co_init 12 = .ok (.putfield 12, 3) := by decide +kernel
theorem d_Co_init_15 : decode b_Co_init 15 = .ok (.aload_n 0, 1) := by decide +kernel
theorem d_Co_init_16 : decode b_Co_init 16 = .ok (.new 18, 3) := by decide +kernel
theorem d_Co_init_19 : decode b_Co_init 19 = .ok (.dup, 1) := by decide +kernel
theorem d_Co_init_20 : decode b_Co_init 20 = .ok (.invokespecial 20, 3) := by decide +kernel
theorem d_Co_init_23 : decode b_Co_init 23 = .ok (.putfield 21, 3) := by decide +kernel
theorem d_Co_init_26 : decode b_Co_init 26 = .ok (.return_, 1) := by decide +kernel
set_option maxHeartbeats 4000000 in
set_option maxRecDepth 100000 in
theorem c_N_init (l : Launch) (dC : Nat → ClassId) (dI : Nat → Nat → Nat) (h0 : Nat) (sz : Nat) : Met l y_N_init [Cond.code y_N_init b_N_init 1 (none)] ({ frames := 20, cells := 3, slots := 48, locals := 300 }) (ux_Pc [.ref h0] (dC, dI) cls [(h0, .inr (1, [.null, .null, .null, .int 0, .int 0]))] [] sz) (va_Qv (fun _ : Unit => True) (fun (_ : Unit) (t : State) => ∃ (q1 : Nat), ∃ (q2 : Nat), ∃ (q3 : Nat), ux_B (dC, dI) cls (va_A [(h0, .inr (1, [.null, .null, .null, .int 0, .int 0]))] sz) [(h0, .inr (1, [.ref q1, .ref q2, .ref q3, .int 0, .int 0]))] [] t) (va_A [(h0, .inr (1, [.null, .null, .null, .int 0, .int 0]))] sz)) 3 48 (va_A [(h0, .inr (1, [.null, .null, .null, .int 0, .int 0]))] sz) := by
  refine Met.ofW (cc := b_N_init) (maxL := 1) (ret := none) (by decide) rfl ?_
  intro p e s m args below meth c s₁ B hml hv
  obtain ⟨rfl, hsz, hP, hK, hD0, hT⟩ := hv
  have hx := B.exec
  have hb := B.bytes
  have hr := B.returns
  have hown : s.vm.findClass "UnikernelHttp$Neighbours" = some m.cls := findClass_of_methodNamed B.named
  have hlocks := B.notSynchronized
  have hin : meth.name = "<init>" := (name_of_methodNamed B.named B.method).1
  subst hsz
  have hD := hD0.self (sz := s.heap.size)
  have hns := ux_ns hP
  generalize hAe : va_A [(h0, .inr (1, [.null, .null, .null, .int 0, .int 0]))] s.heap.size = A at hD hns ⊢
  have hA : ∀ q : Nat, s.heap.size ≤ q → A q := fun q h => by rw [← hAe]; exact Or.inr h
  have hS : va_S A s.heap s.heap [] := va_S.rf
  have hl := lv_entry ([.ref h0]) (n := 1) (Nat.le_of_ble_eq_true rfl)
  rw [lg_entry_eq]
  generalize (lg_sl ([.ref h0]) ++ List.replicate (1 - (lg_sl ([.ref h0])).length) Slot.unset).toArray = ls at hl ⊢
  have hl : lv_has ls 1 [(0, .ref h0)] := hl
  have hfx : CallFix p m c b_N_init 1 s ([.ref h0] : List Value).toArray [] "UnikernelHttp$Neighbours" := ⟨hx, hb, hml, hown, fun _ h => by cases h⟩
  refine lv_aload_n hx hb d_N_init_0 rfl (lv_at hl 0 rfl) ?_
  refine W.objInit hx hb hown (ux_T_at hT tw_47 rfl) (ux_T_at hT tw_40 rfl) (ux_T_at hT tw_41 rfl) rfl (by rw [hml]; exact hl.1) rfl d_N_init_1 (Nat.le_of_ble_eq_true rfl) (Nat.le_of_ble_eq_true rfl) ?_
  refine W.eq (g2 := F0 m 4 ls []) rfl ?_
  refine lv_aload_n hx hb d_N_init_4 rfl (lv_at hl 0 rfl) ?_
  refine lv_bipush (v := 16) hx hb d_N_init_5 (by decide) ?_
  refine va_newa (atype := .int) (ty := .int) (N' := 16) (a0 := (16, .inl (fun _ => 0))) hx hb (ux_T_at hT tw_67 rfl) rfl hK hP hD hS hA (fun _ => rfl) (by decide) (by decide +kernel) (by decide +kernel) (Nat.le_of_ble_eq_true rfl) (Nat.le_of_ble_eq_true rfl) d_N_init_7 (fun q1 cA2 H hK hP hD hS => ?_)
  have hP : va_P (dC, dI) cls [(h0, .inr (1, [.null, .null, .null, .int 0, .int 0])), (q1, .inl (cA2, 16, .inl (fun _ => 0)))] H := hP
  have hD : va_D A [(h0, .inr (1, [.null, .null, .null, .int 0, .int 0])), (q1, .inl (cA2, 16, .inl (fun _ => 0)))] := hD
  have hK : va_K (dC, dI) cls [(cA2, .int)] s := hK
  refine va_putF (D := (dC, dI)) (ci := 1) (v := .ref q1) (ty := .array .int) (C := R_N) (T := F_N) (N := 5) hx hb (u_N hT) (fun _ h => h) t_N k_N n_N hown hK hP hD hS 0 rfl rfl 0 (by decide) (ux_T_at hT tw_48 rfl) (fun _ h9 => h9) rfl hin rfl (by decide +kernel) rfl rfl (Nat.le_of_ble_eq_true rfl) d_N_init_9 (fun H locs hP hD hS => ?_)
  have hP : va_P (dC, dI) cls [(h0, .inr (1, [.ref q1, .null, .null, .int 0, .int 0])), (q1, .inl (cA2, 16, .inl (fun _ => 0)))] H := hP
  have hD : va_D A [(h0, .inr (1, [.ref q1, .null, .null, .int 0, .int 0])), (q1, .inl (cA2, 16, .inl (fun _ => 0)))] := hD
  have hP := hP.sub (ws' := [(h0, .inr (1, [.ref q1, .null, .null, .int 0, .int 0]))]) [0] rfl
  have hD := hD.sub (ws' := [(h0, .inr (1, [.ref q1, .null, .null, .int 0, .int 0]))]) [0] (by decide) rfl
  refine lv_aload_n hx hb d_N_init_12 rfl (lv_at hl 0 rfl) ?_
  refine lv_bipush (v := 16) hx hb d_N_init_13 (by decide) ?_
  refine va_newa (atype := .long) (ty := .long) (N' := 16) (a0 := (16, .inr (.inl (fun _ => 0)))) hx hb (ux_T_at hT tw_68 rfl) rfl hK hP hD hS hA (fun _ => rfl) (by decide) (by decide +kernel) (by decide +kernel) (Nat.le_of_ble_eq_true rfl) (Nat.le_of_ble_eq_true rfl) d_N_init_15 (fun q3 cA4 H hK hP hD hS => ?_)
  have hP : va_P (dC, dI) cls [(h0, .inr (1, [.ref q1, .null, .null, .int 0, .int 0])), (q3, .inl (cA4, 16, .inr (.inl (fun _ => 0))))] H := hP
  have hD : va_D A [(h0, .inr (1, [.ref q1, .null, .null, .int 0, .int 0])), (q3, .inl (cA4, 16, .inr (.inl (fun _ => 0))))] := hD
  have hK : va_K (dC, dI) cls [(cA2, .int), (cA4, .long)] s := hK
  refine va_putF (D := (dC, dI)) (ci := 1) (v := .ref q3) (ty := .array .long) (C := R_N) (T := F_N) (N := 5) hx hb (u_N hT) (fun _ h => h) t_N k_N n_N hown hK hP hD hS 0 rfl rfl 1 (by decide) (ux_T_at hT tw_49 rfl) (fun _ h9 => h9) rfl hin rfl (by decide +kernel) rfl rfl (Nat.le_of_ble_eq_true rfl) d_N_init_17 (fun H locs hP hD hS => ?_)
  have hP : va_P (dC, dI) cls [(h0, .inr (1, [.ref q1, .ref q3, .null, .int 0, .int 0])), (q3, .inl (cA4, 16, .inr (.inl (fun _ => 0))))] H := hP
  have hD : va_D A [(h0, .inr (1, [.ref q1, .ref q3, .null, .int 0, .int 0])), (q3, .inl (cA4, 16, .inr (.inl (fun _ => 0))))] := hD
  have hP := hP.sub (ws' := [(h0, .inr (1, [.ref q1, .ref q3, .null, .int 0, .int 0]))]) [0] rfl
  have hD := hD.sub (ws' := [(h0, .inr (1, [.ref q1, .ref q3, .null, .int 0, .int 0]))]) [0] (by decide) rfl
  refine lv_aload_n hx hb d_N_init_20 rfl (lv_at hl 0 rfl) ?_
  refine lv_bipush (v := 16) hx hb d_N_init_21 (by decide) ?_
  refine va_newa (atype := .int) (ty := .int) (N' := 16) (a0 := (16, .inl (fun _ => 0))) hx hb (ux_T_at hT tw_67 rfl) rfl hK hP hD hS hA (fun _ => rfl) (by decide) (by decide +kernel) (by decide +kernel) (Nat.le_of_ble_eq_true rfl) (Nat.le_of_ble_eq_true rfl) d_N_init_23 (fun q5 cA6 H hK hP hD hS => ?_)
  have hP : va_P (dC, dI) cls [(h0, .inr (1, [.ref q1, .ref q3, .null, .int 0, .int 0])), (q5, .inl (cA6, 16, .inl (fun _ => 0)))] H := hP
  have hD : va_D A [(h0, .inr (1, [.ref q1, .ref q3, .null, .int 0, .int 0])), (q5, .inl (cA6, 16, .inl (fun _ => 0)))] := hD
  have hK : va_K (dC, dI) cls [(cA2, .int), (cA4, .long), (cA6, .int)] s := hK
  refine va_putF (D := (dC, dI)) (ci := 1) (v := .ref q5) (ty := .array .int) (C := R_N) (T := F_N) (N := 5) hx hb (u_N hT) (fun _ h => h) t_N k_N n_N hown hK hP hD hS 0 rfl rfl 2 (by decide) (ux_T_at hT tw_51 rfl) (fun _ h9 => h9) rfl hin rfl (by decide +kernel) rfl rfl (Nat.le_of_ble_eq_true rfl) d_N_init_25 (fun H locs hP hD hS => ?_)
  have hP : va_P (dC, dI) cls [(h0, .inr (1, [.ref q1, .ref q3, .ref q5, .int 0, .int 0])), (q5, .inl (cA6, 16, .inl (fun _ => 0)))] H := hP
  have hD : va_D A [(h0, .inr (1, [.ref q1, .ref q3, .ref q5, .int 0, .int 0])), (q5, .inl (cA6, 16, .inl (fun _ => 0)))] := hD
  have hP := hP.sub (ws' := [(h0, .inr (1, [.ref q1, .ref q3, .ref q5, .int 0, .int 0]))]) [0] rfl
  have hD := hD.sub (ws' := [(h0, .inr (1, [.ref q1, .ref q3, .ref q5, .int 0, .int 0]))]) [0] (by decide) rfl
  have hP9 := hP.sub (ws' := [(h0, .inr (1, [.ref q1, .ref q3, .ref q5, .int 0, .int 0]))]) [0] rfl
  have hD9 := hD.sub (ws' := [(h0, .inr (1, [.ref q1, .ref q3, .ref q5, .int 0, .int 0]))]) [0] (by decide) rfl
  have hK9 := hK.sub (tys' := []) [] rfl
  refine W.widen (k := 3) (n := 48) (Nat.le_of_ble_eq_true rfl) (Nat.le_of_ble_eq_true rfl) ?_
  exact W.vret hx hb hr (fun t ht hW => ⟨⟨(), rfl, trivial, q1, q3, q5, by rw [ht]; exact hP9, va_K.moved hW.alike hK9, hD9⟩, hS.F ht⟩) hS.2.2 d_N_init_28
set_option maxHeartbeats 4000000 in
set_option maxRecDepth 100000 in
theorem c_Wi_init (l : Launch) (dC : Nat → ClassId) (dI : Nat → Nat → Nat) (h0 : Nat) (nb : Nat) (sz : Nat) : Met l y_Wi_init [Cond.code y_Wi_init b_Wi_init 2 (none)] ({ frames := 20, cells := 2, slots := 97216, locals := 300 }) (ux_Pc [.ref h0, .ref nb] (dC, dI) cls [(h0, .inr (2, [.null, .null, .null, .int 0, .int 0]))] [] sz) (va_Qv (fun _ : Unit => True) (fun (_ : Unit) (t : State) => ∃ (q1 : Nat), ∃ (q2 : Nat), ux_B (dC, dI) cls (va_A [(h0, .inr (2, [.null, .null, .null, .int 0, .int 0]))] sz) [(h0, .inr (2, [.ref nb, .ref q1, .ref q2, .int 0, .int 0]))] [] t) (va_A [(h0, .inr (2, [.null, .null, .null, .int 0, .int 0]))] sz)) 2 97216 (va_A [(h0, .inr (2, [.null, .null, .null, .int 0, .int 0]))] sz) := by
  refine Met.ofW (cc := b_Wi_init) (maxL := 2) (ret := none) (by decide) rfl ?_
  intro p e s m args below meth c s₁ B hml hv
  obtain ⟨rfl, hsz, hP, hK, hD0, hT⟩ := hv
  have hx := B.exec
  have hb := B.bytes
  have hr := B.returns
  have hown : s.vm.findClass "UnikernelHttp$Wire" = some m.cls := findClass_of_methodNamed B.named
  have hlocks := B.notSynchronized
  have hin : meth.name = "<init>" := (name_of_methodNamed B.named B.method).1
  subst hsz
  have hD := hD0.self (sz := s.heap.size)
  have hns := ux_ns hP
  generalize hAe : va_A [(h0, .inr (2, [.null, .null, .null, .int 0, .int 0]))] s.heap.size = A at hD hns ⊢
  have hA : ∀ q : Nat, s.heap.size ≤ q → A q := fun q h => by rw [← hAe]; exact Or.inr h
  have hS : va_S A s.heap s.heap [] := va_S.rf
  have hl := lv_entry ([.ref h0, .ref nb]) (n := 2) (Nat.le_of_ble_eq_true rfl)
  rw [lg_entry_eq]
  generalize (lg_sl ([.ref h0, .ref nb]) ++ List.replicate (2 - (lg_sl ([.ref h0, .ref nb])).length) Slot.unset).toArray = ls at hl ⊢
  have hl : lv_has ls 2 [(0, .ref h0), (1, .ref nb)] := hl
  have hfx : CallFix p m c b_Wi_init 2 s ([.ref h0, .ref nb] : List Value).toArray [] "UnikernelHttp$Wire" := ⟨hx, hb, hml, hown, fun _ h => by cases h⟩
  refine lv_aload_n hx hb d_Wi_init_0 rfl (lv_at hl 0 rfl) ?_
  refine W.objInit hx hb hown (ux_T_at hT tw_74 rfl) (ux_T_at hT tw_40 rfl) (ux_T_at hT tw_41 rfl) rfl (by rw [hml]; exact hl.1) rfl d_Wi_init_1 (Nat.le_of_ble_eq_true rfl) (Nat.le_of_ble_eq_true rfl) ?_
  refine W.eq (g2 := F0 m 4 ls []) rfl ?_
  refine lv_aload_n hx hb d_Wi_init_4 rfl (lv_at hl 0 rfl) ?_
  refine lv_ldc (own := "UnikernelHttp$Wire") (v := 97152) hx hb hown (ux_T_at hT tw_75 rfl) d_Wi_init_5 ?_
  refine va_newa (atype := .byte) (ty := .byte) (N' := 97152) (a0 := (97152, .inl (fun _ => 0))) hx hb (ux_T_at hT tw_66 rfl) rfl hK hP hD hS hA (fun _ => rfl) (by decide) (by decide +kernel) (by decide +kernel) (Nat.le_of_ble_eq_true rfl) (Nat.le_of_ble_eq_true rfl) d_Wi_init_7 (fun q1 cA2 H hK hP hD hS => ?_)
  have hP : va_P (dC, dI) cls [(h0, .inr (2, [.null, .null, .null, .int 0, .int 0])), (q1, .inl (cA2, 97152, .inl (fun _ => 0)))] H := hP
  have hD : va_D A [(h0, .inr (2, [.null, .null, .null, .int 0, .int 0])), (q1, .inl (cA2, 97152, .inl (fun _ => 0)))] := hD
  have hK : va_K (dC, dI) cls [(cA2, .byte)] s := hK
  refine va_putF (D := (dC, dI)) (ci := 2) (v := .ref q1) (ty := .array .byte) (C := R_Wi) (T := F_Wi) (N := 5) hx hb (u_Wi hT) (fun _ h => h) t_Wi k_Wi n_Wi hown hK hP hD hS 0 rfl rfl 1 (by decide) (ux_T_at hT tw_77 rfl) (fun _ h9 => h9) rfl hin rfl (by decide +kernel) rfl rfl (Nat.le_of_ble_eq_true rfl) d_Wi_init_9 (fun H locs hP hD hS => ?_)
  have hP : va_P (dC, dI) cls [(h0, .inr (2, [.null, .ref q1, .null, .int 0, .int 0])), (q1, .inl (cA2, 97152, .inl (fun _ => 0)))] H := hP
  have hD : va_D A [(h0, .inr (2, [.null, .ref q1, .null, .int 0, .int 0])), (q1, .inl (cA2, 97152, .inl (fun _ => 0)))] := hD
  have hP := hP.sub (ws' := [(h0, .inr (2, [.null, .ref q1, .null, .int 0, .int 0]))]) [0] rfl
  have hD := hD.sub (ws' := [(h0, .inr (2, [.null, .ref q1, .null, .int 0, .int 0]))]) [0] (by decide) rfl
  refine lv_aload_n hx hb d_Wi_init_12 rfl (lv_at hl 0 rfl) ?_
  refine lv_bipush (v := 64) hx hb d_Wi_init_13 (by decide) ?_
  refine va_newa (atype := .int) (ty := .int) (N' := 64) (a0 := (64, .inl (fun _ => 0))) hx hb (ux_T_at hT tw_67 rfl) rfl hK hP hD hS hA (fun _ => rfl) (by decide) (by decide +kernel) (by decide +kernel) (Nat.le_of_ble_eq_true rfl) (Nat.le_of_ble_eq_true rfl) d_Wi_init_15 (fun q3 cA4 H hK hP hD hS => ?_)
  have hP : va_P (dC, dI) cls [(h0, .inr (2, [.null, .ref q1, .null, .int 0, .int 0])), (q3, .inl (cA4, 64, .inl (fun _ => 0)))] H := hP
  have hD : va_D A [(h0, .inr (2, [.null, .ref q1, .null, .int 0, .int 0])), (q3, .inl (cA4, 64, .inl (fun _ => 0)))] := hD
  have hK : va_K (dC, dI) cls [(cA2, .byte), (cA4, .int)] s := hK
  refine va_putF (D := (dC, dI)) (ci := 2) (v := .ref q3) (ty := .array .int) (C := R_Wi) (T := F_Wi) (N := 5) hx hb (u_Wi hT) (fun _ h => h) t_Wi k_Wi n_Wi hown hK hP hD hS 0 rfl rfl 2 (by decide) (ux_T_at hT tw_78 rfl) (fun _ h9 => h9) rfl hin rfl (by decide +kernel) rfl rfl (Nat.le_of_ble_eq_true rfl) d_Wi_init_17 (fun H locs hP hD hS => ?_)
  have hP : va_P (dC, dI) cls [(h0, .inr (2, [.null, .ref q1, .ref q3, .int 0, .int 0])), (q3, .inl (cA4, 64, .inl (fun _ => 0)))] H := hP
  have hD : va_D A [(h0, .inr (2, [.null, .ref q1, .ref q3, .int 0, .int 0])), (q3, .inl (cA4, 64, .inl (fun _ => 0)))] := hD
  have hP := hP.sub (ws' := [(h0, .inr (2, [.null, .ref q1, .ref q3, .int 0, .int 0]))]) [0] rfl
  have hD := hD.sub (ws' := [(h0, .inr (2, [.null, .ref q1, .ref q3, .int 0, .int 0]))]) [0] (by decide) rfl
  refine lv_aload_n hx hb d_Wi_init_20 rfl (lv_at hl 0 rfl) ?_
  refine lv_aload_n hx hb d_Wi_init_21 rfl (lv_at hl 1 rfl) ?_
  refine va_putF (D := (dC, dI)) (ci := 2) (v := .ref nb) (ty := .object "UnikernelHttp$Neighbours") (C := R_Wi) (T := F_Wi) (N := 5) hx hb (u_Wi hT) (fun _ h => h) t_Wi k_Wi n_Wi hown hK hP hD hS 0 rfl rfl 0 (by decide) (ux_T_at hT tw_76 rfl) (fun _ h9 => h9) rfl hin rfl (by decide +kernel) rfl rfl (Nat.le_of_ble_eq_true rfl) d_Wi_init_22 (fun H locs hP hD hS => ?_)
  have hP : va_P (dC, dI) cls [(h0, .inr (2, [.ref nb, .ref q1, .ref q3, .int 0, .int 0]))] H := hP
  have hD : va_D A [(h0, .inr (2, [.ref nb, .ref q1, .ref q3, .int 0, .int 0]))] := hD
  have hP9 := hP.sub (ws' := [(h0, .inr (2, [.ref nb, .ref q1, .ref q3, .int 0, .int 0]))]) [0] rfl
  have hD9 := hD.sub (ws' := [(h0, .inr (2, [.ref nb, .ref q1, .ref q3, .int 0, .int 0]))]) [0] (by decide) rfl
  have hK9 := hK.sub (tys' := []) [] rfl
  refine W.widen (k := 2) (n := 97216) (Nat.le_of_ble_eq_true rfl) (Nat.le_of_ble_eq_true rfl) ?_
  exact W.vret hx hb hr (fun t ht hW => ⟨⟨(), rfl, trivial, q1, q3, by rw [ht]; exact hP9, va_K.moved hW.alike hK9, hD9⟩, hS.F ht⟩) hS.2.2 d_Wi_init_25
set_option maxHeartbeats 4000000 in
set_option maxRecDepth 100000 in
theorem c_G_init (l : Launch) (dC : Nat → ClassId) (dI : Nat → Nat → Nat) (h0 : Nat) (sz : Nat) : Met l y_G_init [Cond.code y_G_init b_G_init 1 (none)] ({ frames := 20, cells := 2, slots := 8192, locals := 300 }) (ux_Pc [.ref h0] (dC, dI) cls [(h0, .inr (4, [.null, .null, .int 0, .int 0, .int 0, .int 0, .int 0, .int 0, .int 0]))] [] sz) (va_Qv (fun _ : Unit => True) (fun (_ : Unit) (t : State) => ∃ (q1 : Nat), ∃ (q2 : Nat), ux_B (dC, dI) cls (va_A [(h0, .inr (4, [.null, .null, .int 0, .int 0, .int 0, .int 0, .int 0, .int 0, .int 0]))] sz) [(h0, .inr (4, [.ref q1, .ref q2, .int 0, .int 0, .int 0, .int 0, .int 0, .int 0, .int 0]))] [] t) (va_A [(h0, .inr (4, [.null, .null, .int 0, .int 0, .int 0, .int 0, .int 0, .int 0, .int 0]))] sz)) 2 8192 (va_A [(h0, .inr (4, [.null, .null, .int 0, .int 0, .int 0, .int 0, .int 0, .int 0, .int 0]))] sz) := by
  refine Met.ofW (cc := b_G_init) (maxL := 1) (ret := none) (by decide) rfl ?_
  intro p e s m args below meth c s₁ B hml hv
  obtain ⟨rfl, hsz, hP, hK, hD0, hT⟩ := hv
  have hx := B.exec
  have hb := B.bytes
  have hr := B.returns
  have hown : s.vm.findClass "UnikernelHttp$Gathering" = some m.cls := findClass_of_methodNamed B.named
  have hlocks := B.notSynchronized
  have hin : meth.name = "<init>" := (name_of_methodNamed B.named B.method).1
  subst hsz
  have hD := hD0.self (sz := s.heap.size)
  have hns := ux_ns hP
  generalize hAe : va_A [(h0, .inr (4, [.null, .null, .int 0, .int 0, .int 0, .int 0, .int 0, .int 0, .int 0]))] s.heap.size = A at hD hns ⊢
  have hA : ∀ q : Nat, s.heap.size ≤ q → A q := fun q h => by rw [← hAe]; exact Or.inr h
  have hS : va_S A s.heap s.heap [] := va_S.rf
  have hl := lv_entry ([.ref h0]) (n := 1) (Nat.le_of_ble_eq_true rfl)
  rw [lg_entry_eq]
  generalize (lg_sl ([.ref h0]) ++ List.replicate (1 - (lg_sl ([.ref h0])).length) Slot.unset).toArray = ls at hl ⊢
  have hl : lv_has ls 1 [(0, .ref h0)] := hl
  have hfx : CallFix p m c b_G_init 1 s ([.ref h0] : List Value).toArray [] "UnikernelHttp$Gathering" := ⟨hx, hb, hml, hown, fun _ h => by cases h⟩
  refine lv_aload_n hx hb d_G_init_0 rfl (lv_at hl 0 rfl) ?_
  refine W.objInit hx hb hown (ux_T_at hT tw_107 rfl) (ux_T_at hT tw_40 rfl) (ux_T_at hT tw_41 rfl) rfl (by rw [hml]; exact hl.1) rfl d_G_init_1 (Nat.le_of_ble_eq_true rfl) (Nat.le_of_ble_eq_true rfl) ?_
  refine W.eq (g2 := F0 m 4 ls []) rfl ?_
  refine lv_aload_n hx hb d_G_init_4 rfl (lv_at hl 0 rfl) ?_
  refine lv_sipush (v := 4096) hx hb d_G_init_5 (by decide) ?_
  refine va_newa (atype := .byte) (ty := .byte) (N' := 4096) (a0 := (4096, .inl (fun _ => 0))) hx hb (ux_T_at hT tw_66 rfl) rfl hK hP hD hS hA (fun _ => rfl) (by decide) (by decide +kernel) (by decide +kernel) (Nat.le_of_ble_eq_true rfl) (Nat.le_of_ble_eq_true rfl) d_G_init_8 (fun q1 cA2 H hK hP hD hS => ?_)
  have hP : va_P (dC, dI) cls [(h0, .inr (4, [.null, .null, .int 0, .int 0, .int 0, .int 0, .int 0, .int 0, .int 0])), (q1, .inl (cA2, 4096, .inl (fun _ => 0)))] H := hP
  have hD : va_D A [(h0, .inr (4, [.null, .null, .int 0, .int 0, .int 0, .int 0, .int 0, .int 0, .int 0])), (q1, .inl (cA2, 4096, .inl (fun _ => 0)))] := hD
  have hK : va_K (dC, dI) cls [(cA2, .byte)] s := hK
  refine va_putF (D := (dC, dI)) (ci := 4) (v := .ref q1) (ty := .array .byte) (C := R_G) (T := F_G) (N := 9) hx hb (u_G hT) (fun _ h => h) t_G k_G n_G hown hK hP hD hS 0 rfl rfl 0 (by decide) (ux_T_at hT tw_108 rfl) (fun _ h9 => h9) rfl hin rfl (by decide +kernel) rfl rfl (Nat.le_of_ble_eq_true rfl) d_G_init_10 (fun H locs hP hD hS => ?_)
  have hP : va_P (dC, dI) cls [(h0, .inr (4, [.ref q1, .null, .int 0, .int 0, .int 0, .int 0, .int 0, .int 0, .int 0])), (q1, .inl (cA2, 4096, .inl (fun _ => 0)))] H := hP
  have hD : va_D A [(h0, .inr (4, [.ref q1, .null, .int 0, .int 0, .int 0, .int 0, .int 0, .int 0, .int 0])), (q1, .inl (cA2, 4096, .inl (fun _ => 0)))] := hD
  have hP := hP.sub (ws' := [(h0, .inr (4, [.ref q1, .null, .int 0, .int 0, .int 0, .int 0, .int 0, .int 0, .int 0]))]) [0] rfl
  have hD := hD.sub (ws' := [(h0, .inr (4, [.ref q1, .null, .int 0, .int 0, .int 0, .int 0, .int 0, .int 0, .int 0]))]) [0] (by decide) rfl
  refine lv_aload_n hx hb d_G_init_13 rfl (lv_at hl 0 rfl) ?_
  refine lv_sipush (v := 4096) hx hb d_G_init_14 (by decide) ?_
  refine va_newa (atype := .byte) (ty := .byte) (N' := 4096) (a0 := (4096, .inl (fun _ => 0))) hx hb (ux_T_at hT tw_66 rfl) rfl hK hP hD hS hA (fun _ => rfl) (by decide) (by decide +kernel) (by decide +kernel) (Nat.le_of_ble_eq_true rfl) (Nat.le_of_ble_eq_true rfl) d_G_init_17 (fun q3 cA4 H hK hP hD hS => ?_)
  have hP : va_P (dC, dI) cls [(h0, .inr (4, [.ref q1, .null, .int 0, .int 0, .int 0, .int 0, .int 0, .int 0, .int 0])), (q3, .inl (cA4, 4096, .inl (fun _ => 0)))] H := hP
  have hD : va_D A [(h0, .inr (4, [.ref q1, .null, .int 0, .int 0, .int 0, .int 0, .int 0, .int 0, .int 0])), (q3, .inl (cA4, 4096, .inl (fun _ => 0)))] := hD
  have hK : va_K (dC, dI) cls [(cA2, .byte), (cA4, .byte)] s := hK
  refine va_putF (D := (dC, dI)) (ci := 4) (v := .ref q3) (ty := .array .byte) (C := R_G) (T := F_G) (N := 9) hx hb (u_G hT) (fun _ h => h) t_G k_G n_G hown hK hP hD hS 0 rfl rfl 1 (by decide) (ux_T_at hT tw_110 rfl) (fun _ h9 => h9) rfl hin rfl (by decide +kernel) rfl rfl (Nat.le_of_ble_eq_true rfl) d_G_init_19 (fun H locs hP hD hS => ?_)
  have hP : va_P (dC, dI) cls [(h0, .inr (4, [.ref q1, .ref q3, .int 0, .int 0, .int 0, .int 0, .int 0, .int 0, .int 0])), (q3, .inl (cA4, 4096, .inl (fun _ => 0)))] H := hP
  have hD : va_D A [(h0, .inr (4, [.ref q1, .ref q3, .int 0, .int 0, .int 0, .int 0, .int 0, .int 0, .int 0])), (q3, .inl (cA4, 4096, .inl (fun _ => 0)))] := hD
  have hP := hP.sub (ws' := [(h0, .inr (4, [.ref q1, .ref q3, .int 0, .int 0, .int 0, .int 0, .int 0, .int 0, .int 0]))]) [0] rfl
  have hD := hD.sub (ws' := [(h0, .inr (4, [.ref q1, .ref q3, .int 0, .int 0, .int 0, .int 0, .int 0, .int 0, .int 0]))]) [0] (by decide) rfl
  have hP9 := hP.sub (ws' := [(h0, .inr (4, [.ref q1, .ref q3, .int 0, .int 0, .int 0, .int 0, .int 0, .int 0, .int 0]))]) [0] rfl
  have hD9 := hD.sub (ws' := [(h0, .inr (4, [.ref q1, .ref q3, .int 0, .int 0, .int 0, .int 0, .int 0, .int 0, .int 0]))]) [0] (by decide) rfl
  have hK9 := hK.sub (tys' := []) [] rfl
  refine W.widen (k := 2) (n := 8192) (Nat.le_of_ble_eq_true rfl) (Nat.le_of_ble_eq_true rfl) ?_
  exact W.vret hx hb hr (fun t ht hW => ⟨⟨(), rfl, trivial, q1, q3, by rw [ht]; exact hP9, va_K.moved hW.alike hK9, hD9⟩, hS.F ht⟩) hS.2.2 d_G_init_22
set_option maxHeartbeats 4000000 in
set_option maxRecDepth 100000 in
theorem c_Gs_init (l : Launch) (dC : Nat → ClassId) (dI : Nat → Nat → Nat) (h0 : Nat) (sz : Nat) : Met l y_Gs_init [Cond.code y_Gs_init b_Gs_init 2 (none)] ({ frames := 40, cells := 13, slots := 32808, locals := 600 }) (ux_Pc [.ref h0] (dC, dI) cls [(h0, .inr (3, [.null, .int 0]))] [] sz) (va_Qv (fun _ : Unit => True) (fun (_ : Unit) (t : State) => ∃ (q1 : Nat), ux_B (dC, dI) cls (va_A [(h0, .inr (3, [.null, .int 0]))] sz) [(h0, .inr (3, [.ref q1, .int 0]))] [] t) (va_A [(h0, .inr (3, [.null, .int 0]))] sz)) 13 32808 (va_A [(h0, .inr (3, [.null, .int 0]))] sz) := by
  refine Met.ofW (cc := b_Gs_init) (maxL := 2) (ret := none) (by decide) rfl ?_
  intro p e s m args below meth c s₁ B hml hv
  obtain ⟨rfl, hsz, hP, hK, hD0, hT⟩ := hv
  have hx := B.exec
  have hb := B.bytes
  have hr := B.returns
  have hown : s.vm.findClass "UnikernelHttp$Gatherings" = some m.cls := findClass_of_methodNamed B.named
  have hlocks := B.notSynchronized
  have hin : meth.name = "<init>" := (name_of_methodNamed B.named B.method).1
  subst hsz
  have hD := hD0.self (sz := s.heap.size)
  have hns := ux_ns hP
  generalize hAe : va_A [(h0, .inr (3, [.null, .int 0]))] s.heap.size = A at hD hns ⊢
  have hA : ∀ q : Nat, s.heap.size ≤ q → A q := fun q h => by rw [← hAe]; exact Or.inr h
  have hS : va_S A s.heap s.heap [] := va_S.rf
  have hl := lv_entry ([.ref h0]) (n := 2) (Nat.le_of_ble_eq_true rfl)
  rw [lg_entry_eq]
  generalize (lg_sl ([.ref h0]) ++ List.replicate (2 - (lg_sl ([.ref h0])).length) Slot.unset).toArray = ls at hl ⊢
  have hl : lv_has ls 2 [(0, .ref h0)] := hl
  have hfx : CallFix p m c b_Gs_init 2 s ([.ref h0] : List Value).toArray [] "UnikernelHttp$Gatherings" := ⟨hx, hb, hml, hown, fun _ h => by cases h⟩
  refine lv_aload_n hx hb d_Gs_init_0 rfl (lv_at hl 0 rfl) ?_
  refine W.objInit hx hb hown (ux_T_at hT tw_100 rfl) (ux_T_at hT tw_40 rfl) (ux_T_at hT tw_41 rfl) rfl (by rw [hml]; exact hl.1) rfl d_Gs_init_1 (Nat.le_of_ble_eq_true rfl) (Nat.le_of_ble_eq_true rfl) ?_
  refine W.eq (g2 := F0 m 4 ls []) rfl ?_
  refine lv_aload_n hx hb d_Gs_init_4 rfl (lv_at hl 0 rfl) ?_
  refine lv_iconst (v := 4) hx hb d_Gs_init_5 (by decide) ?_
  refine va_newq (own := "UnikernelHttp$Gatherings") (C := "UnikernelHttp$Gathering") (N' := 4) hx hb hown (ux_T_at hT tw_101 rfl) (va_AO.of (ux_T_at hT tw_102 rfl (A := #[]))) hK hP hD hS hA (by decide) (by decide) (by decide) (Nat.le_of_ble_eq_true rfl) (Nat.le_of_ble_eq_true rfl) d_Gs_init_6 (fun q1 cA2 H hK hP hD hS => ?_)
  have hP : va_P (dC, dI) cls [(h0, .inr (3, [.null, .int 0])), (q1, .inl (cA2, 4, .inr (.inr (.inr (.inr (fun _ => none))))))] H := hP
  have hD : va_D A [(h0, .inr (3, [.null, .int 0])), (q1, .inl (cA2, 4, .inr (.inr (.inr (.inr (fun _ => none))))))] := hD
  have hK : va_K (dC, dI) cls [(cA2, .object "UnikernelHttp$Gathering")] s := hK
  refine va_putF (D := (dC, dI)) (ci := 3) (v := .ref q1) (ty := .array (.object "UnikernelHttp$Gathering")) (C := R_Gs) (T := F_Gs) (N := 2) hx hb (u_Gs hT) (fun _ h => h) t_Gs k_Gs n_Gs hown hK hP hD hS 0 rfl rfl 0 (by decide) (ux_T_at hT tw_142 rfl) (fun _ h9 => h9) rfl hin rfl (by decide +kernel) rfl rfl (Nat.le_of_ble_eq_true rfl) d_Gs_init_9 (fun H locs hP hD hS => ?_)
  have hP : va_P (dC, dI) cls [(h0, .inr (3, [.ref q1, .int 0])), (q1, .inl (cA2, 4, .inr (.inr (.inr (.inr (fun _ => none))))))] H := hP
  have hD : va_D A [(h0, .inr (3, [.ref q1, .int 0])), (q1, .inl (cA2, 4, .inr (.inr (.inr (.inr (fun _ => none))))))] := hD
  refine lv_iconst (v := 0) hx hb d_Gs_init_12 (by decide) ?_
  refine lv_istore_n hx hb d_Gs_init_13 rfl hl (by decide) rfl (fun ls hl => ?_)
  have hl : lv_has ls 2 [(1, .int 0), (0, .ref h0)] := hl
  refine lv_iload_n hx hb d_Gs_init_14 rfl (lv_at hl 0 rfl) ?_
  refine lv_iconst (v := 4) hx hb d_Gs_init_15 (by decide) ?_
  refine lv_icmp_ge (tgt := 38) hx hb d_Gs_init_16 (by decide) (fun hc => absurd hc (by decide)) (fun _ => ?_)
  refine lv_aload_n hx hb d_Gs_init_19 rfl (lv_at hl 1 rfl) ?_
  refine va_get (D := (dC, dI)) (ci := 3) (v := .ref q1) (C := R_Gs) (T := F_Gs) (N := 2) hx hb (u_Gs hT) (fun _ h => h) hown hK hP 0 rfl rfl 0 (by decide) (ux_T_at hT tw_142 rfl) (fun _ h9 => h9) rfl d_Gs_init_20 ?_
  refine lv_iload_n hx hb d_Gs_init_23 rfl (lv_at hl 0 rfl) ?_
  refine va_new (ci := 4) (fs := [.null, .null, .int 0, .int 0, .int 0, .int 0, .int 0, .int 0, .int 0]) (C := R_G) (T := F_G) (N := 9) hx hb (u_G hT) (fun _ h => h) t_G k_G hown (ux_T_at hT tw_101 rfl) (ux_T_at hT tw_103 rfl) (ux_T_at hT tw_5 rfl) hK hP hD hS hA rfl z_G (Nat.le_of_ble_eq_true rfl) (Nat.le_of_ble_eq_true rfl) d_Gs_init_24 (fun q3 H hP hD hS => ?_)
  have hP : va_P (dC, dI) cls [(h0, .inr (3, [.ref q1, .int 0])), (q1, .inl (cA2, 4, .inr (.inr (.inr (.inr (fun _ => none)))))), (q3, .inr (4, [.null, .null, .int 0, .int 0, .int 0, .int 0, .int 0, .int 0, .int 0]))] H := hP
  have hD : va_D A [(h0, .inr (3, [.ref q1, .int 0])), (q1, .inl (cA2, 4, .inr (.inr (.inr (.inr (fun _ => none)))))), (q3, .inr (4, [.null, .null, .int 0, .int 0, .int 0, .int 0, .int 0, .int 0, .int 0]))] := hD
  refine lv_dup hx hb d_Gs_init_27 rfl ?_
  have hPc := hP.sub (ws' := [(q3, .inr (4, [.null, .null, .int 0, .int 0, .int 0, .int 0, .int 0, .int 0, .int 0]))]) [2] rfl
  have hDc := hD.sub (ws' := [(q3, .inr (4, [.null, .null, .int 0, .int 0, .int 0, .int 0, .int 0, .int 0, .int 0]))]) [2] (by decide) rfl
  have hKc := hK.sub (tys' := []) [] rfl
  have hFc := va_free (wc := [(q3, .inr (4, [.null, .null, .int 0, .int 0, .int 0, .int 0, .int 0, .int 0, .int 0]))]) hD hS hA [2] rfl
  have hkc : 2 + 2 ≤ 13 := (Nat.le_of_ble_eq_true rfl)
  refine va_callv (va_runIN (As := []) (rest := [.ref q3, .int 0, .ref q1]) hfx (c_G_init l dC dI q3 H.size) ⟨(ux_cn 0 hT tw_106 tw_104 tw_5 rfl rfl (by decide +kernel) ⟨(Nat.le_of_ble_eq_true rfl), (Nat.le_of_ble_eq_true rfl)⟩), rfl, (ux_T_at hT tw_105 rfl)⟩ (ux_pre [.ref q3] hT hPc hKc hDc) rfl rfl hl.1 rfl (lv_room (Nat.le_of_ble_eq_true rfl)) d_Gs_init_28 ⟨(Nat.le_of_ble_eq_true rfl), (Nat.le_of_ble_eq_true rfl)⟩) hS (fun q _ h => hFc q h) hFc (fun u t H1 locs ht hvm hw hB hz1 hk1 hS => ?_)
  obtain ⟨q5, q6, hP1, hK1, hD1⟩ := hB
  rw [ht] at hP1
  have hK1 := va_K.moved hvm.symm hK1
  obtain ⟨hP, hD⟩ := va_join (wr := [(h0, .inr (3, [.ref q1, .int 0])), (q1, .inl (cA2, 4, .inr (.inr (.inr (.inr (fun _ => none))))))]) (w1 := [(q3, .inr (4, [.ref q5, .ref q6, .int 0, .int 0, .int 0, .int 0, .int 0, .int 0, .int 0]))]) hP hD [2] [0, 1] rfl rfl (by decide) (by decide) hk1 hFc hP1 hD1
  have hK := (hK.sub (tys' := [(cA2, .object "UnikernelHttp$Gathering")]) [0] rfl).app hK1
  generalize H1 = H at hP hS ⊢
  have hP : va_P (dC, dI) cls [(h0, .inr (3, [.ref q1, .int 0])), (q1, .inl (cA2, 4, .inr (.inr (.inr (.inr (fun _ => none)))))), (q3, .inr (4, [.ref q5, .ref q6, .int 0, .int 0, .int 0, .int 0, .int 0, .int 0, .int 0]))] H := hP
  have hD : va_D A [(h0, .inr (3, [.ref q1, .int 0])), (q1, .inl (cA2, 4, .inr (.inr (.inr (.inr (fun _ => none)))))), (q3, .inr (4, [.ref q5, .ref q6, .int 0, .int 0, .int 0, .int 0, .int 0, .int 0, .int 0]))] := hD
  have hK : va_K (dC, dI) cls [(cA2, .object "UnikernelHttp$Gathering")] s := hK
  refine va_astq hx hb hK hP hD hS 1 0 2 4 rfl rfl rfl rfl (show ¬ ((0 : Int32) < 0 ∨ 4 ≤ (0 : Int32).toNatClampNeg) by decide) d_Gs_init_31 (fun H locs hP hD hS => ?_)
  have hP : va_P (dC, dI) cls [(h0, .inr (3, [.ref q1, .int 0])), (q1, .inl (cA2, 4, .inr (.inr (.inr (.inr (va_up (fun _ => none) (0 : Int32).toNatClampNeg (some q3))))))), (q3, .inr (4, [.ref q5, .ref q6, .int 0, .int 0, .int 0, .int 0, .int 0, .int 0, .int 0]))] H := hP
  have hD : va_D A [(h0, .inr (3, [.ref q1, .int 0])), (q1, .inl (cA2, 4, .inr (.inr (.inr (.inr (va_up (fun _ => none) (0 : Int32).toNatClampNeg (some q3))))))), (q3, .inr (4, [.ref q5, .ref q6, .int 0, .int 0, .int 0, .int 0, .int 0, .int 0, .int 0]))] := hD
  generalize va_up (fun _ => none) (0 : Int32).toNatClampNeg (some q3) = f7 at hP hD
  have hP := hP.sub (ws' := [(h0, .inr (3, [.ref q1, .int 0])), (q1, .inl (cA2, 4, .inr (.inr (.inr (.inr f7)))))]) [0, 1] rfl
  have hD := hD.sub (ws' := [(h0, .inr (3, [.ref q1, .int 0])), (q1, .inl (cA2, 4, .inr (.inr (.inr (.inr f7)))))]) [0, 1] (by decide) rfl
  refine lv_iinc (v := 1) hx hb d_Gs_init_32 hl (k := 0) rfl (by decide) (by decide) rfl (fun ls hl => ?_)
  have hl : lv_has ls 2 [(1, .int 1), (0, .ref h0)] := hl
  refine lv_goto hx hb d_Gs_init_35 (tgt := 14) (by decide) ?_
  refine lv_iload_n hx hb d_Gs_init_14 rfl (lv_at hl 0 rfl) ?_
  refine lv_iconst (v := 4) hx hb d_Gs_init_15 (by decide) ?_
  refine lv_icmp_ge (tgt := 38) hx hb d_Gs_init_16 (by decide) (fun hc => absurd hc (by decide)) (fun _ => ?_)
  refine lv_aload_n hx hb d_Gs_init_19 rfl (lv_at hl 1 rfl) ?_
  refine va_get (D := (dC, dI)) (ci := 3) (v := .ref q1) (C := R_Gs) (T := F_Gs) (N := 2) hx hb (u_Gs hT) (fun _ h => h) hown hK hP 0 rfl rfl 0 (by decide) (ux_T_at hT tw_142 rfl) (fun _ h9 => h9) rfl d_Gs_init_20 ?_
  refine lv_iload_n hx hb d_Gs_init_23 rfl (lv_at hl 0 rfl) ?_
  refine va_new (ci := 4) (fs := [.null, .null, .int 0, .int 0, .int 0, .int 0, .int 0, .int 0, .int 0]) (C := R_G) (T := F_G) (N := 9) hx hb (u_G hT) (fun _ h => h) t_G k_G hown (ux_T_at hT tw_101 rfl) (ux_T_at hT tw_103 rfl) (ux_T_at hT tw_5 rfl) hK hP hD hS hA rfl z_G (Nat.le_of_ble_eq_true rfl) (Nat.le_of_ble_eq_true rfl) d_Gs_init_24 (fun q8 H hP hD hS => ?_)
  have hP : va_P (dC, dI) cls [(h0, .inr (3, [.ref q1, .int 0])), (q1, .inl (cA2, 4, .inr (.inr (.inr (.inr f7))))), (q8, .inr (4, [.null, .null, .int 0, .int 0, .int 0, .int 0, .int 0, .int 0, .int 0]))] H := hP
  have hD : va_D A [(h0, .inr (3, [.ref q1, .int 0])), (q1, .inl (cA2, 4, .inr (.inr (.inr (.inr f7))))), (q8, .inr (4, [.null, .null, .int 0, .int 0, .int 0, .int 0, .int 0, .int 0, .int 0]))] := hD
  refine lv_dup hx hb d_Gs_init_27 rfl ?_
  have hPc := hP.sub (ws' := [(q8, .inr (4, [.null, .null, .int 0, .int 0, .int 0, .int 0, .int 0, .int 0, .int 0]))]) [2] rfl
  have hDc := hD.sub (ws' := [(q8, .inr (4, [.null, .null, .int 0, .int 0, .int 0, .int 0, .int 0, .int 0, .int 0]))]) [2] (by decide) rfl
  have hKc := hK.sub (tys' := []) [] rfl
  have hFc := va_free (wc := [(q8, .inr (4, [.null, .null, .int 0, .int 0, .int 0, .int 0, .int 0, .int 0, .int 0]))]) hD hS hA [2] rfl
  have hkc : 5 + 2 ≤ 13 := (Nat.le_of_ble_eq_true rfl)
  refine va_callv (va_runIN (As := []) (rest := [.ref q8, .int 1, .ref q1]) hfx (c_G_init l dC dI q8 H.size) ⟨(ux_cn 0 hT tw_106 tw_104 tw_5 rfl rfl (by decide +kernel) ⟨(Nat.le_of_ble_eq_true rfl), (Nat.le_of_ble_eq_true rfl)⟩), rfl, (ux_T_at hT tw_105 rfl)⟩ (ux_pre [.ref q8] hT hPc hKc hDc) rfl rfl hl.1 rfl (lv_room (Nat.le_of_ble_eq_true rfl)) d_Gs_init_28 ⟨(Nat.le_of_ble_eq_true rfl), (Nat.le_of_ble_eq_true rfl)⟩) hS (fun q _ h => hFc q h) hFc (fun u t H1 locs ht hvm hw hB hz1 hk1 hS => ?_)
  obtain ⟨q10, q11, hP1, hK1, hD1⟩ := hB
  rw [ht] at hP1
  have hK1 := va_K.moved hvm.symm hK1
  obtain ⟨hP, hD⟩ := va_join (wr := [(h0, .inr (3, [.ref q1, .int 0])), (q1, .inl (cA2, 4, .inr (.inr (.inr (.inr f7)))))]) (w1 := [(q8, .inr (4, [.ref q10, .ref q11, .int 0, .int 0, .int 0, .int 0, .int 0, .int 0, .int 0]))]) hP hD [2] [0, 1] rfl rfl (by decide) (by decide) hk1 hFc hP1 hD1
  have hK := (hK.sub (tys' := [(cA2, .object "UnikernelHttp$Gathering")]) [0] rfl).app hK1
  generalize H1 = H at hP hS ⊢
  have hP : va_P (dC, dI) cls [(h0, .inr (3, [.ref q1, .int 0])), (q1, .inl (cA2, 4, .inr (.inr (.inr (.inr f7))))), (q8, .inr (4, [.ref q10, .ref q11, .int 0, .int 0, .int 0, .int 0, .int 0, .int 0, .int 0]))] H := hP
  have hD : va_D A [(h0, .inr (3, [.ref q1, .int 0])), (q1, .inl (cA2, 4, .inr (.inr (.inr (.inr f7))))), (q8, .inr (4, [.ref q10, .ref q11, .int 0, .int 0, .int 0, .int 0, .int 0, .int 0, .int 0]))] := hD
  have hK : va_K (dC, dI) cls [(cA2, .object "UnikernelHttp$Gathering")] s := hK
  refine va_astq hx hb hK hP hD hS 1 0 2 4 rfl rfl rfl rfl (show ¬ ((1 : Int32) < 0 ∨ 4 ≤ (1 : Int32).toNatClampNeg) by decide) d_Gs_init_31 (fun H locs hP hD hS => ?_)
  have hP : va_P (dC, dI) cls [(h0, .inr (3, [.ref q1, .int 0])), (q1, .inl (cA2, 4, .inr (.inr (.inr (.inr (va_up f7 (1 : Int32).toNatClampNeg (some q8))))))), (q8, .inr (4, [.ref q10, .ref q11, .int 0, .int 0, .int 0, .int 0, .int 0, .int 0, .int 0]))] H := hP
  have hD : va_D A [(h0, .inr (3, [.ref q1, .int 0])), (q1, .inl (cA2, 4, .inr (.inr (.inr (.inr (va_up f7 (1 : Int32).toNatClampNeg (some q8))))))), (q8, .inr (4, [.ref q10, .ref q11, .int 0, .int 0, .int 0, .int 0, .int 0, .int 0, .int 0]))] := hD
  generalize va_up f7 (1 : Int32).toNatClampNeg (some q8) = f12 at hP hD
  have hP := hP.sub (ws' := [(h0, .inr (3, [.ref q1, .int 0])), (q1, .inl (cA2, 4, .inr (.inr (.inr (.inr f12)))))]) [0, 1] rfl
  have hD := hD.sub (ws' := [(h0, .inr (3, [.ref q1, .int 0])), (q1, .inl (cA2, 4, .inr (.inr (.inr (.inr f12)))))]) [0, 1] (by decide) rfl
  refine lv_iinc (v := 2) hx hb d_Gs_init_32 hl (k := 0) rfl (by decide) (by decide) rfl (fun ls hl => ?_)
  have hl : lv_has ls 2 [(1, .int 2), (0, .ref h0)] := hl
  refine lv_goto hx hb d_Gs_init_35 (tgt := 14) (by decide) ?_
  refine lv_iload_n hx hb d_Gs_init_14 rfl (lv_at hl 0 rfl) ?_
  refine lv_iconst (v := 4) hx hb d_Gs_init_15 (by decide) ?_
  refine lv_icmp_ge (tgt := 38) hx hb d_Gs_init_16 (by decide) (fun hc => absurd hc (by decide)) (fun _ => ?_)
  refine lv_aload_n hx hb d_Gs_init_19 rfl (lv_at hl 1 rfl) ?_
  refine va_get (D := (dC, dI)) (ci := 3) (v := .ref q1) (C := R_Gs) (T := F_Gs) (N := 2) hx hb (u_Gs hT) (fun _ h => h) hown hK hP 0 rfl rfl 0 (by decide) (ux_T_at hT tw_142 rfl) (fun _ h9 => h9) rfl d_Gs_init_20 ?_
  refine lv_iload_n hx hb d_Gs_init_23 rfl (lv_at hl 0 rfl) ?_
  refine va_new (ci := 4) (fs := [.null, .null, .int 0, .int 0, .int 0, .int 0, .int 0, .int 0, .int 0]) (C := R_G) (T := F_G) (N := 9) hx hb (u_G hT) (fun _ h => h) t_G k_G hown (ux_T_at hT tw_101 rfl) (ux_T_at hT tw_103 rfl) (ux_T_at hT tw_5 rfl) hK hP hD hS hA rfl z_G (Nat.le_of_ble_eq_true rfl) (Nat.le_of_ble_eq_true rfl) d_Gs_init_24 (fun q13 H hP hD hS => ?_)
  have hP : va_P (dC, dI) cls [(h0, .inr (3, [.ref q1, .int 0])), (q1, .inl (cA2, 4, .inr (.inr (.inr (.inr f12))))), (q13, .inr (4, [.null, .null, .int 0, .int 0, .int 0, .int 0, .int 0, .int 0, .int 0]))] H := hP
  have hD : va_D A [(h0, .inr (3, [.ref q1, .int 0])), (q1, .inl (cA2, 4, .inr (.inr (.inr (.inr f12))))), (q13, .inr (4, [.null, .null, .int 0, .int 0, .int 0, .int 0, .int 0, .int 0, .int 0]))] := hD
  refine lv_dup hx hb d_Gs_init_27 rfl ?_
  have hPc := hP.sub (ws' := [(q13, .inr (4, [.null, .null, .int 0, .int 0, .int 0, .int 0, .int 0, .int 0, .int 0]))]) [2] rfl
  have hDc := hD.sub (ws' := [(q13, .inr (4, [.null, .null, .int 0, .int 0, .int 0, .int 0, .int 0, .int 0, .int 0]))]) [2] (by decide) rfl
  have hKc := hK.sub (tys' := []) [] rfl
  have hFc := va_free (wc := [(q13, .inr (4, [.null, .null, .int 0, .int 0, .int 0, .int 0, .int 0, .int 0, .int 0]))]) hD hS hA [2] rfl
  have hkc : 8 + 2 ≤ 13 := (Nat.le_of_ble_eq_true rfl)
  refine va_callv (va_runIN (As := []) (rest := [.ref q13, .int 2, .ref q1]) hfx (c_G_init l dC dI q13 H.size) ⟨(ux_cn 0 hT tw_106 tw_104 tw_5 rfl rfl (by decide +kernel) ⟨(Nat.le_of_ble_eq_true rfl), (Nat.le_of_ble_eq_true rfl)⟩), rfl, (ux_T_at hT tw_105 rfl)⟩ (ux_pre [.ref q13] hT hPc hKc hDc) rfl rfl hl.1 rfl (lv_room (Nat.le_of_ble_eq_true rfl)) d_Gs_init_28 ⟨(Nat.le_of_ble_eq_true rfl), (Nat.le_of_ble_eq_true rfl)⟩) hS (fun q _ h => hFc q h) hFc (fun u t H1 locs ht hvm hw hB hz1 hk1 hS => ?_)
  obtain ⟨q15, q16, hP1, hK1, hD1⟩ := hB
  rw [ht] at hP1
  have hK1 := va_K.moved hvm.symm hK1
  obtain ⟨hP, hD⟩ := va_join (wr := [(h0, .inr (3, [.ref q1, .int 0])), (q1, .inl (cA2, 4, .inr (.inr (.inr (.inr f12)))))]) (w1 := [(q13, .inr (4, [.ref q15, .ref q16, .int 0, .int 0, .int 0, .int 0, .int 0, .int 0, .int 0]))]) hP hD [2] [0, 1] rfl rfl (by decide) (by decide) hk1 hFc hP1 hD1
  have hK := (hK.sub (tys' := [(cA2, .object "UnikernelHttp$Gathering")]) [0] rfl).app hK1
  generalize H1 = H at hP hS ⊢
  have hP : va_P (dC, dI) cls [(h0, .inr (3, [.ref q1, .int 0])), (q1, .inl (cA2, 4, .inr (.inr (.inr (.inr f12))))), (q13, .inr (4, [.ref q15, .ref q16, .int 0, .int 0, .int 0, .int 0, .int 0, .int 0, .int 0]))] H := hP
  have hD : va_D A [(h0, .inr (3, [.ref q1, .int 0])), (q1, .inl (cA2, 4, .inr (.inr (.inr (.inr f12))))), (q13, .inr (4, [.ref q15, .ref q16, .int 0, .int 0, .int 0, .int 0, .int 0, .int 0, .int 0]))] := hD
  have hK : va_K (dC, dI) cls [(cA2, .object "UnikernelHttp$Gathering")] s := hK
  refine va_astq hx hb hK hP hD hS 1 0 2 4 rfl rfl rfl rfl (show ¬ ((2 : Int32) < 0 ∨ 4 ≤ (2 : Int32).toNatClampNeg) by decide) d_Gs_init_31 (fun H locs hP hD hS => ?_)
  have hP : va_P (dC, dI) cls [(h0, .inr (3, [.ref q1, .int 0])), (q1, .inl (cA2, 4, .inr (.inr (.inr (.inr (va_up f12 (2 : Int32).toNatClampNeg (some q13))))))), (q13, .inr (4, [.ref q15, .ref q16, .int 0, .int 0, .int 0, .int 0, .int 0, .int 0, .int 0]))] H := hP
  have hD : va_D A [(h0, .inr (3, [.ref q1, .int 0])), (q1, .inl (cA2, 4, .inr (.inr (.inr (.inr (va_up f12 (2 : Int32).toNatClampNeg (some q13))))))), (q13, .inr (4, [.ref q15, .ref q16, .int 0, .int 0, .int 0, .int 0, .int 0, .int 0, .int 0]))] := hD
  generalize va_up f12 (2 : Int32).toNatClampNeg (some q13) = f17 at hP hD
  have hP := hP.sub (ws' := [(h0, .inr (3, [.ref q1, .int 0])), (q1, .inl (cA2, 4, .inr (.inr (.inr (.inr f17)))))]) [0, 1] rfl
  have hD := hD.sub (ws' := [(h0, .inr (3, [.ref q1, .int 0])), (q1, .inl (cA2, 4, .inr (.inr (.inr (.inr f17)))))]) [0, 1] (by decide) rfl
  refine lv_iinc (v := 3) hx hb d_Gs_init_32 hl (k := 0) rfl (by decide) (by decide) rfl (fun ls hl => ?_)
  have hl : lv_has ls 2 [(1, .int 3), (0, .ref h0)] := hl
  refine lv_goto hx hb d_Gs_init_35 (tgt := 14) (by decide) ?_
  refine lv_iload_n hx hb d_Gs_init_14 rfl (lv_at hl 0 rfl) ?_
  refine lv_iconst (v := 4) hx hb d_Gs_init_15 (by decide) ?_
  refine lv_icmp_ge (tgt := 38) hx hb d_Gs_init_16 (by decide) (fun hc => absurd hc (by decide)) (fun _ => ?_)
  refine lv_aload_n hx hb d_Gs_init_19 rfl (lv_at hl 1 rfl) ?_
  refine va_get (D := (dC, dI)) (ci := 3) (v := .ref q1) (C := R_Gs) (T := F_Gs) (N := 2) hx hb (u_Gs hT) (fun _ h => h) hown hK hP 0 rfl rfl 0 (by decide) (ux_T_at hT tw_142 rfl) (fun _ h9 => h9) rfl d_Gs_init_20 ?_
  refine lv_iload_n hx hb d_Gs_init_23 rfl (lv_at hl 0 rfl) ?_
  refine va_new (ci := 4) (fs := [.null, .null, .int 0, .int 0, .int 0, .int 0, .int 0, .int 0, .int 0]) (C := R_G) (T := F_G) (N := 9) hx hb (u_G hT) (fun _ h => h) t_G k_G hown (ux_T_at hT tw_101 rfl) (ux_T_at hT tw_103 rfl) (ux_T_at hT tw_5 rfl) hK hP hD hS hA rfl z_G (Nat.le_of_ble_eq_true rfl) (Nat.le_of_ble_eq_true rfl) d_Gs_init_24 (fun q18 H hP hD hS => ?_)
  have hP : va_P (dC, dI) cls [(h0, .inr (3, [.ref q1, .int 0])), (q1, .inl (cA2, 4, .inr (.inr (.inr (.inr f17))))), (q18, .inr (4, [.null, .null, .int 0, .int 0, .int 0, .int 0, .int 0, .int 0, .int 0]))] H := hP
  have hD : va_D A [(h0, .inr (3, [.ref q1, .int 0])), (q1, .inl (cA2, 4, .inr (.inr (.inr (.inr f17))))), (q18, .inr (4, [.null, .null, .int 0, .int 0, .int 0, .int 0, .int 0, .int 0, .int 0]))] := hD
  refine lv_dup hx hb d_Gs_init_27 rfl ?_
  have hPc := hP.sub (ws' := [(q18, .inr (4, [.null, .null, .int 0, .int 0, .int 0, .int 0, .int 0, .int 0, .int 0]))]) [2] rfl
  have hDc := hD.sub (ws' := [(q18, .inr (4, [.null, .null, .int 0, .int 0, .int 0, .int 0, .int 0, .int 0, .int 0]))]) [2] (by decide) rfl
  have hKc := hK.sub (tys' := []) [] rfl
  have hFc := va_free (wc := [(q18, .inr (4, [.null, .null, .int 0, .int 0, .int 0, .int 0, .int 0, .int 0, .int 0]))]) hD hS hA [2] rfl
  have hkc : 11 + 2 ≤ 13 := (Nat.le_of_ble_eq_true rfl)
  refine va_callv (va_runIN (As := []) (rest := [.ref q18, .int 3, .ref q1]) hfx (c_G_init l dC dI q18 H.size) ⟨(ux_cn 0 hT tw_106 tw_104 tw_5 rfl rfl (by decide +kernel) ⟨(Nat.le_of_ble_eq_true rfl), (Nat.le_of_ble_eq_true rfl)⟩), rfl, (ux_T_at hT tw_105 rfl)⟩ (ux_pre [.ref q18] hT hPc hKc hDc) rfl rfl hl.1 rfl (lv_room (Nat.le_of_ble_eq_true rfl)) d_Gs_init_28 ⟨(Nat.le_of_ble_eq_true rfl), (Nat.le_of_ble_eq_true rfl)⟩) hS (fun q _ h => hFc q h) hFc (fun u t H1 locs ht hvm hw hB hz1 hk1 hS => ?_)
  obtain ⟨q20, q21, hP1, hK1, hD1⟩ := hB
  rw [ht] at hP1
  have hK1 := va_K.moved hvm.symm hK1
  obtain ⟨hP, hD⟩ := va_join (wr := [(h0, .inr (3, [.ref q1, .int 0])), (q1, .inl (cA2, 4, .inr (.inr (.inr (.inr f17)))))]) (w1 := [(q18, .inr (4, [.ref q20, .ref q21, .int 0, .int 0, .int 0, .int 0, .int 0, .int 0, .int 0]))]) hP hD [2] [0, 1] rfl rfl (by decide) (by decide) hk1 hFc hP1 hD1
  have hK := (hK.sub (tys' := [(cA2, .object "UnikernelHttp$Gathering")]) [0] rfl).app hK1
  generalize H1 = H at hP hS ⊢
  have hP : va_P (dC, dI) cls [(h0, .inr (3, [.ref q1, .int 0])), (q1, .inl (cA2, 4, .inr (.inr (.inr (.inr f17))))), (q18, .inr (4, [.ref q20, .ref q21, .int 0, .int 0, .int 0, .int 0, .int 0, .int 0, .int 0]))] H := hP
  have hD : va_D A [(h0, .inr (3, [.ref q1, .int 0])), (q1, .inl (cA2, 4, .inr (.inr (.inr (.inr f17))))), (q18, .inr (4, [.ref q20, .ref q21, .int 0, .int 0, .int 0, .int 0, .int 0, .int 0, .int 0]))] := hD
  have hK : va_K (dC, dI) cls [(cA2, .object "UnikernelHttp$Gathering")] s := hK
  refine va_astq hx hb hK hP hD hS 1 0 2 4 rfl rfl rfl rfl (show ¬ ((3 : Int32) < 0 ∨ 4 ≤ (3 : Int32).toNatClampNeg) by decide) d_Gs_init_31 (fun H locs hP hD hS => ?_)
  have hP : va_P (dC, dI) cls [(h0, .inr (3, [.ref q1, .int 0])), (q1, .inl (cA2, 4, .inr (.inr (.inr (.inr (va_up f17 (3 : Int32).toNatClampNeg (some q18))))))), (q18, .inr (4, [.ref q20, .ref q21, .int 0, .int 0, .int 0, .int 0, .int 0, .int 0, .int 0]))] H := hP
  have hD : va_D A [(h0, .inr (3, [.ref q1, .int 0])), (q1, .inl (cA2, 4, .inr (.inr (.inr (.inr (va_up f17 (3 : Int32).toNatClampNeg (some q18))))))), (q18, .inr (4, [.ref q20, .ref q21, .int 0, .int 0, .int 0, .int 0, .int 0, .int 0, .int 0]))] := hD
  generalize va_up f17 (3 : Int32).toNatClampNeg (some q18) = f22 at hP hD
  have hP := hP.sub (ws' := [(h0, .inr (3, [.ref q1, .int 0])), (q1, .inl (cA2, 4, .inr (.inr (.inr (.inr f22)))))]) [0, 1] rfl
  have hD := hD.sub (ws' := [(h0, .inr (3, [.ref q1, .int 0])), (q1, .inl (cA2, 4, .inr (.inr (.inr (.inr f22)))))]) [0, 1] (by decide) rfl
  refine lv_iinc (v := 4) hx hb d_Gs_init_32 hl (k := 0) rfl (by decide) (by decide) rfl (fun ls hl => ?_)
  have hl : lv_has ls 2 [(1, .int 4), (0, .ref h0)] := hl
  refine lv_goto hx hb d_Gs_init_35 (tgt := 14) (by decide) ?_
  refine lv_iload_n hx hb d_Gs_init_14 rfl (lv_at hl 0 rfl) ?_
  refine lv_iconst (v := 4) hx hb d_Gs_init_15 (by decide) ?_
  refine lv_icmp_ge (tgt := 38) hx hb d_Gs_init_16 (by decide) (fun _ => ?_) (fun hc => absurd (by decide) hc)
  have hP9 := hP.sub (ws' := [(h0, .inr (3, [.ref q1, .int 0]))]) [0] rfl
  have hD9 := hD.sub (ws' := [(h0, .inr (3, [.ref q1, .int 0]))]) [0] (by decide) rfl
  have hK9 := hK.sub (tys' := []) [] rfl
  refine W.widen (k := 13) (n := 32808) (Nat.le_of_ble_eq_true rfl) (Nat.le_of_ble_eq_true rfl) ?_
  exact W.vret hx hb hr (fun t ht hW => ⟨⟨(), rfl, trivial, q1, by rw [ht]; exact hP9, va_K.moved hW.alike hK9, hD9⟩, hS.F ht⟩) hS.2.2 d_Gs_init_38
set_option maxHeartbeats 4000000 in
set_option maxRecDepth 100000 in
theorem c_Sg_init (l : Launch) (dC : Nat → ClassId) (dI : Nat → Nat → Nat) (h0 : Nat) (sz : Nat) : Met l y_Sg_init [Cond.code y_Sg_init b_Sg_init 1 (none)] ({ frames := 20, cells := 1, slots := 0, locals := 300 }) (ux_Pc [.ref h0] (dC, dI) cls [(h0, .inr (5, [.null, .int 0, .int 0, .int 0, .int 0, .int 0, .int 0, .int 0, .int 0, .int 0, .int 0, .int 0]))] [] sz) (va_Qv (fun _ : Unit => True) (fun (_ : Unit) (t : State) => ∃ (q1 : Nat), ux_B (dC, dI) cls (va_A [(h0, .inr (5, [.null, .int 0, .int 0, .int 0, .int 0, .int 0, .int 0, .int 0, .int 0, .int 0, .int 0, .int 0]))] sz) [(h0, .inr (5, [.ref q1, .int 0, .int 0, .int 0, .int 0, .int 0, .int 0, .int 0, .int 0, .int 0, .int 0, .int 0]))] [] t) (va_A [(h0, .inr (5, [.null, .int 0, .int 0, .int 0, .int 0, .int 0, .int 0, .int 0, .int 0, .int 0, .int 0, .int 0]))] sz)) 1 0 (va_A [(h0, .inr (5, [.null, .int 0, .int 0, .int 0, .int 0, .int 0, .int 0, .int 0, .int 0, .int 0, .int 0, .int 0]))] sz) := by
  refine Met.ofW (cc := b_Sg_init) (maxL := 1) (ret := none) (by decide) rfl ?_
  intro p e s m args below meth c s₁ B hml hv
  obtain ⟨rfl, hsz, hP, hK, hD0, hT⟩ := hv
  have hx := B.exec
  have hb := B.bytes
  have hr := B.returns
  have hown : s.vm.findClass "UnikernelHttp$Segment" = some m.cls := findClass_of_methodNamed B.named
  have hlocks := B.notSynchronized
  have hin : meth.name = "<init>" := (name_of_methodNamed B.named B.method).1
  subst hsz
  have hD := hD0.self (sz := s.heap.size)
  have hns := ux_ns hP
  generalize hAe : va_A [(h0, .inr (5, [.null, .int 0, .int 0, .int 0, .int 0, .int 0, .int 0, .int 0, .int 0, .int 0, .int 0, .int 0]))] s.heap.size = A at hD hns ⊢
  have hA : ∀ q : Nat, s.heap.size ≤ q → A q := fun q h => by rw [← hAe]; exact Or.inr h
  have hS : va_S A s.heap s.heap [] := va_S.rf
  have hl := lv_entry ([.ref h0]) (n := 1) (Nat.le_of_ble_eq_true rfl)
  rw [lg_entry_eq]
  generalize (lg_sl ([.ref h0]) ++ List.replicate (1 - (lg_sl ([.ref h0])).length) Slot.unset).toArray = ls at hl ⊢
  have hl : lv_has ls 1 [(0, .ref h0)] := hl
  have hfx : CallFix p m c b_Sg_init 1 s ([.ref h0] : List Value).toArray [] "UnikernelHttp$Segment" := ⟨hx, hb, hml, hown, fun _ h => by cases h⟩
  refine lv_aload_n hx hb d_Sg_init_0 rfl (lv_at hl 0 rfl) ?_
  refine W.objInit hx hb hown (ux_T_at hT tw_155 rfl) (ux_T_at hT tw_40 rfl) (ux_T_at hT tw_41 rfl) rfl (by rw [hml]; exact hl.1) rfl d_Sg_init_1 (Nat.le_of_ble_eq_true rfl) (Nat.le_of_ble_eq_true rfl) ?_
  refine W.eq (g2 := F0 m 4 ls []) rfl ?_
  refine lv_aload_n hx hb d_Sg_init_4 rfl (lv_at hl 0 rfl) ?_
  refine lv_iconst (v := 0) hx hb d_Sg_init_5 (by decide) ?_
  refine va_newa (atype := .byte) (ty := .byte) (N' := 0) (a0 := (0, .inl (fun _ => 0))) hx hb (ux_T_at hT tw_66 rfl) rfl hK hP hD hS hA (fun _ => rfl) (by decide) (by decide +kernel) (by decide +kernel) (Nat.le_of_ble_eq_true rfl) (Nat.le_of_ble_eq_true rfl) d_Sg_init_6 (fun q1 cA2 H hK hP hD hS => ?_)
  have hP : va_P (dC, dI) cls [(h0, .inr (5, [.null, .int 0, .int 0, .int 0, .int 0, .int 0, .int 0, .int 0, .int 0, .int 0, .int 0, .int 0])), (q1, .inl (cA2, 0, .inl (fun _ => 0)))] H := hP
  have hD : va_D A [(h0, .inr (5, [.null, .int 0, .int 0, .int 0, .int 0, .int 0, .int 0, .int 0, .int 0, .int 0, .int 0, .int 0])), (q1, .inl (cA2, 0, .inl (fun _ => 0)))] := hD
  have hK : va_K (dC, dI) cls [(cA2, .byte)] s := hK
  refine va_put (D := (dC, dI)) (ci := 5) (v := .ref q1) (ty := .array .byte) (C := R_Sg) (T := F_Sg) (N := 12) hx hb (u_Sg hT) (fun _ h => h) t_Sg k_Sg n_Sg hown hK hP hD hS 0 rfl rfl 0 (by decide) (ux_T_at hT tw_156 rfl) (fun _ h9 => h9) rfl (by decide +kernel) rfl rfl (Nat.le_of_ble_eq_true rfl) d_Sg_init_8 (fun H locs hP hD hS => ?_)
  have hP : va_P (dC, dI) cls [(h0, .inr (5, [.ref q1, .int 0, .int 0, .int 0, .int 0, .int 0, .int 0, .int 0, .int 0, .int 0, .int 0, .int 0])), (q1, .inl (cA2, 0, .inl (fun _ => 0)))] H := hP
  have hD : va_D A [(h0, .inr (5, [.ref q1, .int 0, .int 0, .int 0, .int 0, .int 0, .int 0, .int 0, .int 0, .int 0, .int 0, .int 0])), (q1, .inl (cA2, 0, .inl (fun _ => 0)))] := hD
  have hP := hP.sub (ws' := [(h0, .inr (5, [.ref q1, .int 0, .int 0, .int 0, .int 0, .int 0, .int 0, .int 0, .int 0, .int 0, .int 0, .int 0]))]) [0] rfl
  have hD := hD.sub (ws' := [(h0, .inr (5, [.ref q1, .int 0, .int 0, .int 0, .int 0, .int 0, .int 0, .int 0, .int 0, .int 0, .int 0, .int 0]))]) [0] (by decide) rfl
  have hP9 := hP.sub (ws' := [(h0, .inr (5, [.ref q1, .int 0, .int 0, .int 0, .int 0, .int 0, .int 0, .int 0, .int 0, .int 0, .int 0, .int 0]))]) [0] rfl
  have hD9 := hD.sub (ws' := [(h0, .inr (5, [.ref q1, .int 0, .int 0, .int 0, .int 0, .int 0, .int 0, .int 0, .int 0, .int 0, .int 0, .int 0]))]) [0] (by decide) rfl
  have hK9 := hK.sub (tys' := []) [] rfl
  refine W.widen (k := 1) (n := 0) (Nat.le_of_ble_eq_true rfl) (Nat.le_of_ble_eq_true rfl) ?_
  exact W.vret hx hb hr (fun t ht hW => ⟨⟨(), rfl, trivial, q1, by rw [ht]; exact hP9, va_K.moved hW.alike hK9, hD9⟩, hS.F ht⟩) hS.2.2 d_Sg_init_11
set_option maxHeartbeats 4000000 in
set_option maxRecDepth 100000 in
theorem c_In_init (l : Launch) (dC : Nat → ClassId) (dI : Nat → Nat → Nat) (h0 : Nat) (sz : Nat) : Met l y_In_init [Cond.code y_In_init b_In_init 1 (none)] ({ frames := 20, cells := 2, slots := 4096, locals := 300 }) (ux_Pc [.ref h0] (dC, dI) cls [(h0, .inr (8, [.null, .null, .int 0, .int 0, .int 0, .int 0, .int 0]))] [] sz) (va_Qv (fun _ : Unit => True) (fun (_ : Unit) (t : State) => ∃ (q1 : Nat), ∃ (q2 : Nat), ux_B (dC, dI) cls (va_A [(h0, .inr (8, [.null, .null, .int 0, .int 0, .int 0, .int 0, .int 0]))] sz) [(h0, .inr (8, [.ref q1, .ref q2, .int 0, .int 0, .int 0, .int 0, .int 0]))] [] t) (va_A [(h0, .inr (8, [.null, .null, .int 0, .int 0, .int 0, .int 0, .int 0]))] sz)) 2 4096 (va_A [(h0, .inr (8, [.null, .null, .int 0, .int 0, .int 0, .int 0, .int 0]))] sz) := by
  refine Met.ofW (cc := b_In_init) (maxL := 1) (ret := none) (by decide) rfl ?_
  intro p e s m args below meth c s₁ B hml hv
  obtain ⟨rfl, hsz, hP, hK, hD0, hT⟩ := hv
  have hx := B.exec
  have hb := B.bytes
  have hr := B.returns
  have hown : s.vm.findClass "UnikernelHttp$Inbox" = some m.cls := findClass_of_methodNamed B.named
  have hlocks := B.notSynchronized
  have hin : meth.name = "<init>" := (name_of_methodNamed B.named B.method).1
  subst hsz
  have hD := hD0.self (sz := s.heap.size)
  have hns := ux_ns hP
  generalize hAe : va_A [(h0, .inr (8, [.null, .null, .int 0, .int 0, .int 0, .int 0, .int 0]))] s.heap.size = A at hD hns ⊢
  have hA : ∀ q : Nat, s.heap.size ≤ q → A q := fun q h => by rw [← hAe]; exact Or.inr h
  have hS : va_S A s.heap s.heap [] := va_S.rf
  have hl := lv_entry ([.ref h0]) (n := 1) (Nat.le_of_ble_eq_true rfl)
  rw [lg_entry_eq]
  generalize (lg_sl ([.ref h0]) ++ List.replicate (1 - (lg_sl ([.ref h0])).length) Slot.unset).toArray = ls at hl ⊢
  have hl : lv_has ls 1 [(0, .ref h0)] := hl
  have hfx : CallFix p m c b_In_init 1 s ([.ref h0] : List Value).toArray [] "UnikernelHttp$Inbox" := ⟨hx, hb, hml, hown, fun _ h => by cases h⟩
  refine lv_aload_n hx hb d_In_init_0 rfl (lv_at hl 0 rfl) ?_
  refine W.objInit hx hb hown (ux_T_at hT tw_232 rfl) (ux_T_at hT tw_40 rfl) (ux_T_at hT tw_41 rfl) rfl (by rw [hml]; exact hl.1) rfl d_In_init_1 (Nat.le_of_ble_eq_true rfl) (Nat.le_of_ble_eq_true rfl) ?_
  refine W.eq (g2 := F0 m 4 ls []) rfl ?_
  refine lv_aload_n hx hb d_In_init_4 rfl (lv_at hl 0 rfl) ?_
  refine lv_sipush (v := 2048) hx hb d_In_init_5 (by decide) ?_
  refine va_newa (atype := .byte) (ty := .byte) (N' := 2048) (a0 := (2048, .inl (fun _ => 0))) hx hb (ux_T_at hT tw_66 rfl) rfl hK hP hD hS hA (fun _ => rfl) (by decide) (by decide +kernel) (by decide +kernel) (Nat.le_of_ble_eq_true rfl) (Nat.le_of_ble_eq_true rfl) d_In_init_8 (fun q1 cA2 H hK hP hD hS => ?_)
  have hP : va_P (dC, dI) cls [(h0, .inr (8, [.null, .null, .int 0, .int 0, .int 0, .int 0, .int 0])), (q1, .inl (cA2, 2048, .inl (fun _ => 0)))] H := hP
  have hD : va_D A [(h0, .inr (8, [.null, .null, .int 0, .int 0, .int 0, .int 0, .int 0])), (q1, .inl (cA2, 2048, .inl (fun _ => 0)))] := hD
  have hK : va_K (dC, dI) cls [(cA2, .byte)] s := hK
  refine va_putF (D := (dC, dI)) (ci := 8) (v := .ref q1) (ty := .array .byte) (C := R_In) (T := F_In) (N := 7) hx hb (u_In hT) (fun _ h => h) t_In k_In n_In hown hK hP hD hS 0 rfl rfl 0 (by decide) (ux_T_at hT tw_233 rfl) (fun _ h9 => h9) rfl hin rfl (by decide +kernel) rfl rfl (Nat.le_of_ble_eq_true rfl) d_In_init_10 (fun H locs hP hD hS => ?_)
  have hP : va_P (dC, dI) cls [(h0, .inr (8, [.ref q1, .null, .int 0, .int 0, .int 0, .int 0, .int 0])), (q1, .inl (cA2, 2048, .inl (fun _ => 0)))] H := hP
  have hD : va_D A [(h0, .inr (8, [.ref q1, .null, .int 0, .int 0, .int 0, .int 0, .int 0])), (q1, .inl (cA2, 2048, .inl (fun _ => 0)))] := hD
  have hP := hP.sub (ws' := [(h0, .inr (8, [.ref q1, .null, .int 0, .int 0, .int 0, .int 0, .int 0]))]) [0] rfl
  have hD := hD.sub (ws' := [(h0, .inr (8, [.ref q1, .null, .int 0, .int 0, .int 0, .int 0, .int 0]))]) [0] (by decide) rfl
  refine lv_aload_n hx hb d_In_init_13 rfl (lv_at hl 0 rfl) ?_
  refine lv_sipush (v := 2048) hx hb d_In_init_14 (by decide) ?_
  refine va_newa (atype := .byte) (ty := .byte) (N' := 2048) (a0 := (2048, .inl (fun _ => 0))) hx hb (ux_T_at hT tw_66 rfl) rfl hK hP hD hS hA (fun _ => rfl) (by decide) (by decide +kernel) (by decide +kernel) (Nat.le_of_ble_eq_true rfl) (Nat.le_of_ble_eq_true rfl) d_In_init_17 (fun q3 cA4 H hK hP hD hS => ?_)
  have hP : va_P (dC, dI) cls [(h0, .inr (8, [.ref q1, .null, .int 0, .int 0, .int 0, .int 0, .int 0])), (q3, .inl (cA4, 2048, .inl (fun _ => 0)))] H := hP
  have hD : va_D A [(h0, .inr (8, [.ref q1, .null, .int 0, .int 0, .int 0, .int 0, .int 0])), (q3, .inl (cA4, 2048, .inl (fun _ => 0)))] := hD
  have hK : va_K (dC, dI) cls [(cA2, .byte), (cA4, .byte)] s := hK
  refine va_putF (D := (dC, dI)) (ci := 8) (v := .ref q3) (ty := .array .byte) (C := R_In) (T := F_In) (N := 7) hx hb (u_In hT) (fun _ h => h) t_In k_In n_In hown hK hP hD hS 0 rfl rfl 1 (by decide) (ux_T_at hT tw_235 rfl) (fun _ h9 => h9) rfl hin rfl (by decide +kernel) rfl rfl (Nat.le_of_ble_eq_true rfl) d_In_init_19 (fun H locs hP hD hS => ?_)
  have hP : va_P (dC, dI) cls [(h0, .inr (8, [.ref q1, .ref q3, .int 0, .int 0, .int 0, .int 0, .int 0])), (q3, .inl (cA4, 2048, .inl (fun _ => 0)))] H := hP
  have hD : va_D A [(h0, .inr (8, [.ref q1, .ref q3, .int 0, .int 0, .int 0, .int 0, .int 0])), (q3, .inl (cA4, 2048, .inl (fun _ => 0)))] := hD
  have hP := hP.sub (ws' := [(h0, .inr (8, [.ref q1, .ref q3, .int 0, .int 0, .int 0, .int 0, .int 0]))]) [0] rfl
  have hD := hD.sub (ws' := [(h0, .inr (8, [.ref q1, .ref q3, .int 0, .int 0, .int 0, .int 0, .int 0]))]) [0] (by decide) rfl
  have hP9 := hP.sub (ws' := [(h0, .inr (8, [.ref q1, .ref q3, .int 0, .int 0, .int 0, .int 0, .int 0]))]) [0] rfl
  have hD9 := hD.sub (ws' := [(h0, .inr (8, [.ref q1, .ref q3, .int 0, .int 0, .int 0, .int 0, .int 0]))]) [0] (by decide) rfl
  have hK9 := hK.sub (tys' := []) [] rfl
  refine W.widen (k := 2) (n := 4096) (Nat.le_of_ble_eq_true rfl) (Nat.le_of_ble_eq_true rfl) ?_
  exact W.vret hx hb hr (fun t ht hW => ⟨⟨(), rfl, trivial, q1, q3, by rw [ht]; exact hP9, va_K.moved hW.alike hK9, hD9⟩, hS.F ht⟩) hS.2.2 d_In_init_22
set_option maxHeartbeats 4000000 in
set_option maxRecDepth 100000 in
theorem c_Ou_init (l : Launch) (dC : Nat → ClassId) (dI : Nat → Nat → Nat) (h0 : Nat) (sz : Nat) : Met l y_Ou_init [Cond.code y_Ou_init b_Ou_init 1 (none)] ({ frames := 20, cells := 1, slots := 4096, locals := 300 }) (ux_Pc [.ref h0] (dC, dI) cls [(h0, .inr (9, [.null, .int 0, .int 0, .int 0, .int 0]))] [] sz) (va_Qv (fun _ : Unit => True) (fun (_ : Unit) (t : State) => ∃ (q1 : Nat), ux_B (dC, dI) cls (va_A [(h0, .inr (9, [.null, .int 0, .int 0, .int 0, .int 0]))] sz) [(h0, .inr (9, [.ref q1, .int 0, .int 0, .int 0, .int 0]))] [] t) (va_A [(h0, .inr (9, [.null, .int 0, .int 0, .int 0, .int 0]))] sz)) 1 4096 (va_A [(h0, .inr (9, [.null, .int 0, .int 0, .int 0, .int 0]))] sz) := by
  refine Met.ofW (cc := b_Ou_init) (maxL := 1) (ret := none) (by decide) rfl ?_
  intro p e s m args below meth c s₁ B hml hv
  obtain ⟨rfl, hsz, hP, hK, hD0, hT⟩ := hv
  have hx := B.exec
  have hb := B.bytes
  have hr := B.returns
  have hown : s.vm.findClass "UnikernelHttp$Outbox" = some m.cls := findClass_of_methodNamed B.named
  have hlocks := B.notSynchronized
  have hin : meth.name = "<init>" := (name_of_methodNamed B.named B.method).1
  subst hsz
  have hD := hD0.self (sz := s.heap.size)
  have hns := ux_ns hP
  generalize hAe : va_A [(h0, .inr (9, [.null, .int 0, .int 0, .int 0, .int 0]))] s.heap.size = A at hD hns ⊢
  have hA : ∀ q : Nat, s.heap.size ≤ q → A q := fun q h => by rw [← hAe]; exact Or.inr h
  have hS : va_S A s.heap s.heap [] := va_S.rf
  have hl := lv_entry ([.ref h0]) (n := 1) (Nat.le_of_ble_eq_true rfl)
  rw [lg_entry_eq]
  generalize (lg_sl ([.ref h0]) ++ List.replicate (1 - (lg_sl ([.ref h0])).length) Slot.unset).toArray = ls at hl ⊢
  have hl : lv_has ls 1 [(0, .ref h0)] := hl
  have hfx : CallFix p m c b_Ou_init 1 s ([.ref h0] : List Value).toArray [] "UnikernelHttp$Outbox" := ⟨hx, hb, hml, hown, fun _ h => by cases h⟩
  refine lv_aload_n hx hb d_Ou_init_0 rfl (lv_at hl 0 rfl) ?_
  refine W.objInit hx hb hown (ux_T_at hT tw_267 rfl) (ux_T_at hT tw_40 rfl) (ux_T_at hT tw_41 rfl) rfl (by rw [hml]; exact hl.1) rfl d_Ou_init_1 (Nat.le_of_ble_eq_true rfl) (Nat.le_of_ble_eq_true rfl) ?_
  refine W.eq (g2 := F0 m 4 ls []) rfl ?_
  refine lv_aload_n hx hb d_Ou_init_4 rfl (lv_at hl 0 rfl) ?_
  refine lv_sipush (v := 4096) hx hb d_Ou_init_5 (by decide) ?_
  refine va_newa (atype := .byte) (ty := .byte) (N' := 4096) (a0 := (4096, .inl (fun _ => 0))) hx hb (ux_T_at hT tw_66 rfl) rfl hK hP hD hS hA (fun _ => rfl) (by decide) (by decide +kernel) (by decide +kernel) (Nat.le_of_ble_eq_true rfl) (Nat.le_of_ble_eq_true rfl) d_Ou_init_8 (fun q1 cA2 H hK hP hD hS => ?_)
  have hP : va_P (dC, dI) cls [(h0, .inr (9, [.null, .int 0, .int 0, .int 0, .int 0])), (q1, .inl (cA2, 4096, .inl (fun _ => 0)))] H := hP
  have hD : va_D A [(h0, .inr (9, [.null, .int 0, .int 0, .int 0, .int 0])), (q1, .inl (cA2, 4096, .inl (fun _ => 0)))] := hD
  have hK : va_K (dC, dI) cls [(cA2, .byte)] s := hK
  refine va_putF (D := (dC, dI)) (ci := 9) (v := .ref q1) (ty := .array .byte) (C := R_Ou) (T := F_Ou) (N := 5) hx hb (u_Ou hT) (fun _ h => h) t_Ou k_Ou n_Ou hown hK hP hD hS 0 rfl rfl 0 (by decide) (ux_T_at hT tw_268 rfl) (fun _ h9 => h9) rfl hin rfl (by decide +kernel) rfl rfl (Nat.le_of_ble_eq_true rfl) d_Ou_init_10 (fun H locs hP hD hS => ?_)
  have hP : va_P (dC, dI) cls [(h0, .inr (9, [.ref q1, .int 0, .int 0, .int 0, .int 0])), (q1, .inl (cA2, 4096, .inl (fun _ => 0)))] H := hP
  have hD : va_D A [(h0, .inr (9, [.ref q1, .int 0, .int 0, .int 0, .int 0])), (q1, .inl (cA2, 4096, .inl (fun _ => 0)))] := hD
  have hP := hP.sub (ws' := [(h0, .inr (9, [.ref q1, .int 0, .int 0, .int 0, .int 0]))]) [0] rfl
  have hD := hD.sub (ws' := [(h0, .inr (9, [.ref q1, .int 0, .int 0, .int 0, .int 0]))]) [0] (by decide) rfl
  have hP9 := hP.sub (ws' := [(h0, .inr (9, [.ref q1, .int 0, .int 0, .int 0, .int 0]))]) [0] rfl
  have hD9 := hD.sub (ws' := [(h0, .inr (9, [.ref q1, .int 0, .int 0, .int 0, .int 0]))]) [0] (by decide) rfl
  have hK9 := hK.sub (tys' := []) [] rfl
  refine W.widen (k := 1) (n := 4096) (Nat.le_of_ble_eq_true rfl) (Nat.le_of_ble_eq_true rfl) ?_
  exact W.vret hx hb hr (fun t ht hW => ⟨⟨(), rfl, trivial, q1, by rw [ht]; exact hP9, va_K.moved hW.alike hK9, hD9⟩, hS.F ht⟩) hS.2.2 d_Ou_init_13
set_option maxHeartbeats 4000000 in
set_option maxRecDepth 100000 in
theorem c_Co_init (l : Launch) (dC : Nat → ClassId) (dI : Nat → Nat → Nat) (h0 : Nat) (sz : Nat) : Met l y_Co_init [Cond.code y_Co_init b_Co_init 1 (none)] ({ frames := 40, cells := 5, slots := 8204, locals := 600 }) (ux_Pc [.ref h0] (dC, dI) cls [(h0, .inr (7, [.null, .null, .int 0, .int 0, .int 0, .int 0, .int 0, .int 0, .int 0, .int 0, .int 0, .int 0, .int 0, .int 0, .int 0, .int 0, .int 0]))] [] sz) (va_Qv (fun _ : Unit => True) (fun (_ : Unit) (t : State) => ∃ (q1 : Nat), ∃ (q2 : Nat), ux_B (dC, dI) cls (va_A [(h0, .inr (7, [.null, .null, .int 0, .int 0, .int 0, .int 0, .int 0, .int 0, .int 0, .int 0, .int 0, .int 0, .int 0, .int 0, .int 0, .int 0, .int 0]))] sz) [(h0, .inr (7, [.ref q1, .ref q2, .int 0, .int 0, .int 0, .int 0, .int 0, .int 0, .int 0, .int 0, .int 0, .int 0, .int 0, .int 0, .int 0, .int 0, .int 0]))] [] t) (va_A [(h0, .inr (7, [.null, .null, .int 0, .int 0, .int 0, .int 0, .int 0, .int 0, .int 0, .int 0, .int 0, .int 0, .int 0, .int 0, .int 0, .int 0, .int 0]))] sz)) 5 8204 (va_A [(h0, .inr (7, [.null, .null, .int 0, .int 0, .int 0, .int 0, .int 0, .int 0, .int 0, .int 0, .int 0, .int 0, .int 0, .int 0, .int 0, .int 0, .int 0]))] sz) := by
  refine Met.ofW (cc := b_Co_init) (maxL := 1) (ret := none) (by decide) rfl ?_
  intro p e s m args below meth c s₁ B hml hv
  obtain ⟨rfl, hsz, hP, hK, hD0, hT⟩ := hv
  have hx := B.exec
  have hb := B.bytes
  have hr := B.returns
  have hown : s.vm.findClass "UnikernelHttp$Connection" = some m.cls := findClass_of_methodNamed B.named
  have hlocks := B.notSynchronized
  have hin : meth.name = "<init>" := (name_of_methodNamed B.named B.method).1
  subst hsz
  have hD := hD0.self (sz := s.heap.size)
  have hns := ux_ns hP
  generalize hAe : va_A [(h0, .inr (7, [.null, .null, .int 0, .int 0, .int 0, .int 0, .int 0, .int 0, .int 0, .int 0, .int 0, .int 0, .int 0, .int 0, .int 0, .int 0, .int 0]))] s.heap.size = A at hD hns ⊢
  have hA : ∀ q : Nat, s.heap.size ≤ q → A q := fun q h => by rw [← hAe]; exact Or.inr h
  have hS : va_S A s.heap s.heap [] := va_S.rf
  have hl := lv_entry ([.ref h0]) (n := 1) (Nat.le_of_ble_eq_true rfl)
  rw [lg_entry_eq]
  generalize (lg_sl ([.ref h0]) ++ List.replicate (1 - (lg_sl ([.ref h0])).length) Slot.unset).toArray = ls at hl ⊢
  have hl : lv_has ls 1 [(0, .ref h0)] := hl
  have hfx : CallFix p m c b_Co_init 1 s ([.ref h0] : List Value).toArray [] "UnikernelHttp$Connection" := ⟨hx, hb, hml, hown, fun _ h => by cases h⟩
  refine lv_aload_n hx hb d_Co_init_0 rfl (lv_at hl 0 rfl) ?_
  refine W.objInit hx hb hown (ux_T_at hT tw_226 rfl) (ux_T_at hT tw_40 rfl) (ux_T_at hT tw_41 rfl) rfl (by rw [hml]; exact hl.1) rfl d_Co_init_1 (Nat.le_of_ble_eq_true rfl) (Nat.le_of_ble_eq_true rfl) ?_
  refine W.eq (g2 := F0 m 4 ls []) rfl ?_
  refine lv_aload_n hx hb d_Co_init_4 rfl (lv_at hl 0 rfl) ?_
  refine va_new (ci := 8) (fs := [.null, .null, .int 0, .int 0, .int 0, .int 0, .int 0]) (C := R_In) (T := F_In) (N := 7) hx hb (u_In hT) (fun _ h => h) t_In k_In hown (ux_T_at hT tw_227 rfl) (ux_T_at hT tw_228 rfl) (ux_T_at hT tw_9 rfl) hK hP hD hS hA rfl z_In (Nat.le_of_ble_eq_true rfl) (Nat.le_of_ble_eq_true rfl) d_Co_init_5 (fun q1 H hP hD hS => ?_)
  have hP : va_P (dC, dI) cls [(h0, .inr (7, [.null, .null, .int 0, .int 0, .int 0, .int 0, .int 0, .int 0, .int 0, .int 0, .int 0, .int 0, .int 0, .int 0, .int 0, .int 0, .int 0])), (q1, .inr (8, [.null, .null, .int 0, .int 0, .int 0, .int 0, .int 0]))] H := hP
  have hD : va_D A [(h0, .inr (7, [.null, .null, .int 0, .int 0, .int 0, .int 0, .int 0, .int 0, .int 0, .int 0, .int 0, .int 0, .int 0, .int 0, .int 0, .int 0, .int 0])), (q1, .inr (8, [.null, .null, .int 0, .int 0, .int 0, .int 0, .int 0]))] := hD
  refine lv_dup hx hb d_Co_init_8 rfl ?_
  have hPc := hP.sub (ws' := [(q1, .inr (8, [.null, .null, .int 0, .int 0, .int 0, .int 0, .int 0]))]) [1] rfl
  have hDc := hD.sub (ws' := [(q1, .inr (8, [.null, .null, .int 0, .int 0, .int 0, .int 0, .int 0]))]) [1] (by decide) rfl
  have hKc := hK.sub (tys' := []) [] rfl
  have hFc := va_free (wc := [(q1, .inr (8, [.null, .null, .int 0, .int 0, .int 0, .int 0, .int 0]))]) hD hS hA [1] rfl
  have hkc : 1 + 2 ≤ 5 := (Nat.le_of_ble_eq_true rfl)
  refine va_callv (va_runIN (As := []) (rest := [.ref q1, .ref h0]) hfx (c_In_init l dC dI q1 H.size) ⟨(ux_cn 0 hT tw_231 tw_229 tw_9 rfl rfl (by decide +kernel) ⟨(Nat.le_of_ble_eq_true rfl), (Nat.le_of_ble_eq_true rfl)⟩), rfl, (ux_T_at hT tw_230 rfl)⟩ (ux_pre [.ref q1] hT hPc hKc hDc) rfl rfl hl.1 rfl (lv_room (Nat.le_of_ble_eq_true rfl)) d_Co_init_9 ⟨(Nat.le_of_ble_eq_true rfl), (Nat.le_of_ble_eq_true rfl)⟩) hS (fun q _ h => hFc q h) hFc (fun u t H1 locs ht hvm hw hB hz1 hk1 hS => ?_)
  obtain ⟨q3, q4, hP1, hK1, hD1⟩ := hB
  rw [ht] at hP1
  have hK1 := va_K.moved hvm.symm hK1
  obtain ⟨hP, hD⟩ := va_join (wr := [(h0, .inr (7, [.null, .null, .int 0, .int 0, .int 0, .int 0, .int 0, .int 0, .int 0, .int 0, .int 0, .int 0, .int 0, .int 0, .int 0, .int 0, .int 0]))]) (w1 := [(q1, .inr (8, [.ref q3, .ref q4, .int 0, .int 0, .int 0, .int 0, .int 0]))]) hP hD [1] [0] rfl rfl (by decide) (by decide) hk1 hFc hP1 hD1
  have hK := (hK.sub (tys' := []) [] rfl).app hK1
  generalize H1 = H at hP hS ⊢
  have hP : va_P (dC, dI) cls [(h0, .inr (7, [.null, .null, .int 0, .int 0, .int 0, .int 0, .int 0, .int 0, .int 0, .int 0, .int 0, .int 0, .int 0, .int 0, .int 0, .int 0, .int 0])), (q1, .inr (8, [.ref q3, .ref q4, .int 0, .int 0, .int 0, .int 0, .int 0]))] H := hP
  have hD : va_D A [(h0, .inr (7, [.null, .null, .int 0, .int 0, .int 0, .int 0, .int 0, .int 0, .int 0, .int 0, .int 0, .int 0, .int 0, .int 0, .int 0, .int 0, .int 0])), (q1, .inr (8, [.ref q3, .ref q4, .int 0, .int 0, .int 0, .int 0, .int 0]))] := hD
  have hK : va_K (dC, dI) cls [] s := hK
  refine va_putF (D := (dC, dI)) (ci := 7) (v := .ref q1) (ty := .object "UnikernelHttp$Inbox") (C := R_Co) (T := F_Co) (N := 17) hx hb (u_Co hT) (fun _ h => h) t_Co k_Co n_Co hown hK hP hD hS 0 rfl rfl 0 (by decide) (ux_T_at hT tw_294 rfl) (fun _ h9 => h9) rfl hin rfl (by decide +kernel) rfl rfl (Nat.le_of_ble_eq_true rfl) d_Co_init_12 (fun H locs hP hD hS => ?_)
  have hP : va_P (dC, dI) cls [(h0, .inr (7, [.ref q1, .null, .int 0, .int 0, .int 0, .int 0, .int 0, .int 0, .int 0, .int 0, .int 0, .int 0, .int 0, .int 0, .int 0, .int 0, .int 0])), (q1, .inr (8, [.ref q3, .ref q4, .int 0, .int 0, .int 0, .int 0, .int 0]))] H := hP
  have hD : va_D A [(h0, .inr (7, [.ref q1, .null, .int 0, .int 0, .int 0, .int 0, .int 0, .int 0, .int 0, .int 0, .int 0, .int 0, .int 0, .int 0, .int 0, .int 0, .int 0])), (q1, .inr (8, [.ref q3, .ref q4, .int 0, .int 0, .int 0, .int 0, .int 0]))] := hD
  have hP := hP.sub (ws' := [(h0, .inr (7, [.ref q1, .null, .int 0, .int 0, .int 0, .int 0, .int 0, .int 0, .int 0, .int 0, .int 0, .int 0, .int 0, .int 0, .int 0, .int 0, .int 0]))]) [0] rfl
  have hD := hD.sub (ws' := [(h0, .inr (7, [.ref q1, .null, .int 0, .int 0, .int 0, .int 0, .int 0, .int 0, .int 0, .int 0, .int 0, .int 0, .int 0, .int 0, .int 0, .int 0, .int 0]))]) [0] (by decide) rfl
  refine lv_aload_n hx hb d_Co_init_15 rfl (lv_at hl 0 rfl) ?_
  refine va_new (ci := 9) (fs := [.null, .int 0, .int 0, .int 0, .int 0]) (C := R_Ou) (T := F_Ou) (N := 5) hx hb (u_Ou hT) (fun _ h => h) t_Ou k_Ou hown (ux_T_at hT tw_262 rfl) (ux_T_at hT tw_263 rfl) (ux_T_at hT tw_10 rfl) hK hP hD hS hA rfl z_Ou (Nat.le_of_ble_eq_true rfl) (Nat.le_of_ble_eq_true rfl) d_Co_init_16 (fun q5 H hP hD hS => ?_)
  have hP : va_P (dC, dI) cls [(h0, .inr (7, [.ref q1, .null, .int 0, .int 0, .int 0, .int 0, .int 0, .int 0, .int 0, .int 0, .int 0, .int 0, .int 0, .int 0, .int 0, .int 0, .int 0])), (q5, .inr (9, [.null, .int 0, .int 0, .int 0, .int 0]))] H := hP
  have hD : va_D A [(h0, .inr (7, [.ref q1, .null, .int 0, .int 0, .int 0, .int 0, .int 0, .int 0, .int 0, .int 0, .int 0, .int 0, .int 0, .int 0, .int 0, .int 0, .int 0])), (q5, .inr (9, [.null, .int 0, .int 0, .int 0, .int 0]))] := hD
  refine lv_dup hx hb d_Co_init_19 rfl ?_
  have hPc := hP.sub (ws' := [(q5, .inr (9, [.null, .int 0, .int 0, .int 0, .int 0]))]) [1] rfl
  have hDc := hD.sub (ws' := [(q5, .inr (9, [.null, .int 0, .int 0, .int 0, .int 0]))]) [1] (by decide) rfl
  have hKc := hK.sub (tys' := []) [] rfl
  have hFc := va_free (wc := [(q5, .inr (9, [.null, .int 0, .int 0, .int 0, .int 0]))]) hD hS hA [1] rfl
  have hkc : 4 + 1 ≤ 5 := (Nat.le_of_ble_eq_true rfl)
  refine va_callv (va_runIN (As := []) (rest := [.ref q5, .ref h0]) hfx (c_Ou_init l dC dI q5 H.size) ⟨(ux_cn 0 hT tw_266 tw_264 tw_10 rfl rfl (by decide +kernel) ⟨(Nat.le_of_ble_eq_true rfl), (Nat.le_of_ble_eq_true rfl)⟩), rfl, (ux_T_at hT tw_265 rfl)⟩ (ux_pre [.ref q5] hT hPc hKc hDc) rfl rfl hl.1 rfl (lv_room (Nat.le_of_ble_eq_true rfl)) d_Co_init_20 ⟨(Nat.le_of_ble_eq_true rfl), (Nat.le_of_ble_eq_true rfl)⟩) hS (fun q _ h => hFc q h) hFc (fun u t H1 locs ht hvm hw hB hz1 hk1 hS => ?_)
  obtain ⟨q7, hP1, hK1, hD1⟩ := hB
  rw [ht] at hP1
  have hK1 := va_K.moved hvm.symm hK1
  obtain ⟨hP, hD⟩ := va_join (wr := [(h0, .inr (7, [.ref q1, .null, .int 0, .int 0, .int 0, .int 0, .int 0, .int 0, .int 0, .int 0, .int 0, .int 0, .int 0, .int 0, .int 0, .int 0, .int 0]))]) (w1 := [(q5, .inr (9, [.ref q7, .int 0, .int 0, .int 0, .int 0]))]) hP hD [1] [0] rfl rfl (by decide) (by decide) hk1 hFc hP1 hD1
  have hK := (hK.sub (tys' := []) [] rfl).app hK1
  generalize H1 = H at hP hS ⊢
  have hP : va_P (dC, dI) cls [(h0, .inr (7, [.ref q1, .null, .int 0, .int 0, .int 0, .int 0, .int 0, .int 0, .int 0, .int 0, .int 0, .int 0, .int 0, .int 0, .int 0, .int 0, .int 0])), (q5, .inr (9, [.ref q7, .int 0, .int 0, .int 0, .int 0]))] H := hP
  have hD : va_D A [(h0, .inr (7, [.ref q1, .null, .int 0, .int 0, .int 0, .int 0, .int 0, .int 0, .int 0, .int 0, .int 0, .int 0, .int 0, .int 0, .int 0, .int 0, .int 0])), (q5, .inr (9, [.ref q7, .int 0, .int 0, .int 0, .int 0]))] := hD
  have hK : va_K (dC, dI) cls [] s := hK
  refine va_putF (D := (dC, dI)) (ci := 7) (v := .ref q5) (ty := .object "UnikernelHttp$Outbox") (C := R_Co) (T := F_Co) (N := 17) hx hb (u_Co hT) (fun _ h => h) t_Co k_Co n_Co hown hK hP hD hS 0 rfl rfl 1 (by decide) (ux_T_at hT tw_298 rfl) (fun _ h9 => h9) rfl hin rfl (by decide +kernel) rfl rfl (Nat.le_of_ble_eq_true rfl) d_Co_init_23 (fun H locs hP hD hS => ?_)
  have hP : va_P (dC, dI) cls [(h0, .inr (7, [.ref q1, .ref q5, .int 0, .int 0, .int 0, .int 0, .int 0, .int 0, .int 0, .int 0, .int 0, .int 0, .int 0, .int 0, .int 0, .int 0, .int 0])), (q5, .inr (9, [.ref q7, .int 0, .int 0, .int 0, .int 0]))] H := hP
  have hD : va_D A [(h0, .inr (7, [.ref q1, .ref q5, .int 0, .int 0, .int 0, .int 0, .int 0, .int 0, .int 0, .int 0, .int 0, .int 0, .int 0, .int 0, .int 0, .int 0, .int 0])), (q5, .inr (9, [.ref q7, .int 0, .int 0, .int 0, .int 0]))] := hD
  have hP := hP.sub (ws' := [(h0, .inr (7, [.ref q1, .ref q5, .int 0, .int 0, .int 0, .int 0, .int 0, .int 0, .int 0, .int 0, .int 0, .int 0, .int 0, .int 0, .int 0, .int 0, .int 0]))]) [0] rfl
  have hD := hD.sub (ws' := [(h0, .inr (7, [.ref q1, .ref q5, .int 0, .int 0, .int 0, .int 0, .int 0, .int 0, .int 0, .int 0, .int 0, .int 0, .int 0, .int 0, .int 0, .int 0, .int 0]))]) [0] (by decide) rfl
  have hP9 := hP.sub (ws' := [(h0, .inr (7, [.ref q1, .ref q5, .int 0, .int 0, .int 0, .int 0, .int 0, .int 0, .int 0, .int 0, .int 0, .int 0, .int 0, .int 0, .int 0, .int 0, .int 0]))]) [0] rfl
  have hD9 := hD.sub (ws' := [(h0, .inr (7, [.ref q1, .ref q5, .int 0, .int 0, .int 0, .int 0, .int 0, .int 0, .int 0, .int 0, .int 0, .int 0, .int 0, .int 0, .int 0, .int 0, .int 0]))]) [0] (by decide) rfl
  have hK9 := hK.sub (tys' := []) [] rfl
  refine W.widen (k := 5) (n := 8204) (Nat.le_of_ble_eq_true rfl) (Nat.le_of_ble_eq_true rfl) ?_
  exact W.vret hx hb hr (fun t ht hW => ⟨⟨(), rfl, trivial, q1, q5, by rw [ht]; exact hP9, va_K.moved hW.alike hK9, hD9⟩, hS.F ht⟩) hS.2.2 d_Co_init_26
end
section
/-! Which words the rows behind use, by their places. -/
theorem tw_8 : (Jvm.Cond.initialized "UnikernelHttp$Connection") ∈ lw_tbl := ux_in 8 ux_t1 rfl
theorem tw_219 : (Jvm.Cond.methodLink "UnikernelHttp$Tcp" (3 : Nat) ({ cls := "java/lang/Object", name := "<init>", desc := "()V" } : Jvm.MethodName)) ∈ lw_tbl := ux_in 219 ux_t1 rfl
theorem tw_220 : (Jvm.Cond.classLink "UnikernelHttp$Tcp" (9 : Nat) "UnikernelHttp$Connection") ∈ lw_tbl := ux_in 220 ux_t1 rfl
theorem tw_221 : (Jvm.Cond.arrayOver (Jvm.ClassFile.FieldType.object "UnikernelHttp$Connection")) ∈ lw_tbl := ux_in 221 ux_t1 rfl
theorem tw_222 : (Jvm.Cond.instantiable "UnikernelHttp$Connection" (17 : Nat)) ∈ lw_tbl := ux_in 222 ux_t1 rfl
theorem tw_223 : (Jvm.Cond.methodLinkNest "UnikernelHttp$Tcp" (25 : Nat) ({ cls := "UnikernelHttp$Connection", name := "<init>", desc := "()V" } : Jvm.MethodName) "UnikernelHttp") ∈ lw_tbl := ux_in 223 ux_t1 rfl
theorem tw_224 : (Jvm.Cond.instanceMethod ({ cls := "UnikernelHttp$Connection", name := "<init>", desc := "()V" } : Jvm.MethodName)) ∈ lw_tbl := ux_in 224 ux_t1 rfl
theorem tw_225 : (Jvm.Cond.code ({ cls := "UnikernelHttp$Connection", name := "<init>", desc := "()V" } : Jvm.MethodName) prog_2_method_1_code (1 : Nat) (Option.none : Option Jvm.ClassFile.FieldType)) ∈ lw_tbl := ux_in 225 ux_t1 rfl
theorem tw_370 : (Jvm.Cond.fieldLink "UnikernelHttp$Tcp" (11 : Nat) "UnikernelHttp$Tcp" "list" "[LUnikernelHttp$Connection;") ∈ lw_tbl := ux_in 130 ux_t2 rfl
theorem tw_371 : (Jvm.Cond.fieldLink "UnikernelHttp$Tcp" (17 : Nat) "UnikernelHttp$Tcp" "body" "[B") ∈ lw_tbl := ux_in 131 ux_t2 rfl
theorem tw_372 : (Jvm.Cond.fieldLink "UnikernelHttp$Tcp" (21 : Nat) "UnikernelHttp$Tcp" "wire" "LUnikernelHttp$Wire;") ∈ lw_tbl := ux_in 132 ux_t2 rfl
theorem tw_393 : (Jvm.Cond.methodLink "UnikernelHttp$Store" (3 : Nat) ({ cls := "java/lang/Object", name := "<init>", desc := "()V" } : Jvm.MethodName)) ∈ lw_tbl := ux_in 153 ux_t2 rfl
theorem tw_394 : (Jvm.Cond.classLink "UnikernelHttp$Store" (9 : Nat) "[[B") ∈ lw_tbl := ux_in 154 ux_t2 rfl
theorem tw_395 : (Jvm.Cond.arrayOver (Jvm.ClassFile.FieldType.array Jvm.ClassFile.FieldType.byte)) ∈ lw_tbl := ux_in 155 ux_t2 rfl
theorem tw_396 : (Jvm.Cond.fieldLink "UnikernelHttp$Store" (11 : Nat) "UnikernelHttp$Store" "targets" "[[B") ∈ lw_tbl := ux_in 156 ux_t2 rfl
theorem tw_397 : (Jvm.Cond.fieldLink "UnikernelHttp$Store" (16 : Nat) "UnikernelHttp$Store" "targetLengths" "[I") ∈ lw_tbl := ux_in 157 ux_t2 rfl
theorem tw_398 : (Jvm.Cond.fieldLink "UnikernelHttp$Store" (20 : Nat) "UnikernelHttp$Store" "contents" "[[B") ∈ lw_tbl := ux_in 158 ux_t2 rfl
theorem tw_401 : (Jvm.Cond.fieldLink "UnikernelHttp$Store" (23 : Nat) "UnikernelHttp$Store" "lengths" "[I") ∈ lw_tbl := ux_in 161 ux_t2 rfl
theorem tw_404 : (Jvm.Cond.fieldLink "UnikernelHttp$Store" (26 : Nat) "UnikernelHttp$Store" "sums" "[I") ∈ lw_tbl := ux_in 164 ux_t2 rfl
theorem tw_426 : (Jvm.Cond.methodLink "UnikernelHttp$Http" (3 : Nat) ({ cls := "java/lang/Object", name := "<init>", desc := "()V" } : Jvm.MethodName)) ∈ lw_tbl := ux_in 186 ux_t2 rfl
theorem tw_427 : (Jvm.Cond.fieldLink "UnikernelHttp$Http" (15 : Nat) "UnikernelHttp$Http" "store" "LUnikernelHttp$Store;") ∈ lw_tbl := ux_in 187 ux_t2 rfl
theorem tw_428 : (Jvm.Cond.fieldLink "UnikernelHttp$Http" (9 : Nat) "UnikernelHttp$Http" "answer" "[B") ∈ lw_tbl := ux_in 188 ux_t2 rfl
abbrev b_Tc_init : ByteArray := prog_11_method_1_code
abbrev y_Tc_init : MethodName := ⟨"UnikernelHttp$Tcp", "<init>", "(LUnikernelHttp$Wire;)V"⟩
theorem d_Tc_init_0 : decode b_Tc_init 0 = .ok (.aload_n 0, 1) := by decide +kernel
theorem d_Tc_init_1 : decode b_Tc_init 1 = .ok (.invokespecial 3, 3) := by decide +kernel
theorem d_Tc_init_4 : decode b_Tc_init 4 = .ok (.aload_n 0, 1) := by decide +kernel
theorem d_Tc_init_5 : decode b_Tc_init 5 = .ok (.bipush 8, 2) := by decide +kernel
theorem d_Tc_init_7 : decode b_Tc_init 7 = .ok (.anewarray 9, 3) := by decide +kernel
theorem d_Tc_init_10 : decode b_Tc_init 10 = .ok (.putfield 11, 3) := by decide +kernel
theorem d_Tc_init_13 : decode b_Tc_init 13 = .ok (.aload_n 0, 1) := by decide +kernel
theorem d_Tc_init_14 : decode b_Tc_init 14 = .ok (.sipush 560, 3) := by decide +kernel
theorem d_Tc_init_17 : decode b_Tc_init 17 = .ok (.newarray .byte, 2) := by decide +kernel
theorem d_Tc_init_19 : decode b_Tc_init 19 = .ok (.putfield 17, 3) := by decide +kernel
theorem d_Tc_init_22 : decode b_Tc_init 22 = .ok (.aload_n 0, 1) := by decide +kernel
theorem d_Tc_init_23 : decode b_Tc_init 23 = .ok (.aload_n 1, 1) := by decide +kernel
theorem d_Tc_init_24 : decode b_Tc_init 24 = .ok (.putfield 21, 3) := by decide +kernel
theorem d_Tc_init_27 : decode b_Tc_init 27 = .ok (.iconst 0, 1) := by decide +kernel
theorem d_Tc_init_28 : decode b_Tc_init 28 = .ok (.istore_n 2, 1) := by decide +kernel
theorem d_Tc_init_29 : decode b_Tc_init 29 = .ok (.iload_n 2, 1) := by decide +kernel
theorem d_Tc_init_30 : decode b_Tc_init 30 = .ok (.bipush 8, 2) := by decide +kernel
theorem d_Tc_init_32 : decode b_Tc_init 32 = .ok (.if_icmp .ge 22, 3) := by decide +kernel
theorem d_Tc_init_35 : decode b_Tc_init 35 = .ok (.aload_n 0, 1) := by decide +kernel
theorem d_Tc_init_36 : decode b_Tc_init 36 = .ok (.getfield 11, 3) := by decide +kernel
theorem d_Tc_init_39 : decode b_Tc_init 39 = .ok (.iload_n 2, 1) := by decide +kernel
theorem d_Tc_init_40 : decode b_Tc_init 40 = .ok (.new 9, 3) := by decide +kernel
theorem d_Tc_init_43 : decode b_Tc_init 43 = .ok (.dup, 1) := by decide +kernel
theorem d_Tc_init_44 : decode b_Tc_init 44 = .ok (.invokespecial 25, 3) := by decide +kernel
theorem d_Tc_init_47 : decode b_Tc_init 47 = .ok (.aastore, 1) := by decide +kernel
theorem d_Tc_init_48 : decode b_Tc_init 48 = .ok (.iinc 2 1, 3) := by decide +kernel
theorem d_Tc_init_51 : decode b_Tc_init 51 = .ok (.goto (-22), 3) := by decide +kernel
theorem d_Tc_init_54 : decode b_Tc_init 54 = .ok (.return_, 1) := by decide +kernel
abbrev b_So_init : ByteArray := prog_10_method_1_code
abbrev y_So_init : MethodName := ⟨"UnikernelHttp$Store", "<init>", "()V"⟩
theorem d_So_init_0 : decode b_So_init 0 = .ok (.aload_n 0, 1) := by decide +kernel
theorem d_So_init_1 : decode b_So_init 1 = .ok (.invokespecial 3, 3) := by decide +kernel
theorem d_So_init_4 : decode b_So_init 4 = .ok (.aload_n 0, 1) := by decide +kernel
theorem d_So_init_5 : decode b_So_init 5 = .ok (.bipush 32, 2) := by decide +kernel
theorem d_So_init_7 : decode b_So_init 7 = .ok (.bipush 64, 2) := by decide +kernel
theorem d_So_init_9 : decode b_So_init 9 = .ok (.multianewarray 9 2, 4) := by decide +kernel
theorem d_So_init_13 : decode b_So_init 13 = .ok (.putfield 11, 3) := by decide +kernel
theorem d_So_init_16 : decode b_So_init 16 = .ok (.aload_n 0, 1) := by decide +kernel
theorem d_So_init_17 : decode b_So_init 17 = .ok (.bipush 32, 2) := by decide +kernel
theorem d_So_init_19 : decode b_So_init 19 = .ok (.newarray .int, 2) := by decide +kernel
theorem d_So_init_21 : decode b_So_init 21 = .ok (.putfield 16, 3) := by decide +kernel
theorem d_So_init_24 : decode b_So_init 24 = .ok (.aload_n 0, 1) := by decide +kernel
theorem d_So_init_25 : decode b_So_init 25 = .ok (.bipush 32, 2) := by decide +kernel
theorem d_So_init_27 : decode b_So_init 27 = .ok (.sipush 1500, 3) := by decide +kernel
theorem d_So_init_30 : decode b_So_init 30 = .ok (.multianewarray 9 2, 4) := by decide +kernel
theorem d_So_init_34 : decode b_So_init 34 = .ok (.putfield 20, 3) := by decide +kernel
theorem d_So_init_37 : decode b_So_init 37 = .ok (.aload_n 0, 1) := by decide +kernel
theorem d_So_init_38 : decode b_So_init 38 = .ok (.bipush 32, 2) := by decide +kernel
theorem d_So_init_40 : decode b_So_init 40 = .ok (.newarray .int, 2) := by decide +kernel
theorem d_So_init_42 : decode b_So_init 42 = .ok (.putfield 23, 3) := by decide +kernel
theorem d_So_init_45 : decode b_So_init 45 = .ok (.aload_n 0, 1) := by decide +kernel
theorem d_So_init_46 : decode b_So_init 46 = .ok (.bipush 32, 2) := by decide +kernel
theorem d_So_init_48 : decode b_So_init 48 = .ok (.newarray .int, 2) := by decide +kernel
theorem d_So_init_50 : decode b_So_init 50 = .ok (.putfield 26, 3) := by decide +kernel
theorem d_So_init_53 : decode b_So_init 53 = .ok (.return_, 1) := by decide +kernel
abbrev b_Ht_init : ByteArray := prog_5_method_1_code
abbrev y_Ht_init : MethodName := ⟨"UnikernelHttp$Http", "<init>", "(LUnikernelHttp$Store;)V"⟩
theorem d_Ht_init_0 : decode b_Ht_init 0 = .ok (.aload_n 0, 1) := by decide +kernel
theorem d_Ht_init_1 : decode b_Ht_init 1 = .ok (.invokespecial 3, 3) := by decide +kernel
theorem d_Ht_init_4 : decode b_Ht_init 4 = .ok (.aload_n 0, 1) := by decide +kernel
theorem d_Ht_init_5 : decode b_Ht_init 5 = .ok (.sipush 1700, 3) := by decide +kernel
theorem d_Ht_init_8 : decode b_Ht_init 8 = .ok (.newarray .byte, 2) := by decide +kernel
theorem d_Ht_init_10 : decode b_Ht_init 10 = .ok (.putfield 9, 3) := by decide +kernel
theorem d_Ht_init_13 : decode b_Ht_init 13 = .ok (.aload_n 0, 1) := by decide +kernel
theorem d_Ht_init_14 : decode b_Ht_init 14 = .ok (.aload_n 1, 1) := by decide +kernel
theorem d_Ht_init_15 : decode b_Ht_init 15 = .ok (.putfield 15, 3) := by decide +kernel
theorem d_Ht_init_18 : decode b_Ht_init 18 = .ok (.return_, 1) := by decide +kernel
set_option maxHeartbeats 4000000 in
set_option maxRecDepth 100000 in
theorem c_Tc_init (l : Launch) (dC : Nat → ClassId) (dI : Nat → Nat → Nat) (h0 : Nat) (wi : Nat) (sz : Nat) : Met l y_Tc_init [Cond.code y_Tc_init b_Tc_init 3 (none)] ({ frames := 60, cells := 50, slots := 66336, locals := 900 }) (ux_Pc [.ref h0, .ref wi] (dC, dI) cls [(h0, .inr (6, [.null, .null, .null, .int 0, .int 0]))] [] sz) (va_Qv (fun _ : Unit => True) (fun (_ : Unit) (t : State) => ∃ (q1 : Nat), ∃ (q2 : Nat), ux_B (dC, dI) cls (va_A [(h0, .inr (6, [.null, .null, .null, .int 0, .int 0]))] sz) [(h0, .inr (6, [.ref q1, .ref q2, .ref wi, .int 0, .int 0]))] [] t) (va_A [(h0, .inr (6, [.null, .null, .null, .int 0, .int 0]))] sz)) 50 66336 (va_A [(h0, .inr (6, [.null, .null, .null, .int 0, .int 0]))] sz) := by
  refine Met.ofW (cc := b_Tc_init) (maxL := 3) (ret := none) (by decide) rfl ?_
  intro p e s m args below meth c s₁ B hml hv
  obtain ⟨rfl, hsz, hP, hK, hD0, hT⟩ := hv
  have hx := B.exec
  have hb := B.bytes
  have hr := B.returns
  have hown : s.vm.findClass "UnikernelHttp$Tcp" = some m.cls := findClass_of_methodNamed B.named
  have hlocks := B.notSynchronized
  have hin : meth.name = "<init>" := (name_of_methodNamed B.named B.method).1
  subst hsz
  have hD := hD0.self (sz := s.heap.size)
  have hns := ux_ns hP
  generalize hAe : va_A [(h0, .inr (6, [.null, .null, .null, .int 0, .int 0]))] s.heap.size = A at hD hns ⊢
  have hA : ∀ q : Nat, s.heap.size ≤ q → A q := fun q h => by rw [← hAe]; exact Or.inr h
  have hS : va_S A s.heap s.heap [] := va_S.rf
  have hl := lv_entry ([.ref h0, .ref wi]) (n := 3) (Nat.le_of_ble_eq_true rfl)
  rw [lg_entry_eq]
  generalize (lg_sl ([.ref h0, .ref wi]) ++ List.replicate (3 - (lg_sl ([.ref h0, .ref wi])).length) Slot.unset).toArray = ls at hl ⊢
  have hl : lv_has ls 3 [(0, .ref h0), (1, .ref wi)] := hl
  have hfx : CallFix p m c b_Tc_init 3 s ([.ref h0, .ref wi] : List Value).toArray [] "UnikernelHttp$Tcp" := ⟨hx, hb, hml, hown, fun _ h => by cases h⟩
  refine lv_aload_n hx hb d_Tc_init_0 rfl (lv_at hl 0 rfl) ?_
  refine W.objInit hx hb hown (ux_T_at hT tw_219 rfl) (ux_T_at hT tw_40 rfl) (ux_T_at hT tw_41 rfl) rfl (by rw [hml]; exact hl.1) rfl d_Tc_init_1 (Nat.le_of_ble_eq_true rfl) (Nat.le_of_ble_eq_true rfl) ?_
  refine W.eq (g2 := F0 m 4 ls []) rfl ?_
  refine lv_aload_n hx hb d_Tc_init_4 rfl (lv_at hl 0 rfl) ?_
  refine lv_bipush (v := 8) hx hb d_Tc_init_5 (by decide) ?_
  refine va_newq (own := "UnikernelHttp$Tcp") (C := "UnikernelHttp$Connection") (N' := 8) hx hb hown (ux_T_at hT tw_220 rfl) (va_AO.of (ux_T_at hT tw_221 rfl (A := #[]))) hK hP hD hS hA (by decide) (by decide) (by decide) (Nat.le_of_ble_eq_true rfl) (Nat.le_of_ble_eq_true rfl) d_Tc_init_7 (fun q1 cA2 H hK hP hD hS => ?_)
  have hP : va_P (dC, dI) cls [(h0, .inr (6, [.null, .null, .null, .int 0, .int 0])), (q1, .inl (cA2, 8, .inr (.inr (.inr (.inr (fun _ => none))))))] H := hP
  have hD : va_D A [(h0, .inr (6, [.null, .null, .null, .int 0, .int 0])), (q1, .inl (cA2, 8, .inr (.inr (.inr (.inr (fun _ => none))))))] := hD
  have hK : va_K (dC, dI) cls [(cA2, .object "UnikernelHttp$Connection")] s := hK
  refine va_putF (D := (dC, dI)) (ci := 6) (v := .ref q1) (ty := .array (.object "UnikernelHttp$Connection")) (C := R_Tc) (T := F_Tc) (N := 5) hx hb (u_Tc hT) (fun _ h => h) t_Tc k_Tc n_Tc hown hK hP hD hS 0 rfl rfl 0 (by decide) (ux_T_at hT tw_370 rfl) (fun _ h9 => h9) rfl hin rfl (by decide +kernel) rfl rfl (Nat.le_of_ble_eq_true rfl) d_Tc_init_10 (fun H locs hP hD hS => ?_)
  have hP : va_P (dC, dI) cls [(h0, .inr (6, [.ref q1, .null, .null, .int 0, .int 0])), (q1, .inl (cA2, 8, .inr (.inr (.inr (.inr (fun _ => none))))))] H := hP
  have hD : va_D A [(h0, .inr (6, [.ref q1, .null, .null, .int 0, .int 0])), (q1, .inl (cA2, 8, .inr (.inr (.inr (.inr (fun _ => none))))))] := hD
  refine lv_aload_n hx hb d_Tc_init_13 rfl (lv_at hl 0 rfl) ?_
  refine lv_sipush (v := 560) hx hb d_Tc_init_14 (by decide) ?_
  refine va_newa (atype := .byte) (ty := .byte) (N' := 560) (a0 := (560, .inl (fun _ => 0))) hx hb (ux_T_at hT tw_66 rfl) rfl hK hP hD hS hA (fun _ => rfl) (by decide) (by decide +kernel) (by decide +kernel) (Nat.le_of_ble_eq_true rfl) (Nat.le_of_ble_eq_true rfl) d_Tc_init_17 (fun q3 cA4 H hK hP hD hS => ?_)
  have hP : va_P (dC, dI) cls [(h0, .inr (6, [.ref q1, .null, .null, .int 0, .int 0])), (q1, .inl (cA2, 8, .inr (.inr (.inr (.inr (fun _ => none)))))), (q3, .inl (cA4, 560, .inl (fun _ => 0)))] H := hP
  have hD : va_D A [(h0, .inr (6, [.ref q1, .null, .null, .int 0, .int 0])), (q1, .inl (cA2, 8, .inr (.inr (.inr (.inr (fun _ => none)))))), (q3, .inl (cA4, 560, .inl (fun _ => 0)))] := hD
  have hK : va_K (dC, dI) cls [(cA2, .object "UnikernelHttp$Connection"), (cA4, .byte)] s := hK
  refine va_putF (D := (dC, dI)) (ci := 6) (v := .ref q3) (ty := .array .byte) (C := R_Tc) (T := F_Tc) (N := 5) hx hb (u_Tc hT) (fun _ h => h) t_Tc k_Tc n_Tc hown hK hP hD hS 0 rfl rfl 1 (by decide) (ux_T_at hT tw_371 rfl) (fun _ h9 => h9) rfl hin rfl (by decide +kernel) rfl rfl (Nat.le_of_ble_eq_true rfl) d_Tc_init_19 (fun H locs hP hD hS => ?_)
  have hP : va_P (dC, dI) cls [(h0, .inr (6, [.ref q1, .ref q3, .null, .int 0, .int 0])), (q1, .inl (cA2, 8, .inr (.inr (.inr (.inr (fun _ => none)))))), (q3, .inl (cA4, 560, .inl (fun _ => 0)))] H := hP
  have hD : va_D A [(h0, .inr (6, [.ref q1, .ref q3, .null, .int 0, .int 0])), (q1, .inl (cA2, 8, .inr (.inr (.inr (.inr (fun _ => none)))))), (q3, .inl (cA4, 560, .inl (fun _ => 0)))] := hD
  have hP := hP.sub (ws' := [(h0, .inr (6, [.ref q1, .ref q3, .null, .int 0, .int 0])), (q1, .inl (cA2, 8, .inr (.inr (.inr (.inr (fun _ => none))))))]) [0, 1] rfl
  have hD := hD.sub (ws' := [(h0, .inr (6, [.ref q1, .ref q3, .null, .int 0, .int 0])), (q1, .inl (cA2, 8, .inr (.inr (.inr (.inr (fun _ => none))))))]) [0, 1] (by decide) rfl
  refine lv_aload_n hx hb d_Tc_init_22 rfl (lv_at hl 0 rfl) ?_
  refine lv_aload_n hx hb d_Tc_init_23 rfl (lv_at hl 1 rfl) ?_
  refine va_putF (D := (dC, dI)) (ci := 6) (v := .ref wi) (ty := .object "UnikernelHttp$Wire") (C := R_Tc) (T := F_Tc) (N := 5) hx hb (u_Tc hT) (fun _ h => h) t_Tc k_Tc n_Tc hown hK hP hD hS 0 rfl rfl 2 (by decide) (ux_T_at hT tw_372 rfl) (fun _ h9 => h9) rfl hin rfl (by decide +kernel) rfl rfl (Nat.le_of_ble_eq_true rfl) d_Tc_init_24 (fun H locs hP hD hS => ?_)
  have hP : va_P (dC, dI) cls [(h0, .inr (6, [.ref q1, .ref q3, .ref wi, .int 0, .int 0])), (q1, .inl (cA2, 8, .inr (.inr (.inr (.inr (fun _ => none))))))] H := hP
  have hD : va_D A [(h0, .inr (6, [.ref q1, .ref q3, .ref wi, .int 0, .int 0])), (q1, .inl (cA2, 8, .inr (.inr (.inr (.inr (fun _ => none))))))] := hD
  refine lv_iconst (v := 0) hx hb d_Tc_init_27 (by decide) ?_
  refine lv_istore_n hx hb d_Tc_init_28 rfl hl (by decide) rfl (fun ls hl => ?_)
  have hl : lv_has ls 3 [(2, .int 0), (0, .ref h0), (1, .ref wi)] := hl
  refine lv_iload_n hx hb d_Tc_init_29 rfl (lv_at hl 0 rfl) ?_
  refine lv_bipush (v := 8) hx hb d_Tc_init_30 (by decide) ?_
  refine lv_icmp_ge (tgt := 54) hx hb d_Tc_init_32 (by decide) (fun hc => absurd hc (by decide)) (fun _ => ?_)
  refine lv_aload_n hx hb d_Tc_init_35 rfl (lv_at hl 1 rfl) ?_
  refine va_get (D := (dC, dI)) (ci := 6) (v := .ref q1) (C := R_Tc) (T := F_Tc) (N := 5) hx hb (u_Tc hT) (fun _ h => h) hown hK hP 0 rfl rfl 0 (by decide) (ux_T_at hT tw_370 rfl) (fun _ h9 => h9) rfl d_Tc_init_36 ?_
  refine lv_iload_n hx hb d_Tc_init_39 rfl (lv_at hl 0 rfl) ?_
  refine va_new (ci := 7) (fs := [.null, .null, .int 0, .int 0, .int 0, .int 0, .int 0, .int 0, .int 0, .int 0, .int 0, .int 0, .int 0, .int 0, .int 0, .int 0, .int 0]) (C := R_Co) (T := F_Co) (N := 17) hx hb (u_Co hT) (fun _ h => h) t_Co k_Co hown (ux_T_at hT tw_220 rfl) (ux_T_at hT tw_222 rfl) (ux_T_at hT tw_8 rfl) hK hP hD hS hA rfl z_Co (Nat.le_of_ble_eq_true rfl) (Nat.le_of_ble_eq_true rfl) d_Tc_init_40 (fun q5 H hP hD hS => ?_)
  have hP : va_P (dC, dI) cls [(h0, .inr (6, [.ref q1, .ref q3, .ref wi, .int 0, .int 0])), (q1, .inl (cA2, 8, .inr (.inr (.inr (.inr (fun _ => none)))))), (q5, .inr (7, [.null, .null, .int 0, .int 0, .int 0, .int 0, .int 0, .int 0, .int 0, .int 0, .int 0, .int 0, .int 0, .int 0, .int 0, .int 0, .int 0]))] H := hP
  have hD : va_D A [(h0, .inr (6, [.ref q1, .ref q3, .ref wi, .int 0, .int 0])), (q1, .inl (cA2, 8, .inr (.inr (.inr (.inr (fun _ => none)))))), (q5, .inr (7, [.null, .null, .int 0, .int 0, .int 0, .int 0, .int 0, .int 0, .int 0, .int 0, .int 0, .int 0, .int 0, .int 0, .int 0, .int 0, .int 0]))] := hD
  refine lv_dup hx hb d_Tc_init_43 rfl ?_
  have hPc := hP.sub (ws' := [(q5, .inr (7, [.null, .null, .int 0, .int 0, .int 0, .int 0, .int 0, .int 0, .int 0, .int 0, .int 0, .int 0, .int 0, .int 0, .int 0, .int 0, .int 0]))]) [2] rfl
  have hDc := hD.sub (ws' := [(q5, .inr (7, [.null, .null, .int 0, .int 0, .int 0, .int 0, .int 0, .int 0, .int 0, .int 0, .int 0, .int 0, .int 0, .int 0, .int 0, .int 0, .int 0]))]) [2] (by decide) rfl
  have hKc := hK.sub (tys' := []) [] rfl
  have hFc := va_free (wc := [(q5, .inr (7, [.null, .null, .int 0, .int 0, .int 0, .int 0, .int 0, .int 0, .int 0, .int 0, .int 0, .int 0, .int 0, .int 0, .int 0, .int 0, .int 0]))]) hD hS hA [2] rfl
  have hkc : 3 + 5 ≤ 50 := (Nat.le_of_ble_eq_true rfl)
  refine va_callv (va_runIN (As := []) (rest := [.ref q5, .int 0, .ref q1]) hfx (c_Co_init l dC dI q5 H.size) ⟨(ux_cn 0 hT tw_225 tw_223 tw_8 rfl rfl (by decide +kernel) ⟨(Nat.le_of_ble_eq_true rfl), (Nat.le_of_ble_eq_true rfl)⟩), rfl, (ux_T_at hT tw_224 rfl)⟩ (ux_pre [.ref q5] hT hPc hKc hDc) rfl rfl hl.1 rfl (lv_room (Nat.le_of_ble_eq_true rfl)) d_Tc_init_44 ⟨(Nat.le_of_ble_eq_true rfl), (Nat.le_of_ble_eq_true rfl)⟩) hS (fun q _ h => hFc q h) hFc (fun u t H1 locs ht hvm hw hB hz1 hk1 hS => ?_)
  obtain ⟨q7, q8, hP1, hK1, hD1⟩ := hB
  rw [ht] at hP1
  have hK1 := va_K.moved hvm.symm hK1
  obtain ⟨hP, hD⟩ := va_join (wr := [(h0, .inr (6, [.ref q1, .ref q3, .ref wi, .int 0, .int 0])), (q1, .inl (cA2, 8, .inr (.inr (.inr (.inr (fun _ => none))))))]) (w1 := [(q5, .inr (7, [.ref q7, .ref q8, .int 0, .int 0, .int 0, .int 0, .int 0, .int 0, .int 0, .int 0, .int 0, .int 0, .int 0, .int 0, .int 0, .int 0, .int 0]))]) hP hD [2] [0, 1] rfl rfl (by decide) (by decide) hk1 hFc hP1 hD1
  have hK := (hK.sub (tys' := [(cA2, .object "UnikernelHttp$Connection"), (cA4, .byte)]) [0, 1] rfl).app hK1
  generalize H1 = H at hP hS ⊢
  have hP : va_P (dC, dI) cls [(h0, .inr (6, [.ref q1, .ref q3, .ref wi, .int 0, .int 0])), (q1, .inl (cA2, 8, .inr (.inr (.inr (.inr (fun _ => none)))))), (q5, .inr (7, [.ref q7, .ref q8, .int 0, .int 0, .int 0, .int 0, .int 0, .int 0, .int 0, .int 0, .int 0, .int 0, .int 0, .int 0, .int 0, .int 0, .int 0]))] H := hP
  have hD : va_D A [(h0, .inr (6, [.ref q1, .ref q3, .ref wi, .int 0, .int 0])), (q1, .inl (cA2, 8, .inr (.inr (.inr (.inr (fun _ => none)))))), (q5, .inr (7, [.ref q7, .ref q8, .int 0, .int 0, .int 0, .int 0, .int 0, .int 0, .int 0, .int 0, .int 0, .int 0, .int 0, .int 0, .int 0, .int 0, .int 0]))] := hD
  have hK : va_K (dC, dI) cls [(cA2, .object "UnikernelHttp$Connection"), (cA4, .byte)] s := hK
  refine va_astq hx hb hK hP hD hS 1 0 2 7 rfl rfl rfl rfl (show ¬ ((0 : Int32) < 0 ∨ 8 ≤ (0 : Int32).toNatClampNeg) by decide) d_Tc_init_47 (fun H locs hP hD hS => ?_)
  have hP : va_P (dC, dI) cls [(h0, .inr (6, [.ref q1, .ref q3, .ref wi, .int 0, .int 0])), (q1, .inl (cA2, 8, .inr (.inr (.inr (.inr (va_up (fun _ => none) (0 : Int32).toNatClampNeg (some q5))))))), (q5, .inr (7, [.ref q7, .ref q8, .int 0, .int 0, .int 0, .int 0, .int 0, .int 0, .int 0, .int 0, .int 0, .int 0, .int 0, .int 0, .int 0, .int 0, .int 0]))] H := hP
  have hD : va_D A [(h0, .inr (6, [.ref q1, .ref q3, .ref wi, .int 0, .int 0])), (q1, .inl (cA2, 8, .inr (.inr (.inr (.inr (va_up (fun _ => none) (0 : Int32).toNatClampNeg (some q5))))))), (q5, .inr (7, [.ref q7, .ref q8, .int 0, .int 0, .int 0, .int 0, .int 0, .int 0, .int 0, .int 0, .int 0, .int 0, .int 0, .int 0, .int 0, .int 0, .int 0]))] := hD
  generalize va_up (fun _ => none) (0 : Int32).toNatClampNeg (some q5) = f9 at hP hD
  have hP := hP.sub (ws' := [(h0, .inr (6, [.ref q1, .ref q3, .ref wi, .int 0, .int 0])), (q1, .inl (cA2, 8, .inr (.inr (.inr (.inr f9)))))]) [0, 1] rfl
  have hD := hD.sub (ws' := [(h0, .inr (6, [.ref q1, .ref q3, .ref wi, .int 0, .int 0])), (q1, .inl (cA2, 8, .inr (.inr (.inr (.inr f9)))))]) [0, 1] (by decide) rfl
  refine lv_iinc (v := 1) hx hb d_Tc_init_48 hl (k := 0) rfl (by decide) (by decide) rfl (fun ls hl => ?_)
  have hl : lv_has ls 3 [(2, .int 1), (0, .ref h0), (1, .ref wi)] := hl
  refine lv_goto hx hb d_Tc_init_51 (tgt := 29) (by decide) ?_
  refine lv_iload_n hx hb d_Tc_init_29 rfl (lv_at hl 0 rfl) ?_
  refine lv_bipush (v := 8) hx hb d_Tc_init_30 (by decide) ?_
  refine lv_icmp_ge (tgt := 54) hx hb d_Tc_init_32 (by decide) (fun hc => absurd hc (by decide)) (fun _ => ?_)
  refine lv_aload_n hx hb d_Tc_init_35 rfl (lv_at hl 1 rfl) ?_
  refine va_get (D := (dC, dI)) (ci := 6) (v := .ref q1) (C := R_Tc) (T := F_Tc) (N := 5) hx hb (u_Tc hT) (fun _ h => h) hown hK hP 0 rfl rfl 0 (by decide) (ux_T_at hT tw_370 rfl) (fun _ h9 => h9) rfl d_Tc_init_36 ?_
  refine lv_iload_n hx hb d_Tc_init_39 rfl (lv_at hl 0 rfl) ?_
  refine va_new (ci := 7) (fs := [.null, .null, .int 0, .int 0, .int 0, .int 0, .int 0, .int 0, .int 0, .int 0, .int 0, .int 0, .int 0, .int 0, .int 0, .int 0, .int 0]) (C := R_Co) (T := F_Co) (N := 17) hx hb (u_Co hT) (fun _ h => h) t_Co k_Co hown (ux_T_at hT tw_220 rfl) (ux_T_at hT tw_222 rfl) (ux_T_at hT tw_8 rfl) hK hP hD hS hA rfl z_Co (Nat.le_of_ble_eq_true rfl) (Nat.le_of_ble_eq_true rfl) d_Tc_init_40 (fun q10 H hP hD hS => ?_)
  have hP : va_P (dC, dI) cls [(h0, .inr (6, [.ref q1, .ref q3, .ref wi, .int 0, .int 0])), (q1, .inl (cA2, 8, .inr (.inr (.inr (.inr f9))))), (q10, .inr (7, [.null, .null, .int 0, .int 0, .int 0, .int 0, .int 0, .int 0, .int 0, .int 0, .int 0, .int 0, .int 0, .int 0, .int 0, .int 0, .int 0]))] H := hP
  have hD : va_D A [(h0, .inr (6, [.ref q1, .ref q3, .ref wi, .int 0, .int 0])), (q1, .inl (cA2, 8, .inr (.inr (.inr (.inr f9))))), (q10, .inr (7, [.null, .null, .int 0, .int 0, .int 0, .int 0, .int 0, .int 0, .int 0, .int 0, .int 0, .int 0, .int 0, .int 0, .int 0, .int 0, .int 0]))] := hD
  refine lv_dup hx hb d_Tc_init_43 rfl ?_
  have hPc := hP.sub (ws' := [(q10, .inr (7, [.null, .null, .int 0, .int 0, .int 0, .int 0, .int 0, .int 0, .int 0, .int 0, .int 0, .int 0, .int 0, .int 0, .int 0, .int 0, .int 0]))]) [2] rfl
  have hDc := hD.sub (ws' := [(q10, .inr (7, [.null, .null, .int 0, .int 0, .int 0, .int 0, .int 0, .int 0, .int 0, .int 0, .int 0, .int 0, .int 0, .int 0, .int 0, .int 0, .int 0]))]) [2] (by decide) rfl
  have hKc := hK.sub (tys' := []) [] rfl
  have hFc := va_free (wc := [(q10, .inr (7, [.null, .null, .int 0, .int 0, .int 0, .int 0, .int 0, .int 0, .int 0, .int 0, .int 0, .int 0, .int 0, .int 0, .int 0, .int 0, .int 0]))]) hD hS hA [2] rfl
  have hkc : 9 + 5 ≤ 50 := (Nat.le_of_ble_eq_true rfl)
  refine va_callv (va_runIN (As := []) (rest := [.ref q10, .int 1, .ref q1]) hfx (c_Co_init l dC dI q10 H.size) ⟨(ux_cn 0 hT tw_225 tw_223 tw_8 rfl rfl (by decide +kernel) ⟨(Nat.le_of_ble_eq_true rfl), (Nat.le_of_ble_eq_true rfl)⟩), rfl, (ux_T_at hT tw_224 rfl)⟩ (ux_pre [.ref q10] hT hPc hKc hDc) rfl rfl hl.1 rfl (lv_room (Nat.le_of_ble_eq_true rfl)) d_Tc_init_44 ⟨(Nat.le_of_ble_eq_true rfl), (Nat.le_of_ble_eq_true rfl)⟩) hS (fun q _ h => hFc q h) hFc (fun u t H1 locs ht hvm hw hB hz1 hk1 hS => ?_)
  obtain ⟨q12, q13, hP1, hK1, hD1⟩ := hB
  rw [ht] at hP1
  have hK1 := va_K.moved hvm.symm hK1
  obtain ⟨hP, hD⟩ := va_join (wr := [(h0, .inr (6, [.ref q1, .ref q3, .ref wi, .int 0, .int 0])), (q1, .inl (cA2, 8, .inr (.inr (.inr (.inr f9)))))]) (w1 := [(q10, .inr (7, [.ref q12, .ref q13, .int 0, .int 0, .int 0, .int 0, .int 0, .int 0, .int 0, .int 0, .int 0, .int 0, .int 0, .int 0, .int 0, .int 0, .int 0]))]) hP hD [2] [0, 1] rfl rfl (by decide) (by decide) hk1 hFc hP1 hD1
  have hK := (hK.sub (tys' := [(cA2, .object "UnikernelHttp$Connection"), (cA4, .byte)]) [0, 1] rfl).app hK1
  generalize H1 = H at hP hS ⊢
  have hP : va_P (dC, dI) cls [(h0, .inr (6, [.ref q1, .ref q3, .ref wi, .int 0, .int 0])), (q1, .inl (cA2, 8, .inr (.inr (.inr (.inr f9))))), (q10, .inr (7, [.ref q12, .ref q13, .int 0, .int 0, .int 0, .int 0, .int 0, .int 0, .int 0, .int 0, .int 0, .int 0, .int 0, .int 0, .int 0, .int 0, .int 0]))] H := hP
  have hD : va_D A [(h0, .inr (6, [.ref q1, .ref q3, .ref wi, .int 0, .int 0])), (q1, .inl (cA2, 8, .inr (.inr (.inr (.inr f9))))), (q10, .inr (7, [.ref q12, .ref q13, .int 0, .int 0, .int 0, .int 0, .int 0, .int 0, .int 0, .int 0, .int 0, .int 0, .int 0, .int 0, .int 0, .int 0, .int 0]))] := hD
  have hK : va_K (dC, dI) cls [(cA2, .object "UnikernelHttp$Connection"), (cA4, .byte)] s := hK
  refine va_astq hx hb hK hP hD hS 1 0 2 7 rfl rfl rfl rfl (show ¬ ((1 : Int32) < 0 ∨ 8 ≤ (1 : Int32).toNatClampNeg) by decide) d_Tc_init_47 (fun H locs hP hD hS => ?_)
  have hP : va_P (dC, dI) cls [(h0, .inr (6, [.ref q1, .ref q3, .ref wi, .int 0, .int 0])), (q1, .inl (cA2, 8, .inr (.inr (.inr (.inr (va_up f9 (1 : Int32).toNatClampNeg (some q10))))))), (q10, .inr (7, [.ref q12, .ref q13, .int 0, .int 0, .int 0, .int 0, .int 0, .int 0, .int 0, .int 0, .int 0, .int 0, .int 0, .int 0, .int 0, .int 0, .int 0]))] H := hP
  have hD : va_D A [(h0, .inr (6, [.ref q1, .ref q3, .ref wi, .int 0, .int 0])), (q1, .inl (cA2, 8, .inr (.inr (.inr (.inr (va_up f9 (1 : Int32).toNatClampNeg (some q10))))))), (q10, .inr (7, [.ref q12, .ref q13, .int 0, .int 0, .int 0, .int 0, .int 0, .int 0, .int 0, .int 0, .int 0, .int 0, .int 0, .int 0, .int 0, .int 0, .int 0]))] := hD
  generalize va_up f9 (1 : Int32).toNatClampNeg (some q10) = f14 at hP hD
  have hP := hP.sub (ws' := [(h0, .inr (6, [.ref q1, .ref q3, .ref wi, .int 0, .int 0])), (q1, .inl (cA2, 8, .inr (.inr (.inr (.inr f14)))))]) [0, 1] rfl
  have hD := hD.sub (ws' := [(h0, .inr (6, [.ref q1, .ref q3, .ref wi, .int 0, .int 0])), (q1, .inl (cA2, 8, .inr (.inr (.inr (.inr f14)))))]) [0, 1] (by decide) rfl
  refine lv_iinc (v := 2) hx hb d_Tc_init_48 hl (k := 0) rfl (by decide) (by decide) rfl (fun ls hl => ?_)
  have hl : lv_has ls 3 [(2, .int 2), (0, .ref h0), (1, .ref wi)] := hl
  refine lv_goto hx hb d_Tc_init_51 (tgt := 29) (by decide) ?_
  refine lv_iload_n hx hb d_Tc_init_29 rfl (lv_at hl 0 rfl) ?_
  refine lv_bipush (v := 8) hx hb d_Tc_init_30 (by decide) ?_
  refine lv_icmp_ge (tgt := 54) hx hb d_Tc_init_32 (by decide) (fun hc => absurd hc (by decide)) (fun _ => ?_)
  refine lv_aload_n hx hb d_Tc_init_35 rfl (lv_at hl 1 rfl) ?_
  refine va_get (D := (dC, dI)) (ci := 6) (v := .ref q1) (C := R_Tc) (T := F_Tc) (N := 5) hx hb (u_Tc hT) (fun _ h => h) hown hK hP 0 rfl rfl 0 (by decide) (ux_T_at hT tw_370 rfl) (fun _ h9 => h9) rfl d_Tc_init_36 ?_
  refine lv_iload_n hx hb d_Tc_init_39 rfl (lv_at hl 0 rfl) ?_
  refine va_new (ci := 7) (fs := [.null, .null, .int 0, .int 0, .int 0, .int 0, .int 0, .int 0, .int 0, .int 0, .int 0, .int 0, .int 0, .int 0, .int 0, .int 0, .int 0]) (C := R_Co) (T := F_Co) (N := 17) hx hb (u_Co hT) (fun _ h => h) t_Co k_Co hown (ux_T_at hT tw_220 rfl) (ux_T_at hT tw_222 rfl) (ux_T_at hT tw_8 rfl) hK hP hD hS hA rfl z_Co (Nat.le_of_ble_eq_true rfl) (Nat.le_of_ble_eq_true rfl) d_Tc_init_40 (fun q15 H hP hD hS => ?_)
  have hP : va_P (dC, dI) cls [(h0, .inr (6, [.ref q1, .ref q3, .ref wi, .int 0, .int 0])), (q1, .inl (cA2, 8, .inr (.inr (.inr (.inr f14))))), (q15, .inr (7, [.null, .null, .int 0, .int 0, .int 0, .int 0, .int 0, .int 0, .int 0, .int 0, .int 0, .int 0, .int 0, .int 0, .int 0, .int 0, .int 0]))] H := hP
  have hD : va_D A [(h0, .inr (6, [.ref q1, .ref q3, .ref wi, .int 0, .int 0])), (q1, .inl (cA2, 8, .inr (.inr (.inr (.inr f14))))), (q15, .inr (7, [.null, .null, .int 0, .int 0, .int 0, .int 0, .int 0, .int 0, .int 0, .int 0, .int 0, .int 0, .int 0, .int 0, .int 0, .int 0, .int 0]))] := hD
  refine lv_dup hx hb d_Tc_init_43 rfl ?_
  have hPc := hP.sub (ws' := [(q15, .inr (7, [.null, .null, .int 0, .int 0, .int 0, .int 0, .int 0, .int 0, .int 0, .int 0, .int 0, .int 0, .int 0, .int 0, .int 0, .int 0, .int 0]))]) [2] rfl
  have hDc := hD.sub (ws' := [(q15, .inr (7, [.null, .null, .int 0, .int 0, .int 0, .int 0, .int 0, .int 0, .int 0, .int 0, .int 0, .int 0, .int 0, .int 0, .int 0, .int 0, .int 0]))]) [2] (by decide) rfl
  have hKc := hK.sub (tys' := []) [] rfl
  have hFc := va_free (wc := [(q15, .inr (7, [.null, .null, .int 0, .int 0, .int 0, .int 0, .int 0, .int 0, .int 0, .int 0, .int 0, .int 0, .int 0, .int 0, .int 0, .int 0, .int 0]))]) hD hS hA [2] rfl
  have hkc : 15 + 5 ≤ 50 := (Nat.le_of_ble_eq_true rfl)
  refine va_callv (va_runIN (As := []) (rest := [.ref q15, .int 2, .ref q1]) hfx (c_Co_init l dC dI q15 H.size) ⟨(ux_cn 0 hT tw_225 tw_223 tw_8 rfl rfl (by decide +kernel) ⟨(Nat.le_of_ble_eq_true rfl), (Nat.le_of_ble_eq_true rfl)⟩), rfl, (ux_T_at hT tw_224 rfl)⟩ (ux_pre [.ref q15] hT hPc hKc hDc) rfl rfl hl.1 rfl (lv_room (Nat.le_of_ble_eq_true rfl)) d_Tc_init_44 ⟨(Nat.le_of_ble_eq_true rfl), (Nat.le_of_ble_eq_true rfl)⟩) hS (fun q _ h => hFc q h) hFc (fun u t H1 locs ht hvm hw hB hz1 hk1 hS => ?_)
  obtain ⟨q17, q18, hP1, hK1, hD1⟩ := hB
  rw [ht] at hP1
  have hK1 := va_K.moved hvm.symm hK1
  obtain ⟨hP, hD⟩ := va_join (wr := [(h0, .inr (6, [.ref q1, .ref q3, .ref wi, .int 0, .int 0])), (q1, .inl (cA2, 8, .inr (.inr (.inr (.inr f14)))))]) (w1 := [(q15, .inr (7, [.ref q17, .ref q18, .int 0, .int 0, .int 0, .int 0, .int 0, .int 0, .int 0, .int 0, .int 0, .int 0, .int 0, .int 0, .int 0, .int 0, .int 0]))]) hP hD [2] [0, 1] rfl rfl (by decide) (by decide) hk1 hFc hP1 hD1
  have hK := (hK.sub (tys' := [(cA2, .object "UnikernelHttp$Connection"), (cA4, .byte)]) [0, 1] rfl).app hK1
  generalize H1 = H at hP hS ⊢
  have hP : va_P (dC, dI) cls [(h0, .inr (6, [.ref q1, .ref q3, .ref wi, .int 0, .int 0])), (q1, .inl (cA2, 8, .inr (.inr (.inr (.inr f14))))), (q15, .inr (7, [.ref q17, .ref q18, .int 0, .int 0, .int 0, .int 0, .int 0, .int 0, .int 0, .int 0, .int 0, .int 0, .int 0, .int 0, .int 0, .int 0, .int 0]))] H := hP
  have hD : va_D A [(h0, .inr (6, [.ref q1, .ref q3, .ref wi, .int 0, .int 0])), (q1, .inl (cA2, 8, .inr (.inr (.inr (.inr f14))))), (q15, .inr (7, [.ref q17, .ref q18, .int 0, .int 0, .int 0, .int 0, .int 0, .int 0, .int 0, .int 0, .int 0, .int 0, .int 0, .int 0, .int 0, .int 0, .int 0]))] := hD
  have hK : va_K (dC, dI) cls [(cA2, .object "UnikernelHttp$Connection"), (cA4, .byte)] s := hK
  refine va_astq hx hb hK hP hD hS 1 0 2 7 rfl rfl rfl rfl (show ¬ ((2 : Int32) < 0 ∨ 8 ≤ (2 : Int32).toNatClampNeg) by decide) d_Tc_init_47 (fun H locs hP hD hS => ?_)
  have hP : va_P (dC, dI) cls [(h0, .inr (6, [.ref q1, .ref q3, .ref wi, .int 0, .int 0])), (q1, .inl (cA2, 8, .inr (.inr (.inr (.inr (va_up f14 (2 : Int32).toNatClampNeg (some q15))))))), (q15, .inr (7, [.ref q17, .ref q18, .int 0, .int 0, .int 0, .int 0, .int 0, .int 0, .int 0, .int 0, .int 0, .int 0, .int 0, .int 0, .int 0, .int 0, .int 0]))] H := hP
  have hD : va_D A [(h0, .inr (6, [.ref q1, .ref q3, .ref wi, .int 0, .int 0])), (q1, .inl (cA2, 8, .inr (.inr (.inr (.inr (va_up f14 (2 : Int32).toNatClampNeg (some q15))))))), (q15, .inr (7, [.ref q17, .ref q18, .int 0, .int 0, .int 0, .int 0, .int 0, .int 0, .int 0, .int 0, .int 0, .int 0, .int 0, .int 0, .int 0, .int 0, .int 0]))] := hD
  generalize va_up f14 (2 : Int32).toNatClampNeg (some q15) = f19 at hP hD
  have hP := hP.sub (ws' := [(h0, .inr (6, [.ref q1, .ref q3, .ref wi, .int 0, .int 0])), (q1, .inl (cA2, 8, .inr (.inr (.inr (.inr f19)))))]) [0, 1] rfl
  have hD := hD.sub (ws' := [(h0, .inr (6, [.ref q1, .ref q3, .ref wi, .int 0, .int 0])), (q1, .inl (cA2, 8, .inr (.inr (.inr (.inr f19)))))]) [0, 1] (by decide) rfl
  refine lv_iinc (v := 3) hx hb d_Tc_init_48 hl (k := 0) rfl (by decide) (by decide) rfl (fun ls hl => ?_)
  have hl : lv_has ls 3 [(2, .int 3), (0, .ref h0), (1, .ref wi)] := hl
  refine lv_goto hx hb d_Tc_init_51 (tgt := 29) (by decide) ?_
  refine lv_iload_n hx hb d_Tc_init_29 rfl (lv_at hl 0 rfl) ?_
  refine lv_bipush (v := 8) hx hb d_Tc_init_30 (by decide) ?_
  refine lv_icmp_ge (tgt := 54) hx hb d_Tc_init_32 (by decide) (fun hc => absurd hc (by decide)) (fun _ => ?_)
  refine lv_aload_n hx hb d_Tc_init_35 rfl (lv_at hl 1 rfl) ?_
  refine va_get (D := (dC, dI)) (ci := 6) (v := .ref q1) (C := R_Tc) (T := F_Tc) (N := 5) hx hb (u_Tc hT) (fun _ h => h) hown hK hP 0 rfl rfl 0 (by decide) (ux_T_at hT tw_370 rfl) (fun _ h9 => h9) rfl d_Tc_init_36 ?_
  refine lv_iload_n hx hb d_Tc_init_39 rfl (lv_at hl 0 rfl) ?_
  refine va_new (ci := 7) (fs := [.null, .null, .int 0, .int 0, .int 0, .int 0, .int 0, .int 0, .int 0, .int 0, .int 0, .int 0, .int 0, .int 0, .int 0, .int 0, .int 0]) (C := R_Co) (T := F_Co) (N := 17) hx hb (u_Co hT) (fun _ h => h) t_Co k_Co hown (ux_T_at hT tw_220 rfl) (ux_T_at hT tw_222 rfl) (ux_T_at hT tw_8 rfl) hK hP hD hS hA rfl z_Co (Nat.le_of_ble_eq_true rfl) (Nat.le_of_ble_eq_true rfl) d_Tc_init_40 (fun q20 H hP hD hS => ?_)
  have hP : va_P (dC, dI) cls [(h0, .inr (6, [.ref q1, .ref q3, .ref wi, .int 0, .int 0])), (q1, .inl (cA2, 8, .inr (.inr (.inr (.inr f19))))), (q20, .inr (7, [.null, .null, .int 0, .int 0, .int 0, .int 0, .int 0, .int 0, .int 0, .int 0, .int 0, .int 0, .int 0, .int 0, .int 0, .int 0, .int 0]))] H := hP
  have hD : va_D A [(h0, .inr (6, [.ref q1, .ref q3, .ref wi, .int 0, .int 0])), (q1, .inl (cA2, 8, .inr (.inr (.inr (.inr f19))))), (q20, .inr (7, [.null, .null, .int 0, .int 0, .int 0, .int 0, .int 0, .int 0, .int 0, .int 0, .int 0, .int 0, .int 0, .int 0, .int 0, .int 0, .int 0]))] := hD
  refine lv_dup hx hb d_Tc_init_43 rfl ?_
  have hPc := hP.sub (ws' := [(q20, .inr (7, [.null, .null, .int 0, .int 0, .int 0, .int 0, .int 0, .int 0, .int 0, .int 0, .int 0, .int 0, .int 0, .int 0, .int 0, .int 0, .int 0]))]) [2] rfl
  have hDc := hD.sub (ws' := [(q20, .inr (7, [.null, .null, .int 0, .int 0, .int 0, .int 0, .int 0, .int 0, .int 0, .int 0, .int 0, .int 0, .int 0, .int 0, .int 0, .int 0, .int 0]))]) [2] (by decide) rfl
  have hKc := hK.sub (tys' := []) [] rfl
  have hFc := va_free (wc := [(q20, .inr (7, [.null, .null, .int 0, .int 0, .int 0, .int 0, .int 0, .int 0, .int 0, .int 0, .int 0, .int 0, .int 0, .int 0, .int 0, .int 0, .int 0]))]) hD hS hA [2] rfl
  have hkc : 21 + 5 ≤ 50 := (Nat.le_of_ble_eq_true rfl)
  refine va_callv (va_runIN (As := []) (rest := [.ref q20, .int 3, .ref q1]) hfx (c_Co_init l dC dI q20 H.size) ⟨(ux_cn 0 hT tw_225 tw_223 tw_8 rfl rfl (by decide +kernel) ⟨(Nat.le_of_ble_eq_true rfl), (Nat.le_of_ble_eq_true rfl)⟩), rfl, (ux_T_at hT tw_224 rfl)⟩ (ux_pre [.ref q20] hT hPc hKc hDc) rfl rfl hl.1 rfl (lv_room (Nat.le_of_ble_eq_true rfl)) d_Tc_init_44 ⟨(Nat.le_of_ble_eq_true rfl), (Nat.le_of_ble_eq_true rfl)⟩) hS (fun q _ h => hFc q h) hFc (fun u t H1 locs ht hvm hw hB hz1 hk1 hS => ?_)
  obtain ⟨q22, q23, hP1, hK1, hD1⟩ := hB
  rw [ht] at hP1
  have hK1 := va_K.moved hvm.symm hK1
  obtain ⟨hP, hD⟩ := va_join (wr := [(h0, .inr (6, [.ref q1, .ref q3, .ref wi, .int 0, .int 0])), (q1, .inl (cA2, 8, .inr (.inr (.inr (.inr f19)))))]) (w1 := [(q20, .inr (7, [.ref q22, .ref q23, .int 0, .int 0, .int 0, .int 0, .int 0, .int 0, .int 0, .int 0, .int 0, .int 0, .int 0, .int 0, .int 0, .int 0, .int 0]))]) hP hD [2] [0, 1] rfl rfl (by decide) (by decide) hk1 hFc hP1 hD1
  have hK := (hK.sub (tys' := [(cA2, .object "UnikernelHttp$Connection"), (cA4, .byte)]) [0, 1] rfl).app hK1
  generalize H1 = H at hP hS ⊢
  have hP : va_P (dC, dI) cls [(h0, .inr (6, [.ref q1, .ref q3, .ref wi, .int 0, .int 0])), (q1, .inl (cA2, 8, .inr (.inr (.inr (.inr f19))))), (q20, .inr (7, [.ref q22, .ref q23, .int 0, .int 0, .int 0, .int 0, .int 0, .int 0, .int 0, .int 0, .int 0, .int 0, .int 0, .int 0, .int 0, .int 0, .int 0]))] H := hP
  have hD : va_D A [(h0, .inr (6, [.ref q1, .ref q3, .ref wi, .int 0, .int 0])), (q1, .inl (cA2, 8, .inr (.inr (.inr (.inr f19))))), (q20, .inr (7, [.ref q22, .ref q23, .int 0, .int 0, .int 0, .int 0, .int 0, .int 0, .int 0, .int 0, .int 0, .int 0, .int 0, .int 0, .int 0, .int 0, .int 0]))] := hD
  have hK : va_K (dC, dI) cls [(cA2, .object "UnikernelHttp$Connection"), (cA4, .byte)] s := hK
  refine va_astq hx hb hK hP hD hS 1 0 2 7 rfl rfl rfl rfl (show ¬ ((3 : Int32) < 0 ∨ 8 ≤ (3 : Int32).toNatClampNeg) by decide) d_Tc_init_47 (fun H locs hP hD hS => ?_)
  have hP : va_P (dC, dI) cls [(h0, .inr (6, [.ref q1, .ref q3, .ref wi, .int 0, .int 0])), (q1, .inl (cA2, 8, .inr (.inr (.inr (.inr (va_up f19 (3 : Int32).toNatClampNeg (some q20))))))), (q20, .inr (7, [.ref q22, .ref q23, .int 0, .int 0, .int 0, .int 0, .int 0, .int 0, .int 0, .int 0, .int 0, .int 0, .int 0, .int 0, .int 0, .int 0, .int 0]))] H := hP
  have hD : va_D A [(h0, .inr (6, [.ref q1, .ref q3, .ref wi, .int 0, .int 0])), (q1, .inl (cA2, 8, .inr (.inr (.inr (.inr (va_up f19 (3 : Int32).toNatClampNeg (some q20))))))), (q20, .inr (7, [.ref q22, .ref q23, .int 0, .int 0, .int 0, .int 0, .int 0, .int 0, .int 0, .int 0, .int 0, .int 0, .int 0, .int 0, .int 0, .int 0, .int 0]))] := hD
  generalize va_up f19 (3 : Int32).toNatClampNeg (some q20) = f24 at hP hD
  have hP := hP.sub (ws' := [(h0, .inr (6, [.ref q1, .ref q3, .ref wi, .int 0, .int 0])), (q1, .inl (cA2, 8, .inr (.inr (.inr (.inr f24)))))]) [0, 1] rfl
  have hD := hD.sub (ws' := [(h0, .inr (6, [.ref q1, .ref q3, .ref wi, .int 0, .int 0])), (q1, .inl (cA2, 8, .inr (.inr (.inr (.inr f24)))))]) [0, 1] (by decide) rfl
  refine lv_iinc (v := 4) hx hb d_Tc_init_48 hl (k := 0) rfl (by decide) (by decide) rfl (fun ls hl => ?_)
  have hl : lv_has ls 3 [(2, .int 4), (0, .ref h0), (1, .ref wi)] := hl
  refine lv_goto hx hb d_Tc_init_51 (tgt := 29) (by decide) ?_
  refine lv_iload_n hx hb d_Tc_init_29 rfl (lv_at hl 0 rfl) ?_
  refine lv_bipush (v := 8) hx hb d_Tc_init_30 (by decide) ?_
  refine lv_icmp_ge (tgt := 54) hx hb d_Tc_init_32 (by decide) (fun hc => absurd hc (by decide)) (fun _ => ?_)
  refine lv_aload_n hx hb d_Tc_init_35 rfl (lv_at hl 1 rfl) ?_
  refine va_get (D := (dC, dI)) (ci := 6) (v := .ref q1) (C := R_Tc) (T := F_Tc) (N := 5) hx hb (u_Tc hT) (fun _ h => h) hown hK hP 0 rfl rfl 0 (by decide) (ux_T_at hT tw_370 rfl) (fun _ h9 => h9) rfl d_Tc_init_36 ?_
  refine lv_iload_n hx hb d_Tc_init_39 rfl (lv_at hl 0 rfl) ?_
  refine va_new (ci := 7) (fs := [.null, .null, .int 0, .int 0, .int 0, .int 0, .int 0, .int 0, .int 0, .int 0, .int 0, .int 0, .int 0, .int 0, .int 0, .int 0, .int 0]) (C := R_Co) (T := F_Co) (N := 17) hx hb (u_Co hT) (fun _ h => h) t_Co k_Co hown (ux_T_at hT tw_220 rfl) (ux_T_at hT tw_222 rfl) (ux_T_at hT tw_8 rfl) hK hP hD hS hA rfl z_Co (Nat.le_of_ble_eq_true rfl) (Nat.le_of_ble_eq_true rfl) d_Tc_init_40 (fun q25 H hP hD hS => ?_)
  have hP : va_P (dC, dI) cls [(h0, .inr (6, [.ref q1, .ref q3, .ref wi, .int 0, .int 0])), (q1, .inl (cA2, 8, .inr (.inr (.inr (.inr f24))))), (q25, .inr (7, [.null, .null, .int 0, .int 0, .int 0, .int 0, .int 0, .int 0, .int 0, .int 0, .int 0, .int 0, .int 0, .int 0, .int 0, .int 0, .int 0]))] H := hP
  have hD : va_D A [(h0, .inr (6, [.ref q1, .ref q3, .ref wi, .int 0, .int 0])), (q1, .inl (cA2, 8, .inr (.inr (.inr (.inr f24))))), (q25, .inr (7, [.null, .null, .int 0, .int 0, .int 0, .int 0, .int 0, .int 0, .int 0, .int 0, .int 0, .int 0, .int 0, .int 0, .int 0, .int 0, .int 0]))] := hD
  refine lv_dup hx hb d_Tc_init_43 rfl ?_
  have hPc := hP.sub (ws' := [(q25, .inr (7, [.null, .null, .int 0, .int 0, .int 0, .int 0, .int 0, .int 0, .int 0, .int 0, .int 0, .int 0, .int 0, .int 0, .int 0, .int 0, .int 0]))]) [2] rfl
  have hDc := hD.sub (ws' := [(q25, .inr (7, [.null, .null, .int 0, .int 0, .int 0, .int 0, .int 0, .int 0, .int 0, .int 0, .int 0, .int 0, .int 0, .int 0, .int 0, .int 0, .int 0]))]) [2] (by decide) rfl
  have hKc := hK.sub (tys' := []) [] rfl
  have hFc := va_free (wc := [(q25, .inr (7, [.null, .null, .int 0, .int 0, .int 0, .int 0, .int 0, .int 0, .int 0, .int 0, .int 0, .int 0, .int 0, .int 0, .int 0, .int 0, .int 0]))]) hD hS hA [2] rfl
  have hkc : 27 + 5 ≤ 50 := (Nat.le_of_ble_eq_true rfl)
  refine va_callv (va_runIN (As := []) (rest := [.ref q25, .int 4, .ref q1]) hfx (c_Co_init l dC dI q25 H.size) ⟨(ux_cn 0 hT tw_225 tw_223 tw_8 rfl rfl (by decide +kernel) ⟨(Nat.le_of_ble_eq_true rfl), (Nat.le_of_ble_eq_true rfl)⟩), rfl, (ux_T_at hT tw_224 rfl)⟩ (ux_pre [.ref q25] hT hPc hKc hDc) rfl rfl hl.1 rfl (lv_room (Nat.le_of_ble_eq_true rfl)) d_Tc_init_44 ⟨(Nat.le_of_ble_eq_true rfl), (Nat.le_of_ble_eq_true rfl)⟩) hS (fun q _ h => hFc q h) hFc (fun u t H1 locs ht hvm hw hB hz1 hk1 hS => ?_)
  obtain ⟨q27, q28, hP1, hK1, hD1⟩ := hB
  rw [ht] at hP1
  have hK1 := va_K.moved hvm.symm hK1
  obtain ⟨hP, hD⟩ := va_join (wr := [(h0, .inr (6, [.ref q1, .ref q3, .ref wi, .int 0, .int 0])), (q1, .inl (cA2, 8, .inr (.inr (.inr (.inr f24)))))]) (w1 := [(q25, .inr (7, [.ref q27, .ref q28, .int 0, .int 0, .int 0, .int 0, .int 0, .int 0, .int 0, .int 0, .int 0, .int 0, .int 0, .int 0, .int 0, .int 0, .int 0]))]) hP hD [2] [0, 1] rfl rfl (by decide) (by decide) hk1 hFc hP1 hD1
  have hK := (hK.sub (tys' := [(cA2, .object "UnikernelHttp$Connection"), (cA4, .byte)]) [0, 1] rfl).app hK1
  generalize H1 = H at hP hS ⊢
  have hP : va_P (dC, dI) cls [(h0, .inr (6, [.ref q1, .ref q3, .ref wi, .int 0, .int 0])), (q1, .inl (cA2, 8, .inr (.inr (.inr (.inr f24))))), (q25, .inr (7, [.ref q27, .ref q28, .int 0, .int 0, .int 0, .int 0, .int 0, .int 0, .int 0, .int 0, .int 0, .int 0, .int 0, .int 0, .int 0, .int 0, .int 0]))] H := hP
  have hD : va_D A [(h0, .inr (6, [.ref q1, .ref q3, .ref wi, .int 0, .int 0])), (q1, .inl (cA2, 8, .inr (.inr (.inr (.inr f24))))), (q25, .inr (7, [.ref q27, .ref q28, .int 0, .int 0, .int 0, .int 0, .int 0, .int 0, .int 0, .int 0, .int 0, .int 0, .int 0, .int 0, .int 0, .int 0, .int 0]))] := hD
  have hK : va_K (dC, dI) cls [(cA2, .object "UnikernelHttp$Connection"), (cA4, .byte)] s := hK
  refine va_astq hx hb hK hP hD hS 1 0 2 7 rfl rfl rfl rfl (show ¬ ((4 : Int32) < 0 ∨ 8 ≤ (4 : Int32).toNatClampNeg) by decide) d_Tc_init_47 (fun H locs hP hD hS => ?_)
  have hP : va_P (dC, dI) cls [(h0, .inr (6, [.ref q1, .ref q3, .ref wi, .int 0, .int 0])), (q1, .inl (cA2, 8, .inr (.inr (.inr (.inr (va_up f24 (4 : Int32).toNatClampNeg (some q25))))))), (q25, .inr (7, [.ref q27, .ref q28, .int 0, .int 0, .int 0, .int 0, .int 0, .int 0, .int 0, .int 0, .int 0, .int 0, .int 0, .int 0, .int 0, .int 0, .int 0]))] H := hP
  have hD : va_D A [(h0, .inr (6, [.ref q1, .ref q3, .ref wi, .int 0, .int 0])), (q1, .inl (cA2, 8, .inr (.inr (.inr (.inr (va_up f24 (4 : Int32).toNatClampNeg (some q25))))))), (q25, .inr (7, [.ref q27, .ref q28, .int 0, .int 0, .int 0, .int 0, .int 0, .int 0, .int 0, .int 0, .int 0, .int 0, .int 0, .int 0, .int 0, .int 0, .int 0]))] := hD
  generalize va_up f24 (4 : Int32).toNatClampNeg (some q25) = f29 at hP hD
  have hP := hP.sub (ws' := [(h0, .inr (6, [.ref q1, .ref q3, .ref wi, .int 0, .int 0])), (q1, .inl (cA2, 8, .inr (.inr (.inr (.inr f29)))))]) [0, 1] rfl
  have hD := hD.sub (ws' := [(h0, .inr (6, [.ref q1, .ref q3, .ref wi, .int 0, .int 0])), (q1, .inl (cA2, 8, .inr (.inr (.inr (.inr f29)))))]) [0, 1] (by decide) rfl
  refine lv_iinc (v := 5) hx hb d_Tc_init_48 hl (k := 0) rfl (by decide) (by decide) rfl (fun ls hl => ?_)
  have hl : lv_has ls 3 [(2, .int 5), (0, .ref h0), (1, .ref wi)] := hl
  refine lv_goto hx hb d_Tc_init_51 (tgt := 29) (by decide) ?_
  refine lv_iload_n hx hb d_Tc_init_29 rfl (lv_at hl 0 rfl) ?_
  refine lv_bipush (v := 8) hx hb d_Tc_init_30 (by decide) ?_
  refine lv_icmp_ge (tgt := 54) hx hb d_Tc_init_32 (by decide) (fun hc => absurd hc (by decide)) (fun _ => ?_)
  refine lv_aload_n hx hb d_Tc_init_35 rfl (lv_at hl 1 rfl) ?_
  refine va_get (D := (dC, dI)) (ci := 6) (v := .ref q1) (C := R_Tc) (T := F_Tc) (N := 5) hx hb (u_Tc hT) (fun _ h => h) hown hK hP 0 rfl rfl 0 (by decide) (ux_T_at hT tw_370 rfl) (fun _ h9 => h9) rfl d_Tc_init_36 ?_
  refine lv_iload_n hx hb d_Tc_init_39 rfl (lv_at hl 0 rfl) ?_
  refine va_new (ci := 7) (fs := [.null, .null, .int 0, .int 0, .int 0, .int 0, .int 0, .int 0, .int 0, .int 0, .int 0, .int 0, .int 0, .int 0, .int 0, .int 0, .int 0]) (C := R_Co) (T := F_Co) (N := 17) hx hb (u_Co hT) (fun _ h => h) t_Co k_Co hown (ux_T_at hT tw_220 rfl) (ux_T_at hT tw_222 rfl) (ux_T_at hT tw_8 rfl) hK hP hD hS hA rfl z_Co (Nat.le_of_ble_eq_true rfl) (Nat.le_of_ble_eq_true rfl) d_Tc_init_40 (fun q30 H hP hD hS => ?_)
  have hP : va_P (dC, dI) cls [(h0, .inr (6, [.ref q1, .ref q3, .ref wi, .int 0, .int 0])), (q1, .inl (cA2, 8, .inr (.inr (.inr (.inr f29))))), (q30, .inr (7, [.null, .null, .int 0, .int 0, .int 0, .int 0, .int 0, .int 0, .int 0, .int 0, .int 0, .int 0, .int 0, .int 0, .int 0, .int 0, .int 0]))] H := hP
  have hD : va_D A [(h0, .inr (6, [.ref q1, .ref q3, .ref wi, .int 0, .int 0])), (q1, .inl (cA2, 8, .inr (.inr (.inr (.inr f29))))), (q30, .inr (7, [.null, .null, .int 0, .int 0, .int 0, .int 0, .int 0, .int 0, .int 0, .int 0, .int 0, .int 0, .int 0, .int 0, .int 0, .int 0, .int 0]))] := hD
  refine lv_dup hx hb d_Tc_init_43 rfl ?_
  have hPc := hP.sub (ws' := [(q30, .inr (7, [.null, .null, .int 0, .int 0, .int 0, .int 0, .int 0, .int 0, .int 0, .int 0, .int 0, .int 0, .int 0, .int 0, .int 0, .int 0, .int 0]))]) [2] rfl
  have hDc := hD.sub (ws' := [(q30, .inr (7, [.null, .null, .int 0, .int 0, .int 0, .int 0, .int 0, .int 0, .int 0, .int 0, .int 0, .int 0, .int 0, .int 0, .int 0, .int 0, .int 0]))]) [2] (by decide) rfl
  have hKc := hK.sub (tys' := []) [] rfl
  have hFc := va_free (wc := [(q30, .inr (7, [.null, .null, .int 0, .int 0, .int 0, .int 0, .int 0, .int 0, .int 0, .int 0, .int 0, .int 0, .int 0, .int 0, .int 0, .int 0, .int 0]))]) hD hS hA [2] rfl
  have hkc : 33 + 5 ≤ 50 := (Nat.le_of_ble_eq_true rfl)
  refine va_callv (va_runIN (As := []) (rest := [.ref q30, .int 5, .ref q1]) hfx (c_Co_init l dC dI q30 H.size) ⟨(ux_cn 0 hT tw_225 tw_223 tw_8 rfl rfl (by decide +kernel) ⟨(Nat.le_of_ble_eq_true rfl), (Nat.le_of_ble_eq_true rfl)⟩), rfl, (ux_T_at hT tw_224 rfl)⟩ (ux_pre [.ref q30] hT hPc hKc hDc) rfl rfl hl.1 rfl (lv_room (Nat.le_of_ble_eq_true rfl)) d_Tc_init_44 ⟨(Nat.le_of_ble_eq_true rfl), (Nat.le_of_ble_eq_true rfl)⟩) hS (fun q _ h => hFc q h) hFc (fun u t H1 locs ht hvm hw hB hz1 hk1 hS => ?_)
  obtain ⟨q32, q33, hP1, hK1, hD1⟩ := hB
  rw [ht] at hP1
  have hK1 := va_K.moved hvm.symm hK1
  obtain ⟨hP, hD⟩ := va_join (wr := [(h0, .inr (6, [.ref q1, .ref q3, .ref wi, .int 0, .int 0])), (q1, .inl (cA2, 8, .inr (.inr (.inr (.inr f29)))))]) (w1 := [(q30, .inr (7, [.ref q32, .ref q33, .int 0, .int 0, .int 0, .int 0, .int 0, .int 0, .int 0, .int 0, .int 0, .int 0, .int 0, .int 0, .int 0, .int 0, .int 0]))]) hP hD [2] [0, 1] rfl rfl (by decide) (by decide) hk1 hFc hP1 hD1
  have hK := (hK.sub (tys' := [(cA2, .object "UnikernelHttp$Connection"), (cA4, .byte)]) [0, 1] rfl).app hK1
  generalize H1 = H at hP hS ⊢
  have hP : va_P (dC, dI) cls [(h0, .inr (6, [.ref q1, .ref q3, .ref wi, .int 0, .int 0])), (q1, .inl (cA2, 8, .inr (.inr (.inr (.inr f29))))), (q30, .inr (7, [.ref q32, .ref q33, .int 0, .int 0, .int 0, .int 0, .int 0, .int 0, .int 0, .int 0, .int 0, .int 0, .int 0, .int 0, .int 0, .int 0, .int 0]))] H := hP
  have hD : va_D A [(h0, .inr (6, [.ref q1, .ref q3, .ref wi, .int 0, .int 0])), (q1, .inl (cA2, 8, .inr (.inr (.inr (.inr f29))))), (q30, .inr (7, [.ref q32, .ref q33, .int 0, .int 0, .int 0, .int 0, .int 0, .int 0, .int 0, .int 0, .int 0, .int 0, .int 0, .int 0, .int 0, .int 0, .int 0]))] := hD
  have hK : va_K (dC, dI) cls [(cA2, .object "UnikernelHttp$Connection"), (cA4, .byte)] s := hK
  refine va_astq hx hb hK hP hD hS 1 0 2 7 rfl rfl rfl rfl (show ¬ ((5 : Int32) < 0 ∨ 8 ≤ (5 : Int32).toNatClampNeg) by decide) d_Tc_init_47 (fun H locs hP hD hS => ?_)
  have hP : va_P (dC, dI) cls [(h0, .inr (6, [.ref q1, .ref q3, .ref wi, .int 0, .int 0])), (q1, .inl (cA2, 8, .inr (.inr (.inr (.inr (va_up f29 (5 : Int32).toNatClampNeg (some q30))))))), (q30, .inr (7, [.ref q32, .ref q33, .int 0, .int 0, .int 0, .int 0, .int 0, .int 0, .int 0, .int 0, .int 0, .int 0, .int 0, .int 0, .int 0, .int 0, .int 0]))] H := hP
  have hD : va_D A [(h0, .inr (6, [.ref q1, .ref q3, .ref wi, .int 0, .int 0])), (q1, .inl (cA2, 8, .inr (.inr (.inr (.inr (va_up f29 (5 : Int32).toNatClampNeg (some q30))))))), (q30, .inr (7, [.ref q32, .ref q33, .int 0, .int 0, .int 0, .int 0, .int 0, .int 0, .int 0, .int 0, .int 0, .int 0, .int 0, .int 0, .int 0, .int 0, .int 0]))] := hD
  generalize va_up f29 (5 : Int32).toNatClampNeg (some q30) = f34 at hP hD
  have hP := hP.sub (ws' := [(h0, .inr (6, [.ref q1, .ref q3, .ref wi, .int 0, .int 0])), (q1, .inl (cA2, 8, .inr (.inr (.inr (.inr f34)))))]) [0, 1] rfl
  have hD := hD.sub (ws' := [(h0, .inr (6, [.ref q1, .ref q3, .ref wi, .int 0, .int 0])), (q1, .inl (cA2, 8, .inr (.inr (.inr (.inr f34)))))]) [0, 1] (by decide) rfl
  refine lv_iinc (v := 6) hx hb d_Tc_init_48 hl (k := 0) rfl (by decide) (by decide) rfl (fun ls hl => ?_)
  have hl : lv_has ls 3 [(2, .int 6), (0, .ref h0), (1, .ref wi)] := hl
  refine lv_goto hx hb d_Tc_init_51 (tgt := 29) (by decide) ?_
  refine lv_iload_n hx hb d_Tc_init_29 rfl (lv_at hl 0 rfl) ?_
  refine lv_bipush (v := 8) hx hb d_Tc_init_30 (by decide) ?_
  refine lv_icmp_ge (tgt := 54) hx hb d_Tc_init_32 (by decide) (fun hc => absurd hc (by decide)) (fun _ => ?_)
  refine lv_aload_n hx hb d_Tc_init_35 rfl (lv_at hl 1 rfl) ?_
  refine va_get (D := (dC, dI)) (ci := 6) (v := .ref q1) (C := R_Tc) (T := F_Tc) (N := 5) hx hb (u_Tc hT) (fun _ h => h) hown hK hP 0 rfl rfl 0 (by decide) (ux_T_at hT tw_370 rfl) (fun _ h9 => h9) rfl d_Tc_init_36 ?_
  refine lv_iload_n hx hb d_Tc_init_39 rfl (lv_at hl 0 rfl) ?_
  refine va_new (ci := 7) (fs := [.null, .null, .int 0, .int 0, .int 0, .int 0, .int 0, .int 0, .int 0, .int 0, .int 0, .int 0, .int 0, .int 0, .int 0, .int 0, .int 0]) (C := R_Co) (T := F_Co) (N := 17) hx hb (u_Co hT) (fun _ h => h) t_Co k_Co hown (ux_T_at hT tw_220 rfl) (ux_T_at hT tw_222 rfl) (ux_T_at hT tw_8 rfl) hK hP hD hS hA rfl z_Co (Nat.le_of_ble_eq_true rfl) (Nat.le_of_ble_eq_true rfl) d_Tc_init_40 (fun q35 H hP hD hS => ?_)
  have hP : va_P (dC, dI) cls [(h0, .inr (6, [.ref q1, .ref q3, .ref wi, .int 0, .int 0])), (q1, .inl (cA2, 8, .inr (.inr (.inr (.inr f34))))), (q35, .inr (7, [.null, .null, .int 0, .int 0, .int 0, .int 0, .int 0, .int 0, .int 0, .int 0, .int 0, .int 0, .int 0, .int 0, .int 0, .int 0, .int 0]))] H := hP
  have hD : va_D A [(h0, .inr (6, [.ref q1, .ref q3, .ref wi, .int 0, .int 0])), (q1, .inl (cA2, 8, .inr (.inr (.inr (.inr f34))))), (q35, .inr (7, [.null, .null, .int 0, .int 0, .int 0, .int 0, .int 0, .int 0, .int 0, .int 0, .int 0, .int 0, .int 0, .int 0, .int 0, .int 0, .int 0]))] := hD
  refine lv_dup hx hb d_Tc_init_43 rfl ?_
  have hPc := hP.sub (ws' := [(q35, .inr (7, [.null, .null, .int 0, .int 0, .int 0, .int 0, .int 0, .int 0, .int 0, .int 0, .int 0, .int 0, .int 0, .int 0, .int 0, .int 0, .int 0]))]) [2] rfl
  have hDc := hD.sub (ws' := [(q35, .inr (7, [.null, .null, .int 0, .int 0, .int 0, .int 0, .int 0, .int 0, .int 0, .int 0, .int 0, .int 0, .int 0, .int 0, .int 0, .int 0, .int 0]))]) [2] (by decide) rfl
  have hKc := hK.sub (tys' := []) [] rfl
  have hFc := va_free (wc := [(q35, .inr (7, [.null, .null, .int 0, .int 0, .int 0, .int 0, .int 0, .int 0, .int 0, .int 0, .int 0, .int 0, .int 0, .int 0, .int 0, .int 0, .int 0]))]) hD hS hA [2] rfl
  have hkc : 39 + 5 ≤ 50 := (Nat.le_of_ble_eq_true rfl)
  refine va_callv (va_runIN (As := []) (rest := [.ref q35, .int 6, .ref q1]) hfx (c_Co_init l dC dI q35 H.size) ⟨(ux_cn 0 hT tw_225 tw_223 tw_8 rfl rfl (by decide +kernel) ⟨(Nat.le_of_ble_eq_true rfl), (Nat.le_of_ble_eq_true rfl)⟩), rfl, (ux_T_at hT tw_224 rfl)⟩ (ux_pre [.ref q35] hT hPc hKc hDc) rfl rfl hl.1 rfl (lv_room (Nat.le_of_ble_eq_true rfl)) d_Tc_init_44 ⟨(Nat.le_of_ble_eq_true rfl), (Nat.le_of_ble_eq_true rfl)⟩) hS (fun q _ h => hFc q h) hFc (fun u t H1 locs ht hvm hw hB hz1 hk1 hS => ?_)
  obtain ⟨q37, q38, hP1, hK1, hD1⟩ := hB
  rw [ht] at hP1
  have hK1 := va_K.moved hvm.symm hK1
  obtain ⟨hP, hD⟩ := va_join (wr := [(h0, .inr (6, [.ref q1, .ref q3, .ref wi, .int 0, .int 0])), (q1, .inl (cA2, 8, .inr (.inr (.inr (.inr f34)))))]) (w1 := [(q35, .inr (7, [.ref q37, .ref q38, .int 0, .int 0, .int 0, .int 0, .int 0, .int 0, .int 0, .int 0, .int 0, .int 0, .int 0, .int 0, .int 0, .int 0, .int 0]))]) hP hD [2] [0, 1] rfl rfl (by decide) (by decide) hk1 hFc hP1 hD1
  have hK := (hK.sub (tys' := [(cA2, .object "UnikernelHttp$Connection"), (cA4, .byte)]) [0, 1] rfl).app hK1
  generalize H1 = H at hP hS ⊢
  have hP : va_P (dC, dI) cls [(h0, .inr (6, [.ref q1, .ref q3, .ref wi, .int 0, .int 0])), (q1, .inl (cA2, 8, .inr (.inr (.inr (.inr f34))))), (q35, .inr (7, [.ref q37, .ref q38, .int 0, .int 0, .int 0, .int 0, .int 0, .int 0, .int 0, .int 0, .int 0, .int 0, .int 0, .int 0, .int 0, .int 0, .int 0]))] H := hP
  have hD : va_D A [(h0, .inr (6, [.ref q1, .ref q3, .ref wi, .int 0, .int 0])), (q1, .inl (cA2, 8, .inr (.inr (.inr (.inr f34))))), (q35, .inr (7, [.ref q37, .ref q38, .int 0, .int 0, .int 0, .int 0, .int 0, .int 0, .int 0, .int 0, .int 0, .int 0, .int 0, .int 0, .int 0, .int 0, .int 0]))] := hD
  have hK : va_K (dC, dI) cls [(cA2, .object "UnikernelHttp$Connection"), (cA4, .byte)] s := hK
  refine va_astq hx hb hK hP hD hS 1 0 2 7 rfl rfl rfl rfl (show ¬ ((6 : Int32) < 0 ∨ 8 ≤ (6 : Int32).toNatClampNeg) by decide) d_Tc_init_47 (fun H locs hP hD hS => ?_)
  have hP : va_P (dC, dI) cls [(h0, .inr (6, [.ref q1, .ref q3, .ref wi, .int 0, .int 0])), (q1, .inl (cA2, 8, .inr (.inr (.inr (.inr (va_up f34 (6 : Int32).toNatClampNeg (some q35))))))), (q35, .inr (7, [.ref q37, .ref q38, .int 0, .int 0, .int 0, .int 0, .int 0, .int 0, .int 0, .int 0, .int 0, .int 0, .int 0, .int 0, .int 0, .int 0, .int 0]))] H := hP
  have hD : va_D A [(h0, .inr (6, [.ref q1, .ref q3, .ref wi, .int 0, .int 0])), (q1, .inl (cA2, 8, .inr (.inr (.inr (.inr (va_up f34 (6 : Int32).toNatClampNeg (some q35))))))), (q35, .inr (7, [.ref q37, .ref q38, .int 0, .int 0, .int 0, .int 0, .int 0, .int 0, .int 0, .int 0, .int 0, .int 0, .int 0, .int 0, .int 0, .int 0, .int 0]))] := hD
  generalize va_up f34 (6 : Int32).toNatClampNeg (some q35) = f39 at hP hD
  have hP := hP.sub (ws' := [(h0, .inr (6, [.ref q1, .ref q3, .ref wi, .int 0, .int 0])), (q1, .inl (cA2, 8, .inr (.inr (.inr (.inr f39)))))]) [0, 1] rfl
  have hD := hD.sub (ws' := [(h0, .inr (6, [.ref q1, .ref q3, .ref wi, .int 0, .int 0])), (q1, .inl (cA2, 8, .inr (.inr (.inr (.inr f39)))))]) [0, 1] (by decide) rfl
  refine lv_iinc (v := 7) hx hb d_Tc_init_48 hl (k := 0) rfl (by decide) (by decide) rfl (fun ls hl => ?_)
  have hl : lv_has ls 3 [(2, .int 7), (0, .ref h0), (1, .ref wi)] := hl
  refine lv_goto hx hb d_Tc_init_51 (tgt := 29) (by decide) ?_
  refine lv_iload_n hx hb d_Tc_init_29 rfl (lv_at hl 0 rfl) ?_
  refine lv_bipush (v := 8) hx hb d_Tc_init_30 (by decide) ?_
  refine lv_icmp_ge (tgt := 54) hx hb d_Tc_init_32 (by decide) (fun hc => absurd hc (by decide)) (fun _ => ?_)
  refine lv_aload_n hx hb d_Tc_init_35 rfl (lv_at hl 1 rfl) ?_
  refine va_get (D := (dC, dI)) (ci := 6) (v := .ref q1) (C := R_Tc) (T := F_Tc) (N := 5) hx hb (u_Tc hT) (fun _ h => h) hown hK hP 0 rfl rfl 0 (by decide) (ux_T_at hT tw_370 rfl) (fun _ h9 => h9) rfl d_Tc_init_36 ?_
  refine lv_iload_n hx hb d_Tc_init_39 rfl (lv_at hl 0 rfl) ?_
  refine va_new (ci := 7) (fs := [.null, .null, .int 0, .int 0, .int 0, .int 0, .int 0, .int 0, .int 0, .int 0, .int 0, .int 0, .int 0, .int 0, .int 0, .int 0, .int 0]) (C := R_Co) (T := F_Co) (N := 17) hx hb (u_Co hT) (fun _ h => h) t_Co k_Co hown (ux_T_at hT tw_220 rfl) (ux_T_at hT tw_222 rfl) (ux_T_at hT tw_8 rfl) hK hP hD hS hA rfl z_Co (Nat.le_of_ble_eq_true rfl) (Nat.le_of_ble_eq_true rfl) d_Tc_init_40 (fun q40 H hP hD hS => ?_)
  have hP : va_P (dC, dI) cls [(h0, .inr (6, [.ref q1, .ref q3, .ref wi, .int 0, .int 0])), (q1, .inl (cA2, 8, .inr (.inr (.inr (.inr f39))))), (q40, .inr (7, [.null, .null, .int 0, .int 0, .int 0, .int 0, .int 0, .int 0, .int 0, .int 0, .int 0, .int 0, .int 0, .int 0, .int 0, .int 0, .int 0]))] H := hP
  have hD : va_D A [(h0, .inr (6, [.ref q1, .ref q3, .ref wi, .int 0, .int 0])), (q1, .inl (cA2, 8, .inr (.inr (.inr (.inr f39))))), (q40, .inr (7, [.null, .null, .int 0, .int 0, .int 0, .int 0, .int 0, .int 0, .int 0, .int 0, .int 0, .int 0, .int 0, .int 0, .int 0, .int 0, .int 0]))] := hD
  refine lv_dup hx hb d_Tc_init_43 rfl ?_
  have hPc := hP.sub (ws' := [(q40, .inr (7, [.null, .null, .int 0, .int 0, .int 0, .int 0, .int 0, .int 0, .int 0, .int 0, .int 0, .int 0, .int 0, .int 0, .int 0, .int 0, .int 0]))]) [2] rfl
  have hDc := hD.sub (ws' := [(q40, .inr (7, [.null, .null, .int 0, .int 0, .int 0, .int 0, .int 0, .int 0, .int 0, .int 0, .int 0, .int 0, .int 0, .int 0, .int 0, .int 0, .int 0]))]) [2] (by decide) rfl
  have hKc := hK.sub (tys' := []) [] rfl
  have hFc := va_free (wc := [(q40, .inr (7, [.null, .null, .int 0, .int 0, .int 0, .int 0, .int 0, .int 0, .int 0, .int 0, .int 0, .int 0, .int 0, .int 0, .int 0, .int 0, .int 0]))]) hD hS hA [2] rfl
  have hkc : 45 + 5 ≤ 50 := (Nat.le_of_ble_eq_true rfl)
  refine va_callv (va_runIN (As := []) (rest := [.ref q40, .int 7, .ref q1]) hfx (c_Co_init l dC dI q40 H.size) ⟨(ux_cn 0 hT tw_225 tw_223 tw_8 rfl rfl (by decide +kernel) ⟨(Nat.le_of_ble_eq_true rfl), (Nat.le_of_ble_eq_true rfl)⟩), rfl, (ux_T_at hT tw_224 rfl)⟩ (ux_pre [.ref q40] hT hPc hKc hDc) rfl rfl hl.1 rfl (lv_room (Nat.le_of_ble_eq_true rfl)) d_Tc_init_44 ⟨(Nat.le_of_ble_eq_true rfl), (Nat.le_of_ble_eq_true rfl)⟩) hS (fun q _ h => hFc q h) hFc (fun u t H1 locs ht hvm hw hB hz1 hk1 hS => ?_)
  obtain ⟨q42, q43, hP1, hK1, hD1⟩ := hB
  rw [ht] at hP1
  have hK1 := va_K.moved hvm.symm hK1
  obtain ⟨hP, hD⟩ := va_join (wr := [(h0, .inr (6, [.ref q1, .ref q3, .ref wi, .int 0, .int 0])), (q1, .inl (cA2, 8, .inr (.inr (.inr (.inr f39)))))]) (w1 := [(q40, .inr (7, [.ref q42, .ref q43, .int 0, .int 0, .int 0, .int 0, .int 0, .int 0, .int 0, .int 0, .int 0, .int 0, .int 0, .int 0, .int 0, .int 0, .int 0]))]) hP hD [2] [0, 1] rfl rfl (by decide) (by decide) hk1 hFc hP1 hD1
  have hK := (hK.sub (tys' := [(cA2, .object "UnikernelHttp$Connection"), (cA4, .byte)]) [0, 1] rfl).app hK1
  generalize H1 = H at hP hS ⊢
  have hP : va_P (dC, dI) cls [(h0, .inr (6, [.ref q1, .ref q3, .ref wi, .int 0, .int 0])), (q1, .inl (cA2, 8, .inr (.inr (.inr (.inr f39))))), (q40, .inr (7, [.ref q42, .ref q43, .int 0, .int 0, .int 0, .int 0, .int 0, .int 0, .int 0, .int 0, .int 0, .int 0, .int 0, .int 0, .int 0, .int 0, .int 0]))] H := hP
  have hD : va_D A [(h0, .inr (6, [.ref q1, .ref q3, .ref wi, .int 0, .int 0])), (q1, .inl (cA2, 8, .inr (.inr (.inr (.inr f39))))), (q40, .inr (7, [.ref q42, .ref q43, .int 0, .int 0, .int 0, .int 0, .int 0, .int 0, .int 0, .int 0, .int 0, .int 0, .int 0, .int 0, .int 0, .int 0, .int 0]))] := hD
  have hK : va_K (dC, dI) cls [(cA2, .object "UnikernelHttp$Connection"), (cA4, .byte)] s := hK
  refine va_astq hx hb hK hP hD hS 1 0 2 7 rfl rfl rfl rfl (show ¬ ((7 : Int32) < 0 ∨ 8 ≤ (7 : Int32).toNatClampNeg) by decide) d_Tc_init_47 (fun H locs hP hD hS => ?_)
  have hP : va_P (dC, dI) cls [(h0, .inr (6, [.ref q1, .ref q3, .ref wi, .int 0, .int 0])), (q1, .inl (cA2, 8, .inr (.inr (.inr (.inr (va_up f39 (7 : Int32).toNatClampNeg (some q40))))))), (q40, .inr (7, [.ref q42, .ref q43, .int 0, .int 0, .int 0, .int 0, .int 0, .int 0, .int 0, .int 0, .int 0, .int 0, .int 0, .int 0, .int 0, .int 0, .int 0]))] H := hP
  have hD : va_D A [(h0, .inr (6, [.ref q1, .ref q3, .ref wi, .int 0, .int 0])), (q1, .inl (cA2, 8, .inr (.inr (.inr (.inr (va_up f39 (7 : Int32).toNatClampNeg (some q40))))))), (q40, .inr (7, [.ref q42, .ref q43, .int 0, .int 0, .int 0, .int 0, .int 0, .int 0, .int 0, .int 0, .int 0, .int 0, .int 0, .int 0, .int 0, .int 0, .int 0]))] := hD
  generalize va_up f39 (7 : Int32).toNatClampNeg (some q40) = f44 at hP hD
  have hP := hP.sub (ws' := [(h0, .inr (6, [.ref q1, .ref q3, .ref wi, .int 0, .int 0])), (q1, .inl (cA2, 8, .inr (.inr (.inr (.inr f44)))))]) [0, 1] rfl
  have hD := hD.sub (ws' := [(h0, .inr (6, [.ref q1, .ref q3, .ref wi, .int 0, .int 0])), (q1, .inl (cA2, 8, .inr (.inr (.inr (.inr f44)))))]) [0, 1] (by decide) rfl
  refine lv_iinc (v := 8) hx hb d_Tc_init_48 hl (k := 0) rfl (by decide) (by decide) rfl (fun ls hl => ?_)
  have hl : lv_has ls 3 [(2, .int 8), (0, .ref h0), (1, .ref wi)] := hl
  refine lv_goto hx hb d_Tc_init_51 (tgt := 29) (by decide) ?_
  refine lv_iload_n hx hb d_Tc_init_29 rfl (lv_at hl 0 rfl) ?_
  refine lv_bipush (v := 8) hx hb d_Tc_init_30 (by decide) ?_
  refine lv_icmp_ge (tgt := 54) hx hb d_Tc_init_32 (by decide) (fun _ => ?_) (fun hc => absurd (by decide) hc)
  have hP9 := hP.sub (ws' := [(h0, .inr (6, [.ref q1, .ref q3, .ref wi, .int 0, .int 0]))]) [0] rfl
  have hD9 := hD.sub (ws' := [(h0, .inr (6, [.ref q1, .ref q3, .ref wi, .int 0, .int 0]))]) [0] (by decide) rfl
  have hK9 := hK.sub (tys' := []) [] rfl
  refine W.widen (k := 50) (n := 66336) (Nat.le_of_ble_eq_true rfl) (Nat.le_of_ble_eq_true rfl) ?_
  exact W.vret hx hb hr (fun t ht hW => ⟨⟨(), rfl, trivial, q1, q3, by rw [ht]; exact hP9, va_K.moved hW.alike hK9, hD9⟩, hS.F ht⟩) hS.2.2 d_Tc_init_54
set_option maxHeartbeats 4000000 in
set_option maxRecDepth 100000 in
theorem c_So_init (l : Launch) (dC : Nat → ClassId) (dI : Nat → Nat → Nat) (h0 : Nat) (sz : Nat) : Met l y_So_init [Cond.code y_So_init b_So_init 1 (none)] ({ frames := 20, cells := 69, slots := 50208, locals := 300 }) (ux_Pc [.ref h0] (dC, dI) cls [(h0, .inr (10, [.null, .null, .null, .null, .null, .int 0]))] [] sz) (va_Qv (fun _ : Unit => True) (fun (_ : Unit) (t : State) => ∃ (q1 : Nat), ∃ (q2 : Nat), ∃ (q3 : Nat), ∃ (q4 : Nat), ∃ (q5 : Nat), ux_B (dC, dI) cls (va_A [(h0, .inr (10, [.null, .null, .null, .null, .null, .int 0]))] sz) [(h0, .inr (10, [.ref q1, .ref q2, .ref q3, .ref q4, .ref q5, .int 0]))] [] t) (va_A [(h0, .inr (10, [.null, .null, .null, .null, .null, .int 0]))] sz)) 69 50208 (va_A [(h0, .inr (10, [.null, .null, .null, .null, .null, .int 0]))] sz) := by
  refine Met.ofW (cc := b_So_init) (maxL := 1) (ret := none) (by decide) rfl ?_
  intro p e s m args below meth c s₁ B hml hv
  obtain ⟨rfl, hsz, hP, hK, hD0, hT⟩ := hv
  have hx := B.exec
  have hb := B.bytes
  have hr := B.returns
  have hown : s.vm.findClass "UnikernelHttp$Store" = some m.cls := findClass_of_methodNamed B.named
  have hlocks := B.notSynchronized
  have hin : meth.name = "<init>" := (name_of_methodNamed B.named B.method).1
  subst hsz
  have hD := hD0.self (sz := s.heap.size)
  have hns := ux_ns hP
  generalize hAe : va_A [(h0, .inr (10, [.null, .null, .null, .null, .null, .int 0]))] s.heap.size = A at hD hns ⊢
  have hA : ∀ q : Nat, s.heap.size ≤ q → A q := fun q h => by rw [← hAe]; exact Or.inr h
  have hS : va_S A s.heap s.heap [] := va_S.rf
  have hl := lv_entry ([.ref h0]) (n := 1) (Nat.le_of_ble_eq_true rfl)
  rw [lg_entry_eq]
  generalize (lg_sl ([.ref h0]) ++ List.replicate (1 - (lg_sl ([.ref h0])).length) Slot.unset).toArray = ls at hl ⊢
  have hl : lv_has ls 1 [(0, .ref h0)] := hl
  have hfx : CallFix p m c b_So_init 1 s ([.ref h0] : List Value).toArray [] "UnikernelHttp$Store" := ⟨hx, hb, hml, hown, fun _ h => by cases h⟩
  refine lv_aload_n hx hb d_So_init_0 rfl (lv_at hl 0 rfl) ?_
  refine W.objInit hx hb hown (ux_T_at hT tw_393 rfl) (ux_T_at hT tw_40 rfl) (ux_T_at hT tw_41 rfl) rfl (by rw [hml]; exact hl.1) rfl d_So_init_1 (Nat.le_of_ble_eq_true rfl) (Nat.le_of_ble_eq_true rfl) ?_
  refine W.eq (g2 := F0 m 4 ls []) rfl ?_
  refine lv_aload_n hx hb d_So_init_4 rfl (lv_at hl 0 rfl) ?_
  refine lv_bipush (v := 32) hx hb d_So_init_5 (by decide) ?_
  refine lv_bipush (v := 64) hx hb d_So_init_7 (by decide) ?_
  refine ux_multi (own := "UnikernelHttp$Store") (N := 32) (M := 64) hx hb hown (ux_T_at hT tw_394 rfl) (ux_T_at hT tw_395 rfl) (ux_T_at hT tw_66 rfl) hP hS hA (by decide) (by decide) (by decide) (by decide) (by decide) (by decide) (Nat.le_of_ble_eq_true rfl) (Nat.le_of_ble_eq_true rfl) d_So_init_9 (fun q1 H locs hP hS => ?_)
  refine va_putF (D := (dC, dI)) (ci := 10) (v := .ref q1) (ty := .array (.array .byte)) (C := R_So) (T := F_So) (N := 6) hx hb (u_So hT) (fun _ h => h) t_So k_So n_So hown hK hP hD hS 0 rfl rfl 0 (by decide) (ux_T_at hT tw_396 rfl) (fun _ h9 => h9) rfl hin rfl (by decide +kernel) rfl rfl (Nat.le_of_ble_eq_true rfl) d_So_init_13 (fun H locs hP hD hS => ?_)
  have hP : va_P (dC, dI) cls [(h0, .inr (10, [.ref q1, .null, .null, .null, .null, .int 0]))] H := hP
  have hD : va_D A [(h0, .inr (10, [.ref q1, .null, .null, .null, .null, .int 0]))] := hD
  refine lv_aload_n hx hb d_So_init_16 rfl (lv_at hl 0 rfl) ?_
  refine lv_bipush (v := 32) hx hb d_So_init_17 (by decide) ?_
  refine va_newa (atype := .int) (ty := .int) (N' := 32) (a0 := (32, .inl (fun _ => 0))) hx hb (ux_T_at hT tw_67 rfl) rfl hK hP hD hS hA (fun _ => rfl) (by decide) (by decide +kernel) (by decide +kernel) (Nat.le_of_ble_eq_true rfl) (Nat.le_of_ble_eq_true rfl) d_So_init_19 (fun q2 cA3 H hK hP hD hS => ?_)
  have hP : va_P (dC, dI) cls [(h0, .inr (10, [.ref q1, .null, .null, .null, .null, .int 0])), (q2, .inl (cA3, 32, .inl (fun _ => 0)))] H := hP
  have hD : va_D A [(h0, .inr (10, [.ref q1, .null, .null, .null, .null, .int 0])), (q2, .inl (cA3, 32, .inl (fun _ => 0)))] := hD
  have hK : va_K (dC, dI) cls [(cA3, .int)] s := hK
  refine va_putF (D := (dC, dI)) (ci := 10) (v := .ref q2) (ty := .array .int) (C := R_So) (T := F_So) (N := 6) hx hb (u_So hT) (fun _ h => h) t_So k_So n_So hown hK hP hD hS 0 rfl rfl 1 (by decide) (ux_T_at hT tw_397 rfl) (fun _ h9 => h9) rfl hin rfl (by decide +kernel) rfl rfl (Nat.le_of_ble_eq_true rfl) d_So_init_21 (fun H locs hP hD hS => ?_)
  have hP : va_P (dC, dI) cls [(h0, .inr (10, [.ref q1, .ref q2, .null, .null, .null, .int 0])), (q2, .inl (cA3, 32, .inl (fun _ => 0)))] H := hP
  have hD : va_D A [(h0, .inr (10, [.ref q1, .ref q2, .null, .null, .null, .int 0])), (q2, .inl (cA3, 32, .inl (fun _ => 0)))] := hD
  have hP := hP.sub (ws' := [(h0, .inr (10, [.ref q1, .ref q2, .null, .null, .null, .int 0]))]) [0] rfl
  have hD := hD.sub (ws' := [(h0, .inr (10, [.ref q1, .ref q2, .null, .null, .null, .int 0]))]) [0] (by decide) rfl
  refine lv_aload_n hx hb d_So_init_24 rfl (lv_at hl 0 rfl) ?_
  refine lv_bipush (v := 32) hx hb d_So_init_25 (by decide) ?_
  refine lv_sipush (v := 1500) hx hb d_So_init_27 (by decide) ?_
  refine ux_multi (own := "UnikernelHttp$Store") (N := 32) (M := 1500) hx hb hown (ux_T_at hT tw_394 rfl) (ux_T_at hT tw_395 rfl) (ux_T_at hT tw_66 rfl) hP hS hA (by decide) (by decide) (by decide) (by decide) (by decide) (by decide) (Nat.le_of_ble_eq_true rfl) (Nat.le_of_ble_eq_true rfl) d_So_init_30 (fun q4 H locs hP hS => ?_)
  refine va_putF (D := (dC, dI)) (ci := 10) (v := .ref q4) (ty := .array (.array .byte)) (C := R_So) (T := F_So) (N := 6) hx hb (u_So hT) (fun _ h => h) t_So k_So n_So hown hK hP hD hS 0 rfl rfl 2 (by decide) (ux_T_at hT tw_398 rfl) (fun _ h9 => h9) rfl hin rfl (by decide +kernel) rfl rfl (Nat.le_of_ble_eq_true rfl) d_So_init_34 (fun H locs hP hD hS => ?_)
  have hP : va_P (dC, dI) cls [(h0, .inr (10, [.ref q1, .ref q2, .ref q4, .null, .null, .int 0]))] H := hP
  have hD : va_D A [(h0, .inr (10, [.ref q1, .ref q2, .ref q4, .null, .null, .int 0]))] := hD
  refine lv_aload_n hx hb d_So_init_37 rfl (lv_at hl 0 rfl) ?_
  refine lv_bipush (v := 32) hx hb d_So_init_38 (by decide) ?_
  refine va_newa (atype := .int) (ty := .int) (N' := 32) (a0 := (32, .inl (fun _ => 0))) hx hb (ux_T_at hT tw_67 rfl) rfl hK hP hD hS hA (fun _ => rfl) (by decide) (by decide +kernel) (by decide +kernel) (Nat.le_of_ble_eq_true rfl) (Nat.le_of_ble_eq_true rfl) d_So_init_40 (fun q5 cA6 H hK hP hD hS => ?_)
  have hP : va_P (dC, dI) cls [(h0, .inr (10, [.ref q1, .ref q2, .ref q4, .null, .null, .int 0])), (q5, .inl (cA6, 32, .inl (fun _ => 0)))] H := hP
  have hD : va_D A [(h0, .inr (10, [.ref q1, .ref q2, .ref q4, .null, .null, .int 0])), (q5, .inl (cA6, 32, .inl (fun _ => 0)))] := hD
  have hK : va_K (dC, dI) cls [(cA3, .int), (cA6, .int)] s := hK
  refine va_putF (D := (dC, dI)) (ci := 10) (v := .ref q5) (ty := .array .int) (C := R_So) (T := F_So) (N := 6) hx hb (u_So hT) (fun _ h => h) t_So k_So n_So hown hK hP hD hS 0 rfl rfl 3 (by decide) (ux_T_at hT tw_401 rfl) (fun _ h9 => h9) rfl hin rfl (by decide +kernel) rfl rfl (Nat.le_of_ble_eq_true rfl) d_So_init_42 (fun H locs hP hD hS => ?_)
  have hP : va_P (dC, dI) cls [(h0, .inr (10, [.ref q1, .ref q2, .ref q4, .ref q5, .null, .int 0])), (q5, .inl (cA6, 32, .inl (fun _ => 0)))] H := hP
  have hD : va_D A [(h0, .inr (10, [.ref q1, .ref q2, .ref q4, .ref q5, .null, .int 0])), (q5, .inl (cA6, 32, .inl (fun _ => 0)))] := hD
  have hP := hP.sub (ws' := [(h0, .inr (10, [.ref q1, .ref q2, .ref q4, .ref q5, .null, .int 0]))]) [0] rfl
  have hD := hD.sub (ws' := [(h0, .inr (10, [.ref q1, .ref q2, .ref q4, .ref q5, .null, .int 0]))]) [0] (by decide) rfl
  refine lv_aload_n hx hb d_So_init_45 rfl (lv_at hl 0 rfl) ?_
  refine lv_bipush (v := 32) hx hb d_So_init_46 (by decide) ?_
  refine va_newa (atype := .int) (ty := .int) (N' := 32) (a0 := (32, .inl (fun _ => 0))) hx hb (ux_T_at hT tw_67 rfl) rfl hK hP hD hS hA (fun _ => rfl) (by decide) (by decide +kernel) (by decide +kernel) (Nat.le_of_ble_eq_true rfl) (Nat.le_of_ble_eq_true rfl) d_So_init_48 (fun q7 cA8 H hK hP hD hS => ?_)
  have hP : va_P (dC, dI) cls [(h0, .inr (10, [.ref q1, .ref q2, .ref q4, .ref q5, .null, .int 0])), (q7, .inl (cA8, 32, .inl (fun _ => 0)))] H := hP
  have hD : va_D A [(h0, .inr (10, [.ref q1, .ref q2, .ref q4, .ref q5, .null, .int 0])), (q7, .inl (cA8, 32, .inl (fun _ => 0)))] := hD
  have hK : va_K (dC, dI) cls [(cA3, .int), (cA6, .int), (cA8, .int)] s := hK
  refine va_putF (D := (dC, dI)) (ci := 10) (v := .ref q7) (ty := .array .int) (C := R_So) (T := F_So) (N := 6) hx hb (u_So hT) (fun _ h => h) t_So k_So n_So hown hK hP hD hS 0 rfl rfl 4 (by decide) (ux_T_at hT tw_404 rfl) (fun _ h9 => h9) rfl hin rfl (by decide +kernel) rfl rfl (Nat.le_of_ble_eq_true rfl) d_So_init_50 (fun H locs hP hD hS => ?_)
  have hP : va_P (dC, dI) cls [(h0, .inr (10, [.ref q1, .ref q2, .ref q4, .ref q5, .ref q7, .int 0])), (q7, .inl (cA8, 32, .inl (fun _ => 0)))] H := hP
  have hD : va_D A [(h0, .inr (10, [.ref q1, .ref q2, .ref q4, .ref q5, .ref q7, .int 0])), (q7, .inl (cA8, 32, .inl (fun _ => 0)))] := hD
  have hP := hP.sub (ws' := [(h0, .inr (10, [.ref q1, .ref q2, .ref q4, .ref q5, .ref q7, .int 0]))]) [0] rfl
  have hD := hD.sub (ws' := [(h0, .inr (10, [.ref q1, .ref q2, .ref q4, .ref q5, .ref q7, .int 0]))]) [0] (by decide) rfl
  have hP9 := hP.sub (ws' := [(h0, .inr (10, [.ref q1, .ref q2, .ref q4, .ref q5, .ref q7, .int 0]))]) [0] rfl
  have hD9 := hD.sub (ws' := [(h0, .inr (10, [.ref q1, .ref q2, .ref q4, .ref q5, .ref q7, .int 0]))]) [0] (by decide) rfl
  have hK9 := hK.sub (tys' := []) [] rfl
  refine W.widen (k := 69) (n := 50208) (Nat.le_of_ble_eq_true rfl) (Nat.le_of_ble_eq_true rfl) ?_
  exact W.vret hx hb hr (fun t ht hW => ⟨⟨(), rfl, trivial, q1, q2, q4, q5, q7, by rw [ht]; exact hP9, va_K.moved hW.alike hK9, hD9⟩, hS.F ht⟩) hS.2.2 d_So_init_53
set_option maxHeartbeats 4000000 in
set_option maxRecDepth 100000 in
theorem c_Ht_init (l : Launch) (dC : Nat → ClassId) (dI : Nat → Nat → Nat) (h0 : Nat) (st : Nat) (sz : Nat) : Met l y_Ht_init [Cond.code y_Ht_init b_Ht_init 2 (none)] ({ frames := 20, cells := 1, slots := 1700, locals := 300 }) (ux_Pc [.ref h0, .ref st] (dC, dI) cls [(h0, .inr (11, [.null, .null, .int 0, .int 0, .int 0]))] [] sz) (va_Qv (fun _ : Unit => True) (fun (_ : Unit) (t : State) => ∃ (q1 : Nat), ux_B (dC, dI) cls (va_A [(h0, .inr (11, [.null, .null, .int 0, .int 0, .int 0]))] sz) [(h0, .inr (11, [.ref st, .ref q1, .int 0, .int 0, .int 0]))] [] t) (va_A [(h0, .inr (11, [.null, .null, .int 0, .int 0, .int 0]))] sz)) 1 1700 (va_A [(h0, .inr (11, [.null, .null, .int 0, .int 0, .int 0]))] sz) := by
  refine Met.ofW (cc := b_Ht_init) (maxL := 2) (ret := none) (by decide) rfl ?_
  intro p e s m args below meth c s₁ B hml hv
  obtain ⟨rfl, hsz, hP, hK, hD0, hT⟩ := hv
  have hx := B.exec
  have hb := B.bytes
  have hr := B.returns
  have hown : s.vm.findClass "UnikernelHttp$Http" = some m.cls := findClass_of_methodNamed B.named
  have hlocks := B.notSynchronized
  have hin : meth.name = "<init>" := (name_of_methodNamed B.named B.method).1
  subst hsz
  have hD := hD0.self (sz := s.heap.size)
  have hns := ux_ns hP
  generalize hAe : va_A [(h0, .inr (11, [.null, .null, .int 0, .int 0, .int 0]))] s.heap.size = A at hD hns ⊢
  have hA : ∀ q : Nat, s.heap.size ≤ q → A q := fun q h => by rw [← hAe]; exact Or.inr h
  have hS : va_S A s.heap s.heap [] := va_S.rf
  have hl := lv_entry ([.ref h0, .ref st]) (n := 2) (Nat.le_of_ble_eq_true rfl)
  rw [lg_entry_eq]
  generalize (lg_sl ([.ref h0, .ref st]) ++ List.replicate (2 - (lg_sl ([.ref h0, .ref st])).length) Slot.unset).toArray = ls at hl ⊢
  have hl : lv_has ls 2 [(0, .ref h0), (1, .ref st)] := hl
  have hfx : CallFix p m c b_Ht_init 2 s ([.ref h0, .ref st] : List Value).toArray [] "UnikernelHttp$Http" := ⟨hx, hb, hml, hown, fun _ h => by cases h⟩
  refine lv_aload_n hx hb d_Ht_init_0 rfl (lv_at hl 0 rfl) ?_
  refine W.objInit hx hb hown (ux_T_at hT tw_426 rfl) (ux_T_at hT tw_40 rfl) (ux_T_at hT tw_41 rfl) rfl (by rw [hml]; exact hl.1) rfl d_Ht_init_1 (Nat.le_of_ble_eq_true rfl) (Nat.le_of_ble_eq_true rfl) ?_
  refine W.eq (g2 := F0 m 4 ls []) rfl ?_
  refine lv_aload_n hx hb d_Ht_init_4 rfl (lv_at hl 0 rfl) ?_
  refine lv_sipush (v := 1700) hx hb d_Ht_init_5 (by decide) ?_
  refine va_newa (atype := .byte) (ty := .byte) (N' := 1700) (a0 := (1700, .inl (fun _ => 0))) hx hb (ux_T_at hT tw_66 rfl) rfl hK hP hD hS hA (fun _ => rfl) (by decide) (by decide +kernel) (by decide +kernel) (Nat.le_of_ble_eq_true rfl) (Nat.le_of_ble_eq_true rfl) d_Ht_init_8 (fun q1 cA2 H hK hP hD hS => ?_)
  have hP : va_P (dC, dI) cls [(h0, .inr (11, [.null, .null, .int 0, .int 0, .int 0])), (q1, .inl (cA2, 1700, .inl (fun _ => 0)))] H := hP
  have hD : va_D A [(h0, .inr (11, [.null, .null, .int 0, .int 0, .int 0])), (q1, .inl (cA2, 1700, .inl (fun _ => 0)))] := hD
  have hK : va_K (dC, dI) cls [(cA2, .byte)] s := hK
  refine va_putF (D := (dC, dI)) (ci := 11) (v := .ref q1) (ty := .array .byte) (C := R_Ht) (T := F_Ht) (N := 5) hx hb (u_Ht hT) (fun _ h => h) t_Ht k_Ht n_Ht hown hK hP hD hS 0 rfl rfl 1 (by decide) (ux_T_at hT tw_428 rfl) (fun _ h9 => h9) rfl hin rfl (by decide +kernel) rfl rfl (Nat.le_of_ble_eq_true rfl) d_Ht_init_10 (fun H locs hP hD hS => ?_)
  have hP : va_P (dC, dI) cls [(h0, .inr (11, [.null, .ref q1, .int 0, .int 0, .int 0])), (q1, .inl (cA2, 1700, .inl (fun _ => 0)))] H := hP
  have hD : va_D A [(h0, .inr (11, [.null, .ref q1, .int 0, .int 0, .int 0])), (q1, .inl (cA2, 1700, .inl (fun _ => 0)))] := hD
  have hP := hP.sub (ws' := [(h0, .inr (11, [.null, .ref q1, .int 0, .int 0, .int 0]))]) [0] rfl
  have hD := hD.sub (ws' := [(h0, .inr (11, [.null, .ref q1, .int 0, .int 0, .int 0]))]) [0] (by decide) rfl
  refine lv_aload_n hx hb d_Ht_init_13 rfl (lv_at hl 0 rfl) ?_
  refine lv_aload_n hx hb d_Ht_init_14 rfl (lv_at hl 1 rfl) ?_
  refine va_putF (D := (dC, dI)) (ci := 11) (v := .ref st) (ty := .object "UnikernelHttp$Store") (C := R_Ht) (T := F_Ht) (N := 5) hx hb (u_Ht hT) (fun _ h => h) t_Ht k_Ht n_Ht hown hK hP hD hS 0 rfl rfl 0 (by decide) (ux_T_at hT tw_427 rfl) (fun _ h9 => h9) rfl hin rfl (by decide +kernel) rfl rfl (Nat.le_of_ble_eq_true rfl) d_Ht_init_15 (fun H locs hP hD hS => ?_)
  have hP : va_P (dC, dI) cls [(h0, .inr (11, [.ref st, .ref q1, .int 0, .int 0, .int 0]))] H := hP
  have hD : va_D A [(h0, .inr (11, [.ref st, .ref q1, .int 0, .int 0, .int 0]))] := hD
  have hP9 := hP.sub (ws' := [(h0, .inr (11, [.ref st, .ref q1, .int 0, .int 0, .int 0]))]) [0] rfl
  have hD9 := hD.sub (ws' := [(h0, .inr (11, [.ref st, .ref q1, .int 0, .int 0, .int 0]))]) [0] (by decide) rfl
  have hK9 := hK.sub (tys' := []) [] rfl
  refine W.widen (k := 1) (n := 1700) (Nat.le_of_ble_eq_true rfl) (Nat.le_of_ble_eq_true rfl) ?_
  exact W.vret hx hb hr (fun t ht hW => ⟨⟨(), rfl, trivial, q1, by rw [ht]; exact hP9, va_K.moved hW.alike hK9, hD9⟩, hS.F ht⟩) hS.2.2 d_Ht_init_18
end
section
/-! Which words the rows behind use, by their places. -/
theorem tw_2 : (Jvm.Cond.initialized "UnikernelHttp$Neighbours") ∈ lw_tbl := ux_in 2 ux_t1 rfl
theorem tw_3 : (Jvm.Cond.initialized "UnikernelHttp$Wire") ∈ lw_tbl := ux_in 3 ux_t1 rfl
theorem tw_4 : (Jvm.Cond.initialized "UnikernelHttp$Gatherings") ∈ lw_tbl := ux_in 4 ux_t1 rfl
theorem tw_6 : (Jvm.Cond.initialized "UnikernelHttp$Segment") ∈ lw_tbl := ux_in 6 ux_t1 rfl
theorem tw_7 : (Jvm.Cond.initialized "UnikernelHttp$Tcp") ∈ lw_tbl := ux_in 7 ux_t1 rfl
theorem tw_11 : (Jvm.Cond.initialized "UnikernelHttp$Store") ∈ lw_tbl := ux_in 11 ux_t1 rfl
theorem tw_12 : (Jvm.Cond.initialized "UnikernelHttp$Http") ∈ lw_tbl := ux_in 12 ux_t1 rfl
theorem tw_39 : (Jvm.Cond.methodLink "UnikernelHttp" (5 : Nat) ({ cls := "java/lang/Object", name := "<init>", desc := "()V" } : Jvm.MethodName)) ∈ lw_tbl := ux_in 39 ux_t1 rfl
theorem tw_42 : (Jvm.Cond.classLink "UnikernelHttp" (15 : Nat) "UnikernelHttp$Neighbours") ∈ lw_tbl := ux_in 42 ux_t1 rfl
theorem tw_43 : (Jvm.Cond.instantiable "UnikernelHttp$Neighbours" (5 : Nat)) ∈ lw_tbl := ux_in 43 ux_t1 rfl
theorem tw_44 : (Jvm.Cond.methodLinkNest "UnikernelHttp" (17 : Nat) ({ cls := "UnikernelHttp$Neighbours", name := "<init>", desc := "()V" } : Jvm.MethodName) "UnikernelHttp") ∈ lw_tbl := ux_in 44 ux_t1 rfl
theorem tw_45 : (Jvm.Cond.instanceMethod ({ cls := "UnikernelHttp$Neighbours", name := "<init>", desc := "()V" } : Jvm.MethodName)) ∈ lw_tbl := ux_in 45 ux_t1 rfl
theorem tw_46 : (Jvm.Cond.code ({ cls := "UnikernelHttp$Neighbours", name := "<init>", desc := "()V" } : Jvm.MethodName) prog_7_method_1_code (1 : Nat) (Option.none : Option Jvm.ClassFile.FieldType)) ∈ lw_tbl := ux_in 46 ux_t1 rfl
theorem tw_69 : (Jvm.Cond.classLink "UnikernelHttp" (22 : Nat) "UnikernelHttp$Wire") ∈ lw_tbl := ux_in 69 ux_t1 rfl
theorem tw_70 : (Jvm.Cond.instantiable "UnikernelHttp$Wire" (5 : Nat)) ∈ lw_tbl := ux_in 70 ux_t1 rfl
theorem tw_71 : (Jvm.Cond.methodLinkNest "UnikernelHttp" (24 : Nat) ({ cls := "UnikernelHttp$Wire", name := "<init>", desc := "(LUnikernelHttp$Neighbours;)V" } : Jvm.MethodName) "UnikernelHttp") ∈ lw_tbl := ux_in 71 ux_t1 rfl
theorem tw_72 : (Jvm.Cond.instanceMethod ({ cls := "UnikernelHttp$Wire", name := "<init>", desc := "(LUnikernelHttp$Neighbours;)V" } : Jvm.MethodName)) ∈ lw_tbl := ux_in 72 ux_t1 rfl
theorem tw_73 : (Jvm.Cond.code ({ cls := "UnikernelHttp$Wire", name := "<init>", desc := "(LUnikernelHttp$Neighbours;)V" } : Jvm.MethodName) prog_12_method_1_code (2 : Nat) (Option.none : Option Jvm.ClassFile.FieldType)) ∈ lw_tbl := ux_in 73 ux_t1 rfl
theorem tw_95 : (Jvm.Cond.classLink "UnikernelHttp" (31 : Nat) "UnikernelHttp$Gatherings") ∈ lw_tbl := ux_in 95 ux_t1 rfl
theorem tw_96 : (Jvm.Cond.instantiable "UnikernelHttp$Gatherings" (2 : Nat)) ∈ lw_tbl := ux_in 96 ux_t1 rfl
theorem tw_97 : (Jvm.Cond.methodLinkNest "UnikernelHttp" (33 : Nat) ({ cls := "UnikernelHttp$Gatherings", name := "<init>", desc := "()V" } : Jvm.MethodName) "UnikernelHttp") ∈ lw_tbl := ux_in 97 ux_t1 rfl
theorem tw_98 : (Jvm.Cond.instanceMethod ({ cls := "UnikernelHttp$Gatherings", name := "<init>", desc := "()V" } : Jvm.MethodName)) ∈ lw_tbl := ux_in 98 ux_t1 rfl
theorem tw_99 : (Jvm.Cond.code ({ cls := "UnikernelHttp$Gatherings", name := "<init>", desc := "()V" } : Jvm.MethodName) prog_4_method_1_code (2 : Nat) (Option.none : Option Jvm.ClassFile.FieldType)) ∈ lw_tbl := ux_in 99 ux_t1 rfl
theorem tw_150 : (Jvm.Cond.classLink "UnikernelHttp" (38 : Nat) "UnikernelHttp$Segment") ∈ lw_tbl := ux_in 150 ux_t1 rfl
theorem tw_151 : (Jvm.Cond.instantiable "UnikernelHttp$Segment" (12 : Nat)) ∈ lw_tbl := ux_in 151 ux_t1 rfl
theorem tw_152 : (Jvm.Cond.methodLinkNest "UnikernelHttp" (40 : Nat) ({ cls := "UnikernelHttp$Segment", name := "<init>", desc := "()V" } : Jvm.MethodName) "UnikernelHttp") ∈ lw_tbl := ux_in 152 ux_t1 rfl
theorem tw_153 : (Jvm.Cond.instanceMethod ({ cls := "UnikernelHttp$Segment", name := "<init>", desc := "()V" } : Jvm.MethodName)) ∈ lw_tbl := ux_in 153 ux_t1 rfl
theorem tw_154 : (Jvm.Cond.code ({ cls := "UnikernelHttp$Segment", name := "<init>", desc := "()V" } : Jvm.MethodName) prog_9_method_1_code (1 : Nat) (Option.none : Option Jvm.ClassFile.FieldType)) ∈ lw_tbl := ux_in 154 ux_t1 rfl
theorem tw_214 : (Jvm.Cond.classLink "UnikernelHttp" (45 : Nat) "UnikernelHttp$Tcp") ∈ lw_tbl := ux_in 214 ux_t1 rfl
theorem tw_215 : (Jvm.Cond.instantiable "UnikernelHttp$Tcp" (5 : Nat)) ∈ lw_tbl := ux_in 215 ux_t1 rfl
theorem tw_216 : (Jvm.Cond.methodLinkNest "UnikernelHttp" (47 : Nat) ({ cls := "UnikernelHttp$Tcp", name := "<init>", desc := "(LUnikernelHttp$Wire;)V" } : Jvm.MethodName) "UnikernelHttp") ∈ lw_tbl := ux_in 216 ux_t1 rfl
theorem tw_217 : (Jvm.Cond.instanceMethod ({ cls := "UnikernelHttp$Tcp", name := "<init>", desc := "(LUnikernelHttp$Wire;)V" } : Jvm.MethodName)) ∈ lw_tbl := ux_in 217 ux_t1 rfl
theorem tw_218 : (Jvm.Cond.code ({ cls := "UnikernelHttp$Tcp", name := "<init>", desc := "(LUnikernelHttp$Wire;)V" } : Jvm.MethodName) prog_11_method_1_code (3 : Nat) (Option.none : Option Jvm.ClassFile.FieldType)) ∈ lw_tbl := ux_in 218 ux_t1 rfl
theorem tw_388 : (Jvm.Cond.classLink "UnikernelHttp" (54 : Nat) "UnikernelHttp$Store") ∈ lw_tbl := ux_in 148 ux_t2 rfl
theorem tw_389 : (Jvm.Cond.instantiable "UnikernelHttp$Store" (6 : Nat)) ∈ lw_tbl := ux_in 149 ux_t2 rfl
theorem tw_390 : (Jvm.Cond.methodLinkNest "UnikernelHttp" (56 : Nat) ({ cls := "UnikernelHttp$Store", name := "<init>", desc := "()V" } : Jvm.MethodName) "UnikernelHttp") ∈ lw_tbl := ux_in 150 ux_t2 rfl
theorem tw_391 : (Jvm.Cond.instanceMethod ({ cls := "UnikernelHttp$Store", name := "<init>", desc := "()V" } : Jvm.MethodName)) ∈ lw_tbl := ux_in 151 ux_t2 rfl
theorem tw_392 : (Jvm.Cond.code ({ cls := "UnikernelHttp$Store", name := "<init>", desc := "()V" } : Jvm.MethodName) prog_10_method_1_code (1 : Nat) (Option.none : Option Jvm.ClassFile.FieldType)) ∈ lw_tbl := ux_in 152 ux_t2 rfl
theorem tw_421 : (Jvm.Cond.classLink "UnikernelHttp" (61 : Nat) "UnikernelHttp$Http") ∈ lw_tbl := ux_in 181 ux_t2 rfl
theorem tw_422 : (Jvm.Cond.instantiable "UnikernelHttp$Http" (5 : Nat)) ∈ lw_tbl := ux_in 182 ux_t2 rfl
theorem tw_423 : (Jvm.Cond.methodLinkNest "UnikernelHttp" (63 : Nat) ({ cls := "UnikernelHttp$Http", name := "<init>", desc := "(LUnikernelHttp$Store;)V" } : Jvm.MethodName) "UnikernelHttp") ∈ lw_tbl := ux_in 183 ux_t2 rfl
theorem tw_424 : (Jvm.Cond.instanceMethod ({ cls := "UnikernelHttp$Http", name := "<init>", desc := "(LUnikernelHttp$Store;)V" } : Jvm.MethodName)) ∈ lw_tbl := ux_in 184 ux_t2 rfl
theorem tw_425 : (Jvm.Cond.code ({ cls := "UnikernelHttp$Http", name := "<init>", desc := "(LUnikernelHttp$Store;)V" } : Jvm.MethodName) prog_5_method_1_code (2 : Nat) (Option.none : Option Jvm.ClassFile.FieldType)) ∈ lw_tbl := ux_in 185 ux_t2 rfl
theorem tw_443 : (Jvm.Cond.fieldLink "UnikernelHttp" (11 : Nat) "UnikernelHttp" "row" "[B") ∈ lw_tbl := ux_in 203 ux_t2 rfl
theorem tw_446 : (Jvm.Cond.fieldLink "UnikernelHttp" (18 : Nat) "UnikernelHttp" "neighbours" "LUnikernelHttp$Neighbours;") ∈ lw_tbl := ux_in 206 ux_t2 rfl
theorem tw_447 : (Jvm.Cond.fieldLink "UnikernelHttp" (27 : Nat) "UnikernelHttp" "wire" "LUnikernelHttp$Wire;") ∈ lw_tbl := ux_in 207 ux_t2 rfl
theorem tw_448 : (Jvm.Cond.fieldLink "UnikernelHttp" (34 : Nat) "UnikernelHttp" "gatherings" "LUnikernelHttp$Gatherings;") ∈ lw_tbl := ux_in 208 ux_t2 rfl
theorem tw_449 : (Jvm.Cond.fieldLink "UnikernelHttp" (41 : Nat) "UnikernelHttp" "segment" "LUnikernelHttp$Segment;") ∈ lw_tbl := ux_in 209 ux_t2 rfl
theorem tw_450 : (Jvm.Cond.fieldLink "UnikernelHttp" (50 : Nat) "UnikernelHttp" "tcp" "LUnikernelHttp$Tcp;") ∈ lw_tbl := ux_in 210 ux_t2 rfl
theorem tw_451 : (Jvm.Cond.fieldLink "UnikernelHttp" (57 : Nat) "UnikernelHttp" "store" "LUnikernelHttp$Store;") ∈ lw_tbl := ux_in 211 ux_t2 rfl
theorem tw_452 : (Jvm.Cond.fieldLink "UnikernelHttp" (66 : Nat) "UnikernelHttp" "http" "LUnikernelHttp$Http;") ∈ lw_tbl := ux_in 212 ux_t2 rfl
theorem tw_453 : (Jvm.Cond.fieldLink "UnikernelHttp" (70 : Nat) "UnikernelHttp" "echo" "[B") ∈ lw_tbl := ux_in 213 ux_t2 rfl
theorem tw_454 : (Jvm.Cond.fieldLink "UnikernelHttp" (73 : Nat) "UnikernelHttp" "datagram" "[B") ∈ lw_tbl := ux_in 214 ux_t2 rfl
theorem tw_1492 : (Jvm.Cond.methodLink "UnikernelHttpModel$Peer" (3 : Nat) ({ cls := "java/lang/Object", name := "<init>", desc := "()V" } : Jvm.MethodName)) ∈ lw_tbl := ux_in 52 ux_t7 rfl
theorem tw_1511 : (Jvm.Cond.fieldLink "UnikernelHttpModel$Peer" (9 : Nat) "UnikernelHttpModel$Peer" "inbox" "[B") ∈ lw_tbl := ux_in 71 ux_t7 rfl
theorem tw_1513 : (Jvm.Cond.fieldLink "UnikernelHttpModel$Peer" (15 : Nat) "UnikernelHttpModel$Peer" "early" "[B") ∈ lw_tbl := ux_in 73 ux_t7 rfl
theorem tw_1515 : (Jvm.Cond.fieldLink "UnikernelHttpModel$Peer" (18 : Nat) "UnikernelHttpModel$Peer" "there" "[Z") ∈ lw_tbl := ux_in 75 ux_t7 rfl
theorem tw_1524 : (Jvm.Cond.fieldLink "UnikernelHttpModel$Peer" (22 : Nat) "UnikernelHttpModel$Peer" "outbox" "[B") ∈ lw_tbl := ux_in 84 ux_t7 rfl
theorem tw_1593 : (Jvm.Cond.arrayClass Jvm.ClassFile.FieldType.boolean) ∈ lw_tbl := ux_in 153 ux_t7 rfl
abbrev b_U_init : ByteArray := prog_1_method_1_code
abbrev y_U_init : MethodName := ⟨"UnikernelHttp", "<init>", "()V"⟩
theorem d_U_init_0 : decode b_U_init 0 = .ok (.aload_n 0, 1) := by decide +kernel
theorem d_U_init_1 : decode b_U_init 1 = .ok (.invokespecial 5, 3) := by decide +kernel
theorem d_U_init_4 : decode b_U_init 4 = .ok (.aload_n 0, 1) := by decide +kernel
theorem d_U_init_5 : decode b_U_init 5 = .ok (.sipush 2000, 3) := by decide +kernel
theorem d_U_init_8 : decode b_U_init 8 = .ok (.newarray .byte, 2) := by decide +kernel
theorem d_U_init_10 : decode b_U_init 10 = .ok (.putfield 11, 3) := by decide +kernel
theorem d_U_init_13 : decode b_U_init 13 = .ok (.aload_n 0, 1) := by decide +kernel
theorem d_U_init_14 : decode b_U_init 14 = .ok (.new 15, 3) := by decide +kernel
theorem d_U_init_17 : decode b_U_init 17 = .ok (.dup, 1) := by decide +kernel
theorem d_U_init_18 : decode b_U_init 18 = .ok (.invokespecial 17, 3) := by decide +kernel
theorem d_U_init_21 : decode b_U_init 21 = .ok (.putfield 18, 3) := by decide +kernel
theorem d_U_init_24 : decode b_U_init 24 = .ok (.aload_n 0, 1) := by decide +kernel
theorem d_U_init_25 : decode b_U_init 25 = .ok (.new 22, 3) := by decide +kernel
theorem d_U_init_28 : decode b_U_init 28 = .ok (.dup, 1) := by decide +kernel
theorem d_U_init_29 : decode b_U_init 29 = .ok (.aload_n 0, 1) := by decide +kernel
theorem d_U_init_30 : decode b_U_init 30 = .ok (.getfield 18, 3) := by decide +kernel
theorem d_U_init_33 : decode b_U_init 33 = .ok (.invokespecial 24, 3) := by decide +kernel
theorem d_U_init_36 : decode b_U_init 36 = .ok (.putfield 27, 3) := by decide +kernel
theorem d_U_init_39 : decode b_U_init 39 = .ok (.aload_n 0, 1) := by decide +kernel
theorem d_U_init_40 : decode b_U_init 40 = .ok (.new 31, 3) := by decide +kernel
theorem d_U_init_43 : decode b_U_init 43 = .ok (.dup, 1) := by decide +kernel
theorem d_U_init_44 : decode b_U_init 44 = .ok (.invokespecial 33, 3) := by decide +kernel
theorem d_U_init_47 : decode b_U_init 47 = .ok (.putfield 34, 3) := by decide +kernel
theorem d_U_init_50 : decode b_U_init 50 = .ok (.aload_n 0, 1) := by decide +kernel
theorem d_U_init_51 : decode b_U_init 51 = .ok (.new 38, 3) := by decide +kernel
theorem d_U_init_54 : decode b_U_init 54 = .ok (.dup, 1) := by decide +kernel
theorem d_U_init_55 : decode b_U_init 55 = .ok (.invokespecial 40, 3) := by decide +kernel
theorem d_U_init_58 : decode b_U_init 58 = .ok (.putfield 41, 3) := by decide +kernel
theorem d_U_init_61 : decode b_U_init 61 = .ok (.aload_n 0, 1) := by decide +kernel
theorem d_U_init_62 : decode b_U_init 62 = .ok (.new 45, 3) := by decide +kernel
theorem d_U_init_65 : decode b_U_init 65 = .ok (.dup, 1) := by decide +kernel
theorem d_U_init_66 : decode b_U_init 66 = .ok (.aload_n 0, 1) := by decide +kernel
theorem d_U_init_67 : decode b_U_init 67 = .ok (.getfield 27, 3) := by decide +kernel
theorem d_U_init_70 : decode b_U_init 70 = .ok (.invokespecial 47, 3) := by decide +kernel
theorem d_U_init_73 : decode b_U_init 73 = .ok (.putfield 50, 3) := by decide +kernel
theorem d_U_init_76 : decode b_U_init 76 = .ok (.aload_n 0, 1) := by decide +kernel
theorem d_U_init_77 : decode b_U_init 77 = .ok (.new 54, 3) := by decide +kernel
theorem d_U_init_80 : decode b_U_init 80 = .ok (.dup, 1) := by decide +kernel
theorem d_U_init_81 : decode b_U_init 81 = .ok (.invokespecial 56, 3) := by decide +kernel
theorem d_U_init_84 : decode b_U_init 84 = .ok (.putfield 57, 3) := by decide +kernel
theorem d_U_init_87 : decode b_U_init 87 = .ok (.aload_n 0, 1) := by decide +kernel
theorem d_U_init_88 : decode b_U_init 88 = .ok (.new 61, 3) := by decide +kernel
theorem d_U_init_91 : decode b_U_init 91 = .ok (.dup, 1) := by decide +kernel
theorem d_U_init_92 : decode b_U_init 92 = .ok (.aload_n 0, 1) := by decide +kernel
theorem d_U_init_93 : decode b_U_init 93 = .ok (.getfield 57, 3) := by decide +kernel
theorem d_U_init_96 : decode b_U_init 96 = .ok (.invokespecial 63, 3) := by decide +kernel
theorem d_U_init_99 : decode b_U_init 99 = .ok (.putfield 66, 3) := by decide +kernel
theorem d_U_init_102 : decode b_U_init 102 = .ok (.aload_n 0, 1) := by decide +kernel
theorem d_U_init_103 : decode b_U_init 103 = .ok (.sipush 1484, 3) := by decide +kernel
theorem d_U_init_106 : decode b_U_init 106 = .ok (.newarray .byte, 2) := by decide +kernel
theorem d_U_init_108 : decode b_U_init 108 = .ok (.putfield 70, 3) := by decide +kernel
theorem d_U_init_111 : decode b_U_init 111 = .ok (.aload_n 0, 1) := by decide +kernel
theorem d_U_init_112 : decode b_U_init 112 = .ok (.aload_n 0, 1) := by decide +kernel
theorem d_U_init_113 : decode b_U_init 113 = .ok (.getfield 11, 3) := by decide +kernel
theorem d_U_init_116 : decode b_U_init 116 = .ok (.putfield 73, 3) := by decide +kernel
theorem d_U_init_119 : decode b_U_init 119 = .ok (.return_, 1) := by decide +kernel
abbrev b_Pe_init : ByteArray := prog_15_method_1_code
abbrev y_Pe_init : MethodName := ⟨"UnikernelHttpModel$Peer", "<init>", "()V"⟩
theorem d_Pe_init_0 : decode b_Pe_init 0 = .ok (.aload_n 0, 1) := by decide +kernel
theorem d_Pe_init_1 : decode b_Pe_init 1 = .ok (.invokespecial 3, 3) := by decide +kernel
theorem d_Pe_init_4 : decode b_Pe_init 4 = .ok (.aload_n 0, 1) := by decide +kernel
theorem d_Pe_init_5 : decode b_Pe_init 5 = .ok (.sipush 2048, 3) := by decide +kernel
theorem d_Pe_init_8 : decode b_Pe_init 8 = .ok (.newarray .byte, 2) := by decide +kernel
theorem d_Pe_init_10 : decode b_Pe_init 10 = .ok (.putfield 9, 3) := by decide +kernel
theorem d_Pe_init_13 : decode b_Pe_init 13 = .ok (.aload_n 0, 1) := by decide +kernel
theorem d_Pe_init_14 : decode b_Pe_init 14 = .ok (.sipush 2048, 3) := by decide +kernel
theorem d_Pe_init_17 : decode b_Pe_init 17 = .ok (.newarray .byte, 2) := by decide +kernel
theorem d_Pe_init_19 : decode b_Pe_init 19 = .ok (.putfield 15, 3) := by decide +kernel
theorem d_Pe_init_22 : decode b_Pe_init 22 = .ok (.aload_n 0, 1) := by decide +kernel
theorem d_Pe_init_23 : decode b_Pe_init 23 = .ok (.sipush 2048, 3) := by decide +kernel
theorem d_Pe_init_26 : decode b_Pe_init 26 = .ok (.newarray .boolean, 2) := by decide +kernel
theorem d_Pe_init_28 : decode b_Pe_init 28 = .ok (.putfield 18, 3) := by decide +kernel
theorem d_Pe_init_31 : decode b_Pe_init 31 = .ok (.aload_n 0, 1) := by decide +kernel
theorem d_Pe_init_32 : decode b_Pe_init 32 = .ok (.sipush 4096, 3) := by decide +kernel
theorem d_Pe_init_35 : decode b_Pe_init 35 = .ok (.newarray .byte, 2) := by decide +kernel
theorem d_Pe_init_37 : decode b_Pe_init 37 = .ok (.putfield 22, 3) := by decide +kernel
theorem d_Pe_init_40 : decode b_Pe_init 40 = .ok (.return_, 1) := by decide +kernel
set_option maxHeartbeats 4000000 in
set_option maxRecDepth 100000 in
theorem c_U_init (l : Launch) (dC : Nat → ClassId) (dI : Nat → Nat → Nat) (h0 : Nat) (sz : Nat) : Met l y_U_init [Cond.code y_U_init b_U_init 1 (none)] ({ frames := 80, cells := 148, slots := 251840, locals := 1200 }) (ux_Pc [.ref h0] (dC, dI) cls [(h0, .inr (0, [.null, .int 0, .int 0, .null, .null, .null, .null, .null, .null, .null, .null, .null, .int 0, .int 0]))] [] sz) (va_Qv (fun _ : Unit => True) (fun (_ : Unit) (t : State) => ∃ (row : Nat), ∃ (nb : Nat), ∃ (wi : Nat), ∃ (ga : Nat), ∃ (sg : Nat), ∃ (tc : Nat), ∃ (st : Nat), ∃ (hp : Nat), ∃ (ec : Nat), ∃ (n1 : Nat), ∃ (n2 : Nat), ∃ (n3 : Nat), ∃ (w1 : Nat), ∃ (w2 : Nat), ∃ (g1 : Nat), ∃ (t1 : Nat), ∃ (t2 : Nat), ∃ (s1 : Nat), ∃ (s2 : Nat), ∃ (s3 : Nat), ∃ (s4 : Nat), ∃ (s5 : Nat), ∃ (cB : ClassId), ux_B (dC, dI) cls (va_A [(h0, .inr (0, [.null, .int 0, .int 0, .null, .null, .null, .null, .null, .null, .null, .null, .null, .int 0, .int 0]))] sz) [(h0, .inr (0, [.ref row, .int 0, .int 0, .ref nb, .ref wi, .ref ga, .ref sg, .ref tc, .ref st, .ref hp, .ref ec, .ref row, .int 0, .int 0])), (row, .inl (cB, 2000, .inl (fun _ => 0))), (nb, .inr (1, [.ref n1, .ref n2, .ref n3, .int 0, .int 0])), (wi, .inr (2, [.ref nb, .ref w1, .ref w2, .int 0, .int 0])), (ga, .inr (3, [.ref g1, .int 0])), (tc, .inr (6, [.ref t1, .ref t2, .ref wi, .int 0, .int 0])), (st, .inr (10, [.ref s1, .ref s2, .ref s3, .ref s4, .ref s5, .int 0]))] [(cB, .byte)] t) (va_A [(h0, .inr (0, [.null, .int 0, .int 0, .null, .null, .null, .null, .null, .null, .null, .null, .null, .int 0, .int 0]))] sz)) 148 251840 (va_A [(h0, .inr (0, [.null, .int 0, .int 0, .null, .null, .null, .null, .null, .null, .null, .null, .null, .int 0, .int 0]))] sz) := by
  refine Met.ofW (cc := b_U_init) (maxL := 1) (ret := none) (by decide) rfl ?_
  intro p e s m args below meth c s₁ B hml hv
  obtain ⟨rfl, hsz, hP, hK, hD0, hT⟩ := hv
  have hx := B.exec
  have hb := B.bytes
  have hr := B.returns
  have hown : s.vm.findClass "UnikernelHttp" = some m.cls := findClass_of_methodNamed B.named
  have hlocks := B.notSynchronized
  have hin : meth.name = "<init>" := (name_of_methodNamed B.named B.method).1
  subst hsz
  have hD := hD0.self (sz := s.heap.size)
  have hns := ux_ns hP
  generalize hAe : va_A [(h0, .inr (0, [.null, .int 0, .int 0, .null, .null, .null, .null, .null, .null, .null, .null, .null, .int 0, .int 0]))] s.heap.size = A at hD hns ⊢
  have hA : ∀ q : Nat, s.heap.size ≤ q → A q := fun q h => by rw [← hAe]; exact Or.inr h
  have hS : va_S A s.heap s.heap [] := va_S.rf
  have hl := lv_entry ([.ref h0]) (n := 1) (Nat.le_of_ble_eq_true rfl)
  rw [lg_entry_eq]
  generalize (lg_sl ([.ref h0]) ++ List.replicate (1 - (lg_sl ([.ref h0])).length) Slot.unset).toArray = ls at hl ⊢
  have hl : lv_has ls 1 [(0, .ref h0)] := hl
  have hfx : CallFix p m c b_U_init 1 s ([.ref h0] : List Value).toArray [] "UnikernelHttp" := ⟨hx, hb, hml, hown, fun _ h => by cases h⟩
  refine lv_aload_n hx hb d_U_init_0 rfl (lv_at hl 0 rfl) ?_
  refine W.objInit hx hb hown (ux_T_at hT tw_39 rfl) (ux_T_at hT tw_40 rfl) (ux_T_at hT tw_41 rfl) rfl (by rw [hml]; exact hl.1) rfl d_U_init_1 (Nat.le_of_ble_eq_true rfl) (Nat.le_of_ble_eq_true rfl) ?_
  refine W.eq (g2 := F0 m 4 ls []) rfl ?_
  refine lv_aload_n hx hb d_U_init_4 rfl (lv_at hl 0 rfl) ?_
  refine lv_sipush (v := 2000) hx hb d_U_init_5 (by decide) ?_
  refine va_newa (atype := .byte) (ty := .byte) (N' := 2000) (a0 := (2000, .inl (fun _ => 0))) hx hb (ux_T_at hT tw_66 rfl) rfl hK hP hD hS hA (fun _ => rfl) (by decide) (by decide +kernel) (by decide +kernel) (Nat.le_of_ble_eq_true rfl) (Nat.le_of_ble_eq_true rfl) d_U_init_8 (fun q1 cA2 H hK hP hD hS => ?_)
  have hP : va_P (dC, dI) cls [(h0, .inr (0, [.null, .int 0, .int 0, .null, .null, .null, .null, .null, .null, .null, .null, .null, .int 0, .int 0])), (q1, .inl (cA2, 2000, .inl (fun _ => 0)))] H := hP
  have hD : va_D A [(h0, .inr (0, [.null, .int 0, .int 0, .null, .null, .null, .null, .null, .null, .null, .null, .null, .int 0, .int 0])), (q1, .inl (cA2, 2000, .inl (fun _ => 0)))] := hD
  have hK : va_K (dC, dI) cls [(cA2, .byte)] s := hK
  refine va_putF (D := (dC, dI)) (ci := 0) (v := .ref q1) (ty := .array .byte) (C := R_U) (T := F_U) (N := 14) hx hb (u_U hT) (fun _ h => h) t_U k_U n_U hown hK hP hD hS 0 rfl rfl 0 (by decide) (ux_T_at hT tw_443 rfl) (fun _ h9 => h9) rfl hin rfl (by decide +kernel) rfl rfl (Nat.le_of_ble_eq_true rfl) d_U_init_10 (fun H locs hP hD hS => ?_)
  have hP : va_P (dC, dI) cls [(h0, .inr (0, [.ref q1, .int 0, .int 0, .null, .null, .null, .null, .null, .null, .null, .null, .null, .int 0, .int 0])), (q1, .inl (cA2, 2000, .inl (fun _ => 0)))] H := hP
  have hD : va_D A [(h0, .inr (0, [.ref q1, .int 0, .int 0, .null, .null, .null, .null, .null, .null, .null, .null, .null, .int 0, .int 0])), (q1, .inl (cA2, 2000, .inl (fun _ => 0)))] := hD
  refine lv_aload_n hx hb d_U_init_13 rfl (lv_at hl 0 rfl) ?_
  refine va_new (ci := 1) (fs := [.null, .null, .null, .int 0, .int 0]) (C := R_N) (T := F_N) (N := 5) hx hb (u_N hT) (fun _ h => h) t_N k_N hown (ux_T_at hT tw_42 rfl) (ux_T_at hT tw_43 rfl) (ux_T_at hT tw_2 rfl) hK hP hD hS hA rfl z_N (Nat.le_of_ble_eq_true rfl) (Nat.le_of_ble_eq_true rfl) d_U_init_14 (fun q3 H hP hD hS => ?_)
  have hP : va_P (dC, dI) cls [(h0, .inr (0, [.ref q1, .int 0, .int 0, .null, .null, .null, .null, .null, .null, .null, .null, .null, .int 0, .int 0])), (q1, .inl (cA2, 2000, .inl (fun _ => 0))), (q3, .inr (1, [.null, .null, .null, .int 0, .int 0]))] H := hP
  have hD : va_D A [(h0, .inr (0, [.ref q1, .int 0, .int 0, .null, .null, .null, .null, .null, .null, .null, .null, .null, .int 0, .int 0])), (q1, .inl (cA2, 2000, .inl (fun _ => 0))), (q3, .inr (1, [.null, .null, .null, .int 0, .int 0]))] := hD
  refine lv_dup hx hb d_U_init_17 rfl ?_
  have hPc := hP.sub (ws' := [(q3, .inr (1, [.null, .null, .null, .int 0, .int 0]))]) [2] rfl
  have hDc := hD.sub (ws' := [(q3, .inr (1, [.null, .null, .null, .int 0, .int 0]))]) [2] (by decide) rfl
  have hKc := hK.sub (tys' := []) [] rfl
  have hFc := va_free (wc := [(q3, .inr (1, [.null, .null, .null, .int 0, .int 0]))]) hD hS hA [2] rfl
  have hkc : 2 + 3 ≤ 148 := (Nat.le_of_ble_eq_true rfl)
  refine va_callv (va_runIN (As := []) (rest := [.ref q3, .ref h0]) hfx (c_N_init l dC dI q3 H.size) ⟨(ux_cn 0 hT tw_46 tw_44 tw_2 rfl rfl (by decide +kernel) ⟨(Nat.le_of_ble_eq_true rfl), (Nat.le_of_ble_eq_true rfl)⟩), rfl, (ux_T_at hT tw_45 rfl)⟩ (ux_pre [.ref q3] hT hPc hKc hDc) rfl rfl hl.1 rfl (lv_room (Nat.le_of_ble_eq_true rfl)) d_U_init_18 ⟨(Nat.le_of_ble_eq_true rfl), (Nat.le_of_ble_eq_true rfl)⟩) hS (fun q _ h => hFc q h) hFc (fun u t H1 locs ht hvm hw hB hz1 hk1 hS => ?_)
  obtain ⟨q5, q6, q7, hP1, hK1, hD1⟩ := hB
  rw [ht] at hP1
  have hK1 := va_K.moved hvm.symm hK1
  obtain ⟨hP, hD⟩ := va_join (wr := [(h0, .inr (0, [.ref q1, .int 0, .int 0, .null, .null, .null, .null, .null, .null, .null, .null, .null, .int 0, .int 0])), (q1, .inl (cA2, 2000, .inl (fun _ => 0)))]) (w1 := [(q3, .inr (1, [.ref q5, .ref q6, .ref q7, .int 0, .int 0]))]) hP hD [2] [0, 1] rfl rfl (by decide) (by decide) hk1 hFc hP1 hD1
  have hK := (hK.sub (tys' := [(cA2, .byte)]) [0] rfl).app hK1
  generalize H1 = H at hP hS ⊢
  have hP : va_P (dC, dI) cls [(h0, .inr (0, [.ref q1, .int 0, .int 0, .null, .null, .null, .null, .null, .null, .null, .null, .null, .int 0, .int 0])), (q1, .inl (cA2, 2000, .inl (fun _ => 0))), (q3, .inr (1, [.ref q5, .ref q6, .ref q7, .int 0, .int 0]))] H := hP
  have hD : va_D A [(h0, .inr (0, [.ref q1, .int 0, .int 0, .null, .null, .null, .null, .null, .null, .null, .null, .null, .int 0, .int 0])), (q1, .inl (cA2, 2000, .inl (fun _ => 0))), (q3, .inr (1, [.ref q5, .ref q6, .ref q7, .int 0, .int 0]))] := hD
  have hK : va_K (dC, dI) cls [(cA2, .byte)] s := hK
  refine va_putF (D := (dC, dI)) (ci := 0) (v := .ref q3) (ty := .object "UnikernelHttp$Neighbours") (C := R_U) (T := F_U) (N := 14) hx hb (u_U hT) (fun _ h => h) t_U k_U n_U hown hK hP hD hS 0 rfl rfl 3 (by decide) (ux_T_at hT tw_446 rfl) (fun _ h9 => h9) rfl hin rfl (by decide +kernel) rfl rfl (Nat.le_of_ble_eq_true rfl) d_U_init_21 (fun H locs hP hD hS => ?_)
  have hP : va_P (dC, dI) cls [(h0, .inr (0, [.ref q1, .int 0, .int 0, .ref q3, .null, .null, .null, .null, .null, .null, .null, .null, .int 0, .int 0])), (q1, .inl (cA2, 2000, .inl (fun _ => 0))), (q3, .inr (1, [.ref q5, .ref q6, .ref q7, .int 0, .int 0]))] H := hP
  have hD : va_D A [(h0, .inr (0, [.ref q1, .int 0, .int 0, .ref q3, .null, .null, .null, .null, .null, .null, .null, .null, .int 0, .int 0])), (q1, .inl (cA2, 2000, .inl (fun _ => 0))), (q3, .inr (1, [.ref q5, .ref q6, .ref q7, .int 0, .int 0]))] := hD
  refine lv_aload_n hx hb d_U_init_24 rfl (lv_at hl 0 rfl) ?_
  refine va_new (ci := 2) (fs := [.null, .null, .null, .int 0, .int 0]) (C := R_Wi) (T := F_Wi) (N := 5) hx hb (u_Wi hT) (fun _ h => h) t_Wi k_Wi hown (ux_T_at hT tw_69 rfl) (ux_T_at hT tw_70 rfl) (ux_T_at hT tw_3 rfl) hK hP hD hS hA rfl z_Wi (Nat.le_of_ble_eq_true rfl) (Nat.le_of_ble_eq_true rfl) d_U_init_25 (fun q8 H hP hD hS => ?_)
  have hP : va_P (dC, dI) cls [(h0, .inr (0, [.ref q1, .int 0, .int 0, .ref q3, .null, .null, .null, .null, .null, .null, .null, .null, .int 0, .int 0])), (q1, .inl (cA2, 2000, .inl (fun _ => 0))), (q3, .inr (1, [.ref q5, .ref q6, .ref q7, .int 0, .int 0])), (q8, .inr (2, [.null, .null, .null, .int 0, .int 0]))] H := hP
  have hD : va_D A [(h0, .inr (0, [.ref q1, .int 0, .int 0, .ref q3, .null, .null, .null, .null, .null, .null, .null, .null, .int 0, .int 0])), (q1, .inl (cA2, 2000, .inl (fun _ => 0))), (q3, .inr (1, [.ref q5, .ref q6, .ref q7, .int 0, .int 0])), (q8, .inr (2, [.null, .null, .null, .int 0, .int 0]))] := hD
  refine lv_dup hx hb d_U_init_28 rfl ?_
  refine lv_aload_n hx hb d_U_init_29 rfl (lv_at hl 0 rfl) ?_
  refine va_get (D := (dC, dI)) (ci := 0) (v := .ref q3) (C := R_U) (T := F_U) (N := 14) hx hb (u_U hT) (fun _ h => h) hown hK hP 0 rfl rfl 3 (by decide) (ux_T_at hT tw_446 rfl) (fun _ h9 => h9) rfl d_U_init_30 ?_
  have hPc := hP.sub (ws' := [(q8, .inr (2, [.null, .null, .null, .int 0, .int 0]))]) [3] rfl
  have hDc := hD.sub (ws' := [(q8, .inr (2, [.null, .null, .null, .int 0, .int 0]))]) [3] (by decide) rfl
  have hKc := hK.sub (tys' := []) [] rfl
  have hFc := va_free (wc := [(q8, .inr (2, [.null, .null, .null, .int 0, .int 0]))]) hD hS hA [3] rfl
  have hkc : 6 + 2 ≤ 148 := (Nat.le_of_ble_eq_true rfl)
  refine va_callv (va_runIN (As := [.ref q3]) (rest := [.ref q8, .ref h0]) hfx (c_Wi_init l dC dI q8 q3 H.size) ⟨(ux_cn 1 hT tw_73 tw_71 tw_3 rfl rfl (by decide +kernel) ⟨(Nat.le_of_ble_eq_true rfl), (Nat.le_of_ble_eq_true rfl)⟩), rfl, (ux_T_at hT tw_72 rfl)⟩ (ux_pre [.ref q8, .ref q3] hT hPc hKc hDc) rfl rfl hl.1 rfl (lv_room (Nat.le_of_ble_eq_true rfl)) d_U_init_33 ⟨(Nat.le_of_ble_eq_true rfl), (Nat.le_of_ble_eq_true rfl)⟩) hS (fun q _ h => hFc q h) hFc (fun u t H1 locs ht hvm hw hB hz1 hk1 hS => ?_)
  obtain ⟨q10, q11, hP1, hK1, hD1⟩ := hB
  rw [ht] at hP1
  have hK1 := va_K.moved hvm.symm hK1
  obtain ⟨hP, hD⟩ := va_join (wr := [(h0, .inr (0, [.ref q1, .int 0, .int 0, .ref q3, .null, .null, .null, .null, .null, .null, .null, .null, .int 0, .int 0])), (q1, .inl (cA2, 2000, .inl (fun _ => 0))), (q3, .inr (1, [.ref q5, .ref q6, .ref q7, .int 0, .int 0]))]) (w1 := [(q8, .inr (2, [.ref q3, .ref q10, .ref q11, .int 0, .int 0]))]) hP hD [3] [0, 1, 2] rfl rfl (by decide) (by decide) hk1 hFc hP1 hD1
  have hK := (hK.sub (tys' := [(cA2, .byte)]) [0] rfl).app hK1
  generalize H1 = H at hP hS ⊢
  have hP : va_P (dC, dI) cls [(h0, .inr (0, [.ref q1, .int 0, .int 0, .ref q3, .null, .null, .null, .null, .null, .null, .null, .null, .int 0, .int 0])), (q1, .inl (cA2, 2000, .inl (fun _ => 0))), (q3, .inr (1, [.ref q5, .ref q6, .ref q7, .int 0, .int 0])), (q8, .inr (2, [.ref q3, .ref q10, .ref q11, .int 0, .int 0]))] H := hP
  have hD : va_D A [(h0, .inr (0, [.ref q1, .int 0, .int 0, .ref q3, .null, .null, .null, .null, .null, .null, .null, .null, .int 0, .int 0])), (q1, .inl (cA2, 2000, .inl (fun _ => 0))), (q3, .inr (1, [.ref q5, .ref q6, .ref q7, .int 0, .int 0])), (q8, .inr (2, [.ref q3, .ref q10, .ref q11, .int 0, .int 0]))] := hD
  have hK : va_K (dC, dI) cls [(cA2, .byte)] s := hK
  refine va_putF (D := (dC, dI)) (ci := 0) (v := .ref q8) (ty := .object "UnikernelHttp$Wire") (C := R_U) (T := F_U) (N := 14) hx hb (u_U hT) (fun _ h => h) t_U k_U n_U hown hK hP hD hS 0 rfl rfl 4 (by decide) (ux_T_at hT tw_447 rfl) (fun _ h9 => h9) rfl hin rfl (by decide +kernel) rfl rfl (Nat.le_of_ble_eq_true rfl) d_U_init_36 (fun H locs hP hD hS => ?_)
  have hP : va_P (dC, dI) cls [(h0, .inr (0, [.ref q1, .int 0, .int 0, .ref q3, .ref q8, .null, .null, .null, .null, .null, .null, .null, .int 0, .int 0])), (q1, .inl (cA2, 2000, .inl (fun _ => 0))), (q3, .inr (1, [.ref q5, .ref q6, .ref q7, .int 0, .int 0])), (q8, .inr (2, [.ref q3, .ref q10, .ref q11, .int 0, .int 0]))] H := hP
  have hD : va_D A [(h0, .inr (0, [.ref q1, .int 0, .int 0, .ref q3, .ref q8, .null, .null, .null, .null, .null, .null, .null, .int 0, .int 0])), (q1, .inl (cA2, 2000, .inl (fun _ => 0))), (q3, .inr (1, [.ref q5, .ref q6, .ref q7, .int 0, .int 0])), (q8, .inr (2, [.ref q3, .ref q10, .ref q11, .int 0, .int 0]))] := hD
  refine lv_aload_n hx hb d_U_init_39 rfl (lv_at hl 0 rfl) ?_
  refine va_new (ci := 3) (fs := [.null, .int 0]) (C := R_Gs) (T := F_Gs) (N := 2) hx hb (u_Gs hT) (fun _ h => h) t_Gs k_Gs hown (ux_T_at hT tw_95 rfl) (ux_T_at hT tw_96 rfl) (ux_T_at hT tw_4 rfl) hK hP hD hS hA rfl z_Gs (Nat.le_of_ble_eq_true rfl) (Nat.le_of_ble_eq_true rfl) d_U_init_40 (fun q12 H hP hD hS => ?_)
  have hP : va_P (dC, dI) cls [(h0, .inr (0, [.ref q1, .int 0, .int 0, .ref q3, .ref q8, .null, .null, .null, .null, .null, .null, .null, .int 0, .int 0])), (q1, .inl (cA2, 2000, .inl (fun _ => 0))), (q3, .inr (1, [.ref q5, .ref q6, .ref q7, .int 0, .int 0])), (q8, .inr (2, [.ref q3, .ref q10, .ref q11, .int 0, .int 0])), (q12, .inr (3, [.null, .int 0]))] H := hP
  have hD : va_D A [(h0, .inr (0, [.ref q1, .int 0, .int 0, .ref q3, .ref q8, .null, .null, .null, .null, .null, .null, .null, .int 0, .int 0])), (q1, .inl (cA2, 2000, .inl (fun _ => 0))), (q3, .inr (1, [.ref q5, .ref q6, .ref q7, .int 0, .int 0])), (q8, .inr (2, [.ref q3, .ref q10, .ref q11, .int 0, .int 0])), (q12, .inr (3, [.null, .int 0]))] := hD
  refine lv_dup hx hb d_U_init_43 rfl ?_
  have hPc := hP.sub (ws' := [(q12, .inr (3, [.null, .int 0]))]) [4] rfl
  have hDc := hD.sub (ws' := [(q12, .inr (3, [.null, .int 0]))]) [4] (by decide) rfl
  have hKc := hK.sub (tys' := []) [] rfl
  have hFc := va_free (wc := [(q12, .inr (3, [.null, .int 0]))]) hD hS hA [4] rfl
  have hkc : 9 + 13 ≤ 148 := (Nat.le_of_ble_eq_true rfl)
  refine va_callv (va_runIN (As := []) (rest := [.ref q12, .ref h0]) hfx (c_Gs_init l dC dI q12 H.size) ⟨(ux_cn 0 hT tw_99 tw_97 tw_4 rfl rfl (by decide +kernel) ⟨(Nat.le_of_ble_eq_true rfl), (Nat.le_of_ble_eq_true rfl)⟩), rfl, (ux_T_at hT tw_98 rfl)⟩ (ux_pre [.ref q12] hT hPc hKc hDc) rfl rfl hl.1 rfl (lv_room (Nat.le_of_ble_eq_true rfl)) d_U_init_44 ⟨(Nat.le_of_ble_eq_true rfl), (Nat.le_of_ble_eq_true rfl)⟩) hS (fun q _ h => hFc q h) hFc (fun u t H1 locs ht hvm hw hB hz1 hk1 hS => ?_)
  obtain ⟨q14, hP1, hK1, hD1⟩ := hB
  rw [ht] at hP1
  have hK1 := va_K.moved hvm.symm hK1
  obtain ⟨hP, hD⟩ := va_join (wr := [(h0, .inr (0, [.ref q1, .int 0, .int 0, .ref q3, .ref q8, .null, .null, .null, .null, .null, .null, .null, .int 0, .int 0])), (q1, .inl (cA2, 2000, .inl (fun _ => 0))), (q3, .inr (1, [.ref q5, .ref q6, .ref q7, .int 0, .int 0])), (q8, .inr (2, [.ref q3, .ref q10, .ref q11, .int 0, .int 0]))]) (w1 := [(q12, .inr (3, [.ref q14, .int 0]))]) hP hD [4] [0, 1, 2, 3] rfl rfl (by decide) (by decide) hk1 hFc hP1 hD1
  have hK := (hK.sub (tys' := [(cA2, .byte)]) [0] rfl).app hK1
  generalize H1 = H at hP hS ⊢
  have hP : va_P (dC, dI) cls [(h0, .inr (0, [.ref q1, .int 0, .int 0, .ref q3, .ref q8, .null, .null, .null, .null, .null, .null, .null, .int 0, .int 0])), (q1, .inl (cA2, 2000, .inl (fun _ => 0))), (q3, .inr (1, [.ref q5, .ref q6, .ref q7, .int 0, .int 0])), (q8, .inr (2, [.ref q3, .ref q10, .ref q11, .int 0, .int 0])), (q12, .inr (3, [.ref q14, .int 0]))] H := hP
  have hD : va_D A [(h0, .inr (0, [.ref q1, .int 0, .int 0, .ref q3, .ref q8, .null, .null, .null, .null, .null, .null, .null, .int 0, .int 0])), (q1, .inl (cA2, 2000, .inl (fun _ => 0))), (q3, .inr (1, [.ref q5, .ref q6, .ref q7, .int 0, .int 0])), (q8, .inr (2, [.ref q3, .ref q10, .ref q11, .int 0, .int 0])), (q12, .inr (3, [.ref q14, .int 0]))] := hD
  have hK : va_K (dC, dI) cls [(cA2, .byte)] s := hK
  refine va_putF (D := (dC, dI)) (ci := 0) (v := .ref q12) (ty := .object "UnikernelHttp$Gatherings") (C := R_U) (T := F_U) (N := 14) hx hb (u_U hT) (fun _ h => h) t_U k_U n_U hown hK hP hD hS 0 rfl rfl 5 (by decide) (ux_T_at hT tw_448 rfl) (fun _ h9 => h9) rfl hin rfl (by decide +kernel) rfl rfl (Nat.le_of_ble_eq_true rfl) d_U_init_47 (fun H locs hP hD hS => ?_)
  have hP : va_P (dC, dI) cls [(h0, .inr (0, [.ref q1, .int 0, .int 0, .ref q3, .ref q8, .ref q12, .null, .null, .null, .null, .null, .null, .int 0, .int 0])), (q1, .inl (cA2, 2000, .inl (fun _ => 0))), (q3, .inr (1, [.ref q5, .ref q6, .ref q7, .int 0, .int 0])), (q8, .inr (2, [.ref q3, .ref q10, .ref q11, .int 0, .int 0])), (q12, .inr (3, [.ref q14, .int 0]))] H := hP
  have hD : va_D A [(h0, .inr (0, [.ref q1, .int 0, .int 0, .ref q3, .ref q8, .ref q12, .null, .null, .null, .null, .null, .null, .int 0, .int 0])), (q1, .inl (cA2, 2000, .inl (fun _ => 0))), (q3, .inr (1, [.ref q5, .ref q6, .ref q7, .int 0, .int 0])), (q8, .inr (2, [.ref q3, .ref q10, .ref q11, .int 0, .int 0])), (q12, .inr (3, [.ref q14, .int 0]))] := hD
  refine lv_aload_n hx hb d_U_init_50 rfl (lv_at hl 0 rfl) ?_
  refine va_new (ci := 5) (fs := [.null, .int 0, .int 0, .int 0, .int 0, .int 0, .int 0, .int 0, .int 0, .int 0, .int 0, .int 0]) (C := R_Sg) (T := F_Sg) (N := 12) hx hb (u_Sg hT) (fun _ h => h) t_Sg k_Sg hown (ux_T_at hT tw_150 rfl) (ux_T_at hT tw_151 rfl) (ux_T_at hT tw_6 rfl) hK hP hD hS hA rfl z_Sg (Nat.le_of_ble_eq_true rfl) (Nat.le_of_ble_eq_true rfl) d_U_init_51 (fun q15 H hP hD hS => ?_)
  have hP : va_P (dC, dI) cls [(h0, .inr (0, [.ref q1, .int 0, .int 0, .ref q3, .ref q8, .ref q12, .null, .null, .null, .null, .null, .null, .int 0, .int 0])), (q1, .inl (cA2, 2000, .inl (fun _ => 0))), (q3, .inr (1, [.ref q5, .ref q6, .ref q7, .int 0, .int 0])), (q8, .inr (2, [.ref q3, .ref q10, .ref q11, .int 0, .int 0])), (q12, .inr (3, [.ref q14, .int 0])), (q15, .inr (5, [.null, .int 0, .int 0, .int 0, .int 0, .int 0, .int 0, .int 0, .int 0, .int 0, .int 0, .int 0]))] H := hP
  have hD : va_D A [(h0, .inr (0, [.ref q1, .int 0, .int 0, .ref q3, .ref q8, .ref q12, .null, .null, .null, .null, .null, .null, .int 0, .int 0])), (q1, .inl (cA2, 2000, .inl (fun _ => 0))), (q3, .inr (1, [.ref q5, .ref q6, .ref q7, .int 0, .int 0])), (q8, .inr (2, [.ref q3, .ref q10, .ref q11, .int 0, .int 0])), (q12, .inr (3, [.ref q14, .int 0])), (q15, .inr (5, [.null, .int 0, .int 0, .int 0, .int 0, .int 0, .int 0, .int 0, .int 0, .int 0, .int 0, .int 0]))] := hD
  refine lv_dup hx hb d_U_init_54 rfl ?_
  have hPc := hP.sub (ws' := [(q15, .inr (5, [.null, .int 0, .int 0, .int 0, .int 0, .int 0, .int 0, .int 0, .int 0, .int 0, .int 0, .int 0]))]) [5] rfl
  have hDc := hD.sub (ws' := [(q15, .inr (5, [.null, .int 0, .int 0, .int 0, .int 0, .int 0, .int 0, .int 0, .int 0, .int 0, .int 0, .int 0]))]) [5] (by decide) rfl
  have hKc := hK.sub (tys' := []) [] rfl
  have hFc := va_free (wc := [(q15, .inr (5, [.null, .int 0, .int 0, .int 0, .int 0, .int 0, .int 0, .int 0, .int 0, .int 0, .int 0, .int 0]))]) hD hS hA [5] rfl
  have hkc : 23 + 1 ≤ 148 := (Nat.le_of_ble_eq_true rfl)
  refine va_callv (va_runIN (As := []) (rest := [.ref q15, .ref h0]) hfx (c_Sg_init l dC dI q15 H.size) ⟨(ux_cn 0 hT tw_154 tw_152 tw_6 rfl rfl (by decide +kernel) ⟨(Nat.le_of_ble_eq_true rfl), (Nat.le_of_ble_eq_true rfl)⟩), rfl, (ux_T_at hT tw_153 rfl)⟩ (ux_pre [.ref q15] hT hPc hKc hDc) rfl rfl hl.1 rfl (lv_room (Nat.le_of_ble_eq_true rfl)) d_U_init_55 ⟨(Nat.le_of_ble_eq_true rfl), (Nat.le_of_ble_eq_true rfl)⟩) hS (fun q _ h => hFc q h) hFc (fun u t H1 locs ht hvm hw hB hz1 hk1 hS => ?_)
  obtain ⟨q17, hP1, hK1, hD1⟩ := hB
  rw [ht] at hP1
  have hK1 := va_K.moved hvm.symm hK1
  obtain ⟨hP, hD⟩ := va_join (wr := [(h0, .inr (0, [.ref q1, .int 0, .int 0, .ref q3, .ref q8, .ref q12, .null, .null, .null, .null, .null, .null, .int 0, .int 0])), (q1, .inl (cA2, 2000, .inl (fun _ => 0))), (q3, .inr (1, [.ref q5, .ref q6, .ref q7, .int 0, .int 0])), (q8, .inr (2, [.ref q3, .ref q10, .ref q11, .int 0, .int 0])), (q12, .inr (3, [.ref q14, .int 0]))]) (w1 := [(q15, .inr (5, [.ref q17, .int 0, .int 0, .int 0, .int 0, .int 0, .int 0, .int 0, .int 0, .int 0, .int 0, .int 0]))]) hP hD [5] [0, 1, 2, 3, 4] rfl rfl (by decide) (by decide) hk1 hFc hP1 hD1
  have hK := (hK.sub (tys' := [(cA2, .byte)]) [0] rfl).app hK1
  generalize H1 = H at hP hS ⊢
  have hP : va_P (dC, dI) cls [(h0, .inr (0, [.ref q1, .int 0, .int 0, .ref q3, .ref q8, .ref q12, .null, .null, .null, .null, .null, .null, .int 0, .int 0])), (q1, .inl (cA2, 2000, .inl (fun _ => 0))), (q3, .inr (1, [.ref q5, .ref q6, .ref q7, .int 0, .int 0])), (q8, .inr (2, [.ref q3, .ref q10, .ref q11, .int 0, .int 0])), (q12, .inr (3, [.ref q14, .int 0])), (q15, .inr (5, [.ref q17, .int 0, .int 0, .int 0, .int 0, .int 0, .int 0, .int 0, .int 0, .int 0, .int 0, .int 0]))] H := hP
  have hD : va_D A [(h0, .inr (0, [.ref q1, .int 0, .int 0, .ref q3, .ref q8, .ref q12, .null, .null, .null, .null, .null, .null, .int 0, .int 0])), (q1, .inl (cA2, 2000, .inl (fun _ => 0))), (q3, .inr (1, [.ref q5, .ref q6, .ref q7, .int 0, .int 0])), (q8, .inr (2, [.ref q3, .ref q10, .ref q11, .int 0, .int 0])), (q12, .inr (3, [.ref q14, .int 0])), (q15, .inr (5, [.ref q17, .int 0, .int 0, .int 0, .int 0, .int 0, .int 0, .int 0, .int 0, .int 0, .int 0, .int 0]))] := hD
  have hK : va_K (dC, dI) cls [(cA2, .byte)] s := hK
  refine va_putF (D := (dC, dI)) (ci := 0) (v := .ref q15) (ty := .object "UnikernelHttp$Segment") (C := R_U) (T := F_U) (N := 14) hx hb (u_U hT) (fun _ h => h) t_U k_U n_U hown hK hP hD hS 0 rfl rfl 6 (by decide) (ux_T_at hT tw_449 rfl) (fun _ h9 => h9) rfl hin rfl (by decide +kernel) rfl rfl (Nat.le_of_ble_eq_true rfl) d_U_init_58 (fun H locs hP hD hS => ?_)
  have hP : va_P (dC, dI) cls [(h0, .inr (0, [.ref q1, .int 0, .int 0, .ref q3, .ref q8, .ref q12, .ref q15, .null, .null, .null, .null, .null, .int 0, .int 0])), (q1, .inl (cA2, 2000, .inl (fun _ => 0))), (q3, .inr (1, [.ref q5, .ref q6, .ref q7, .int 0, .int 0])), (q8, .inr (2, [.ref q3, .ref q10, .ref q11, .int 0, .int 0])), (q12, .inr (3, [.ref q14, .int 0])), (q15, .inr (5, [.ref q17, .int 0, .int 0, .int 0, .int 0, .int 0, .int 0, .int 0, .int 0, .int 0, .int 0, .int 0]))] H := hP
  have hD : va_D A [(h0, .inr (0, [.ref q1, .int 0, .int 0, .ref q3, .ref q8, .ref q12, .ref q15, .null, .null, .null, .null, .null, .int 0, .int 0])), (q1, .inl (cA2, 2000, .inl (fun _ => 0))), (q3, .inr (1, [.ref q5, .ref q6, .ref q7, .int 0, .int 0])), (q8, .inr (2, [.ref q3, .ref q10, .ref q11, .int 0, .int 0])), (q12, .inr (3, [.ref q14, .int 0])), (q15, .inr (5, [.ref q17, .int 0, .int 0, .int 0, .int 0, .int 0, .int 0, .int 0, .int 0, .int 0, .int 0, .int 0]))] := hD
  have hP := hP.sub (ws' := [(h0, .inr (0, [.ref q1, .int 0, .int 0, .ref q3, .ref q8, .ref q12, .ref q15, .null, .null, .null, .null, .null, .int 0, .int 0])), (q1, .inl (cA2, 2000, .inl (fun _ => 0))), (q3, .inr (1, [.ref q5, .ref q6, .ref q7, .int 0, .int 0])), (q8, .inr (2, [.ref q3, .ref q10, .ref q11, .int 0, .int 0])), (q12, .inr (3, [.ref q14, .int 0]))]) [0, 1, 2, 3, 4] rfl
  have hD := hD.sub (ws' := [(h0, .inr (0, [.ref q1, .int 0, .int 0, .ref q3, .ref q8, .ref q12, .ref q15, .null, .null, .null, .null, .null, .int 0, .int 0])), (q1, .inl (cA2, 2000, .inl (fun _ => 0))), (q3, .inr (1, [.ref q5, .ref q6, .ref q7, .int 0, .int 0])), (q8, .inr (2, [.ref q3, .ref q10, .ref q11, .int 0, .int 0])), (q12, .inr (3, [.ref q14, .int 0]))]) [0, 1, 2, 3, 4] (by decide) rfl
  refine lv_aload_n hx hb d_U_init_61 rfl (lv_at hl 0 rfl) ?_
  refine va_new (ci := 6) (fs := [.null, .null, .null, .int 0, .int 0]) (C := R_Tc) (T := F_Tc) (N := 5) hx hb (u_Tc hT) (fun _ h => h) t_Tc k_Tc hown (ux_T_at hT tw_214 rfl) (ux_T_at hT tw_215 rfl) (ux_T_at hT tw_7 rfl) hK hP hD hS hA rfl z_Tc (Nat.le_of_ble_eq_true rfl) (Nat.le_of_ble_eq_true rfl) d_U_init_62 (fun q18 H hP hD hS => ?_)
  have hP : va_P (dC, dI) cls [(h0, .inr (0, [.ref q1, .int 0, .int 0, .ref q3, .ref q8, .ref q12, .ref q15, .null, .null, .null, .null, .null, .int 0, .int 0])), (q1, .inl (cA2, 2000, .inl (fun _ => 0))), (q3, .inr (1, [.ref q5, .ref q6, .ref q7, .int 0, .int 0])), (q8, .inr (2, [.ref q3, .ref q10, .ref q11, .int 0, .int 0])), (q12, .inr (3, [.ref q14, .int 0])), (q18, .inr (6, [.null, .null, .null, .int 0, .int 0]))] H := hP
  have hD : va_D A [(h0, .inr (0, [.ref q1, .int 0, .int 0, .ref q3, .ref q8, .ref q12, .ref q15, .null, .null, .null, .null, .null, .int 0, .int 0])), (q1, .inl (cA2, 2000, .inl (fun _ => 0))), (q3, .inr (1, [.ref q5, .ref q6, .ref q7, .int 0, .int 0])), (q8, .inr (2, [.ref q3, .ref q10, .ref q11, .int 0, .int 0])), (q12, .inr (3, [.ref q14, .int 0])), (q18, .inr (6, [.null, .null, .null, .int 0, .int 0]))] := hD
  refine lv_dup hx hb d_U_init_65 rfl ?_
  refine lv_aload_n hx hb d_U_init_66 rfl (lv_at hl 0 rfl) ?_
  refine va_get (D := (dC, dI)) (ci := 0) (v := .ref q8) (C := R_U) (T := F_U) (N := 14) hx hb (u_U hT) (fun _ h => h) hown hK hP 0 rfl rfl 4 (by decide) (ux_T_at hT tw_447 rfl) (fun _ h9 => h9) rfl d_U_init_67 ?_
  have hPc := hP.sub (ws' := [(q18, .inr (6, [.null, .null, .null, .int 0, .int 0]))]) [5] rfl
  have hDc := hD.sub (ws' := [(q18, .inr (6, [.null, .null, .null, .int 0, .int 0]))]) [5] (by decide) rfl
  have hKc := hK.sub (tys' := []) [] rfl
  have hFc := va_free (wc := [(q18, .inr (6, [.null, .null, .null, .int 0, .int 0]))]) hD hS hA [5] rfl
  have hkc : 25 + 50 ≤ 148 := (Nat.le_of_ble_eq_true rfl)
  refine va_callv (va_runIN (As := [.ref q8]) (rest := [.ref q18, .ref h0]) hfx (c_Tc_init l dC dI q18 q8 H.size) ⟨(ux_cn 1 hT tw_218 tw_216 tw_7 rfl rfl (by decide +kernel) ⟨(Nat.le_of_ble_eq_true rfl), (Nat.le_of_ble_eq_true rfl)⟩), rfl, (ux_T_at hT tw_217 rfl)⟩ (ux_pre [.ref q18, .ref q8] hT hPc hKc hDc) rfl rfl hl.1 rfl (lv_room (Nat.le_of_ble_eq_true rfl)) d_U_init_70 ⟨(Nat.le_of_ble_eq_true rfl), (Nat.le_of_ble_eq_true rfl)⟩) hS (fun q _ h => hFc q h) hFc (fun u t H1 locs ht hvm hw hB hz1 hk1 hS => ?_)
  obtain ⟨q20, q21, hP1, hK1, hD1⟩ := hB
  rw [ht] at hP1
  have hK1 := va_K.moved hvm.symm hK1
  obtain ⟨hP, hD⟩ := va_join (wr := [(h0, .inr (0, [.ref q1, .int 0, .int 0, .ref q3, .ref q8, .ref q12, .ref q15, .null, .null, .null, .null, .null, .int 0, .int 0])), (q1, .inl (cA2, 2000, .inl (fun _ => 0))), (q3, .inr (1, [.ref q5, .ref q6, .ref q7, .int 0, .int 0])), (q8, .inr (2, [.ref q3, .ref q10, .ref q11, .int 0, .int 0])), (q12, .inr (3, [.ref q14, .int 0]))]) (w1 := [(q18, .inr (6, [.ref q20, .ref q21, .ref q8, .int 0, .int 0]))]) hP hD [5] [0, 1, 2, 3, 4] rfl rfl (by decide) (by decide) hk1 hFc hP1 hD1
  have hK := (hK.sub (tys' := [(cA2, .byte)]) [0] rfl).app hK1
  generalize H1 = H at hP hS ⊢
  have hP : va_P (dC, dI) cls [(h0, .inr (0, [.ref q1, .int 0, .int 0, .ref q3, .ref q8, .ref q12, .ref q15, .null, .null, .null, .null, .null, .int 0, .int 0])), (q1, .inl (cA2, 2000, .inl (fun _ => 0))), (q3, .inr (1, [.ref q5, .ref q6, .ref q7, .int 0, .int 0])), (q8, .inr (2, [.ref q3, .ref q10, .ref q11, .int 0, .int 0])), (q12, .inr (3, [.ref q14, .int 0])), (q18, .inr (6, [.ref q20, .ref q21, .ref q8, .int 0, .int 0]))] H := hP
  have hD : va_D A [(h0, .inr (0, [.ref q1, .int 0, .int 0, .ref q3, .ref q8, .ref q12, .ref q15, .null, .null, .null, .null, .null, .int 0, .int 0])), (q1, .inl (cA2, 2000, .inl (fun _ => 0))), (q3, .inr (1, [.ref q5, .ref q6, .ref q7, .int 0, .int 0])), (q8, .inr (2, [.ref q3, .ref q10, .ref q11, .int 0, .int 0])), (q12, .inr (3, [.ref q14, .int 0])), (q18, .inr (6, [.ref q20, .ref q21, .ref q8, .int 0, .int 0]))] := hD
  have hK : va_K (dC, dI) cls [(cA2, .byte)] s := hK
  refine va_putF (D := (dC, dI)) (ci := 0) (v := .ref q18) (ty := .object "UnikernelHttp$Tcp") (C := R_U) (T := F_U) (N := 14) hx hb (u_U hT) (fun _ h => h) t_U k_U n_U hown hK hP hD hS 0 rfl rfl 7 (by decide) (ux_T_at hT tw_450 rfl) (fun _ h9 => h9) rfl hin rfl (by decide +kernel) rfl rfl (Nat.le_of_ble_eq_true rfl) d_U_init_73 (fun H locs hP hD hS => ?_)
  have hP : va_P (dC, dI) cls [(h0, .inr (0, [.ref q1, .int 0, .int 0, .ref q3, .ref q8, .ref q12, .ref q15, .ref q18, .null, .null, .null, .null, .int 0, .int 0])), (q1, .inl (cA2, 2000, .inl (fun _ => 0))), (q3, .inr (1, [.ref q5, .ref q6, .ref q7, .int 0, .int 0])), (q8, .inr (2, [.ref q3, .ref q10, .ref q11, .int 0, .int 0])), (q12, .inr (3, [.ref q14, .int 0])), (q18, .inr (6, [.ref q20, .ref q21, .ref q8, .int 0, .int 0]))] H := hP
  have hD : va_D A [(h0, .inr (0, [.ref q1, .int 0, .int 0, .ref q3, .ref q8, .ref q12, .ref q15, .ref q18, .null, .null, .null, .null, .int 0, .int 0])), (q1, .inl (cA2, 2000, .inl (fun _ => 0))), (q3, .inr (1, [.ref q5, .ref q6, .ref q7, .int 0, .int 0])), (q8, .inr (2, [.ref q3, .ref q10, .ref q11, .int 0, .int 0])), (q12, .inr (3, [.ref q14, .int 0])), (q18, .inr (6, [.ref q20, .ref q21, .ref q8, .int 0, .int 0]))] := hD
  refine lv_aload_n hx hb d_U_init_76 rfl (lv_at hl 0 rfl) ?_
  refine va_new (ci := 10) (fs := [.null, .null, .null, .null, .null, .int 0]) (C := R_So) (T := F_So) (N := 6) hx hb (u_So hT) (fun _ h => h) t_So k_So hown (ux_T_at hT tw_388 rfl) (ux_T_at hT tw_389 rfl) (ux_T_at hT tw_11 rfl) hK hP hD hS hA rfl z_So (Nat.le_of_ble_eq_true rfl) (Nat.le_of_ble_eq_true rfl) d_U_init_77 (fun q22 H hP hD hS => ?_)
  have hP : va_P (dC, dI) cls [(h0, .inr (0, [.ref q1, .int 0, .int 0, .ref q3, .ref q8, .ref q12, .ref q15, .ref q18, .null, .null, .null, .null, .int 0, .int 0])), (q1, .inl (cA2, 2000, .inl (fun _ => 0))), (q3, .inr (1, [.ref q5, .ref q6, .ref q7, .int 0, .int 0])), (q8, .inr (2, [.ref q3, .ref q10, .ref q11, .int 0, .int 0])), (q12, .inr (3, [.ref q14, .int 0])), (q18, .inr (6, [.ref q20, .ref q21, .ref q8, .int 0, .int 0])), (q22, .inr (10, [.null, .null, .null, .null, .null, .int 0]))] H := hP
  have hD : va_D A [(h0, .inr (0, [.ref q1, .int 0, .int 0, .ref q3, .ref q8, .ref q12, .ref q15, .ref q18, .null, .null, .null, .null, .int 0, .int 0])), (q1, .inl (cA2, 2000, .inl (fun _ => 0))), (q3, .inr (1, [.ref q5, .ref q6, .ref q7, .int 0, .int 0])), (q8, .inr (2, [.ref q3, .ref q10, .ref q11, .int 0, .int 0])), (q12, .inr (3, [.ref q14, .int 0])), (q18, .inr (6, [.ref q20, .ref q21, .ref q8, .int 0, .int 0])), (q22, .inr (10, [.null, .null, .null, .null, .null, .int 0]))] := hD
  refine lv_dup hx hb d_U_init_80 rfl ?_
  have hPc := hP.sub (ws' := [(q22, .inr (10, [.null, .null, .null, .null, .null, .int 0]))]) [6] rfl
  have hDc := hD.sub (ws' := [(q22, .inr (10, [.null, .null, .null, .null, .null, .int 0]))]) [6] (by decide) rfl
  have hKc := hK.sub (tys' := []) [] rfl
  have hFc := va_free (wc := [(q22, .inr (10, [.null, .null, .null, .null, .null, .int 0]))]) hD hS hA [6] rfl
  have hkc : 76 + 69 ≤ 148 := (Nat.le_of_ble_eq_true rfl)
  refine va_callv (va_runIN (As := []) (rest := [.ref q22, .ref h0]) hfx (c_So_init l dC dI q22 H.size) ⟨(ux_cn 0 hT tw_392 tw_390 tw_11 rfl rfl (by decide +kernel) ⟨(Nat.le_of_ble_eq_true rfl), (Nat.le_of_ble_eq_true rfl)⟩), rfl, (ux_T_at hT tw_391 rfl)⟩ (ux_pre [.ref q22] hT hPc hKc hDc) rfl rfl hl.1 rfl (lv_room (Nat.le_of_ble_eq_true rfl)) d_U_init_81 ⟨(Nat.le_of_ble_eq_true rfl), (Nat.le_of_ble_eq_true rfl)⟩) hS (fun q _ h => hFc q h) hFc (fun u t H1 locs ht hvm hw hB hz1 hk1 hS => ?_)
  obtain ⟨q24, q25, q26, q27, q28, hP1, hK1, hD1⟩ := hB
  rw [ht] at hP1
  have hK1 := va_K.moved hvm.symm hK1
  obtain ⟨hP, hD⟩ := va_join (wr := [(h0, .inr (0, [.ref q1, .int 0, .int 0, .ref q3, .ref q8, .ref q12, .ref q15, .ref q18, .null, .null, .null, .null, .int 0, .int 0])), (q1, .inl (cA2, 2000, .inl (fun _ => 0))), (q3, .inr (1, [.ref q5, .ref q6, .ref q7, .int 0, .int 0])), (q8, .inr (2, [.ref q3, .ref q10, .ref q11, .int 0, .int 0])), (q12, .inr (3, [.ref q14, .int 0])), (q18, .inr (6, [.ref q20, .ref q21, .ref q8, .int 0, .int 0]))]) (w1 := [(q22, .inr (10, [.ref q24, .ref q25, .ref q26, .ref q27, .ref q28, .int 0]))]) hP hD [6] [0, 1, 2, 3, 4, 5] rfl rfl (by decide) (by decide) hk1 hFc hP1 hD1
  have hK := (hK.sub (tys' := [(cA2, .byte)]) [0] rfl).app hK1
  generalize H1 = H at hP hS ⊢
  have hP : va_P (dC, dI) cls [(h0, .inr (0, [.ref q1, .int 0, .int 0, .ref q3, .ref q8, .ref q12, .ref q15, .ref q18, .null, .null, .null, .null, .int 0, .int 0])), (q1, .inl (cA2, 2000, .inl (fun _ => 0))), (q3, .inr (1, [.ref q5, .ref q6, .ref q7, .int 0, .int 0])), (q8, .inr (2, [.ref q3, .ref q10, .ref q11, .int 0, .int 0])), (q12, .inr (3, [.ref q14, .int 0])), (q18, .inr (6, [.ref q20, .ref q21, .ref q8, .int 0, .int 0])), (q22, .inr (10, [.ref q24, .ref q25, .ref q26, .ref q27, .ref q28, .int 0]))] H := hP
  have hD : va_D A [(h0, .inr (0, [.ref q1, .int 0, .int 0, .ref q3, .ref q8, .ref q12, .ref q15, .ref q18, .null, .null, .null, .null, .int 0, .int 0])), (q1, .inl (cA2, 2000, .inl (fun _ => 0))), (q3, .inr (1, [.ref q5, .ref q6, .ref q7, .int 0, .int 0])), (q8, .inr (2, [.ref q3, .ref q10, .ref q11, .int 0, .int 0])), (q12, .inr (3, [.ref q14, .int 0])), (q18, .inr (6, [.ref q20, .ref q21, .ref q8, .int 0, .int 0])), (q22, .inr (10, [.ref q24, .ref q25, .ref q26, .ref q27, .ref q28, .int 0]))] := hD
  have hK : va_K (dC, dI) cls [(cA2, .byte)] s := hK
  refine va_putF (D := (dC, dI)) (ci := 0) (v := .ref q22) (ty := .object "UnikernelHttp$Store") (C := R_U) (T := F_U) (N := 14) hx hb (u_U hT) (fun _ h => h) t_U k_U n_U hown hK hP hD hS 0 rfl rfl 8 (by decide) (ux_T_at hT tw_451 rfl) (fun _ h9 => h9) rfl hin rfl (by decide +kernel) rfl rfl (Nat.le_of_ble_eq_true rfl) d_U_init_84 (fun H locs hP hD hS => ?_)
  have hP : va_P (dC, dI) cls [(h0, .inr (0, [.ref q1, .int 0, .int 0, .ref q3, .ref q8, .ref q12, .ref q15, .ref q18, .ref q22, .null, .null, .null, .int 0, .int 0])), (q1, .inl (cA2, 2000, .inl (fun _ => 0))), (q3, .inr (1, [.ref q5, .ref q6, .ref q7, .int 0, .int 0])), (q8, .inr (2, [.ref q3, .ref q10, .ref q11, .int 0, .int 0])), (q12, .inr (3, [.ref q14, .int 0])), (q18, .inr (6, [.ref q20, .ref q21, .ref q8, .int 0, .int 0])), (q22, .inr (10, [.ref q24, .ref q25, .ref q26, .ref q27, .ref q28, .int 0]))] H := hP
  have hD : va_D A [(h0, .inr (0, [.ref q1, .int 0, .int 0, .ref q3, .ref q8, .ref q12, .ref q15, .ref q18, .ref q22, .null, .null, .null, .int 0, .int 0])), (q1, .inl (cA2, 2000, .inl (fun _ => 0))), (q3, .inr (1, [.ref q5, .ref q6, .ref q7, .int 0, .int 0])), (q8, .inr (2, [.ref q3, .ref q10, .ref q11, .int 0, .int 0])), (q12, .inr (3, [.ref q14, .int 0])), (q18, .inr (6, [.ref q20, .ref q21, .ref q8, .int 0, .int 0])), (q22, .inr (10, [.ref q24, .ref q25, .ref q26, .ref q27, .ref q28, .int 0]))] := hD
  refine lv_aload_n hx hb d_U_init_87 rfl (lv_at hl 0 rfl) ?_
  refine va_new (ci := 11) (fs := [.null, .null, .int 0, .int 0, .int 0]) (C := R_Ht) (T := F_Ht) (N := 5) hx hb (u_Ht hT) (fun _ h => h) t_Ht k_Ht hown (ux_T_at hT tw_421 rfl) (ux_T_at hT tw_422 rfl) (ux_T_at hT tw_12 rfl) hK hP hD hS hA rfl z_Ht (Nat.le_of_ble_eq_true rfl) (Nat.le_of_ble_eq_true rfl) d_U_init_88 (fun q29 H hP hD hS => ?_)
  have hP : va_P (dC, dI) cls [(h0, .inr (0, [.ref q1, .int 0, .int 0, .ref q3, .ref q8, .ref q12, .ref q15, .ref q18, .ref q22, .null, .null, .null, .int 0, .int 0])), (q1, .inl (cA2, 2000, .inl (fun _ => 0))), (q3, .inr (1, [.ref q5, .ref q6, .ref q7, .int 0, .int 0])), (q8, .inr (2, [.ref q3, .ref q10, .ref q11, .int 0, .int 0])), (q12, .inr (3, [.ref q14, .int 0])), (q18, .inr (6, [.ref q20, .ref q21, .ref q8, .int 0, .int 0])), (q22, .inr (10, [.ref q24, .ref q25, .ref q26, .ref q27, .ref q28, .int 0])), (q29, .inr (11, [.null, .null, .int 0, .int 0, .int 0]))] H := hP
  have hD : va_D A [(h0, .inr (0, [.ref q1, .int 0, .int 0, .ref q3, .ref q8, .ref q12, .ref q15, .ref q18, .ref q22, .null, .null, .null, .int 0, .int 0])), (q1, .inl (cA2, 2000, .inl (fun _ => 0))), (q3, .inr (1, [.ref q5, .ref q6, .ref q7, .int 0, .int 0])), (q8, .inr (2, [.ref q3, .ref q10, .ref q11, .int 0, .int 0])), (q12, .inr (3, [.ref q14, .int 0])), (q18, .inr (6, [.ref q20, .ref q21, .ref q8, .int 0, .int 0])), (q22, .inr (10, [.ref q24, .ref q25, .ref q26, .ref q27, .ref q28, .int 0])), (q29, .inr (11, [.null, .null, .int 0, .int 0, .int 0]))] := hD
  refine lv_dup hx hb d_U_init_91 rfl ?_
  refine lv_aload_n hx hb d_U_init_92 rfl (lv_at hl 0 rfl) ?_
  refine va_get (D := (dC, dI)) (ci := 0) (v := .ref q22) (C := R_U) (T := F_U) (N := 14) hx hb (u_U hT) (fun _ h => h) hown hK hP 0 rfl rfl 8 (by decide) (ux_T_at hT tw_451 rfl) (fun _ h9 => h9) rfl d_U_init_93 ?_
  have hPc := hP.sub (ws' := [(q29, .inr (11, [.null, .null, .int 0, .int 0, .int 0]))]) [7] rfl
  have hDc := hD.sub (ws' := [(q29, .inr (11, [.null, .null, .int 0, .int 0, .int 0]))]) [7] (by decide) rfl
  have hKc := hK.sub (tys' := []) [] rfl
  have hFc := va_free (wc := [(q29, .inr (11, [.null, .null, .int 0, .int 0, .int 0]))]) hD hS hA [7] rfl
  have hkc : 146 + 1 ≤ 148 := (Nat.le_of_ble_eq_true rfl)
  refine va_callv (va_runIN (As := [.ref q22]) (rest := [.ref q29, .ref h0]) hfx (c_Ht_init l dC dI q29 q22 H.size) ⟨(ux_cn 1 hT tw_425 tw_423 tw_12 rfl rfl (by decide +kernel) ⟨(Nat.le_of_ble_eq_true rfl), (Nat.le_of_ble_eq_true rfl)⟩), rfl, (ux_T_at hT tw_424 rfl)⟩ (ux_pre [.ref q29, .ref q22] hT hPc hKc hDc) rfl rfl hl.1 rfl (lv_room (Nat.le_of_ble_eq_true rfl)) d_U_init_96 ⟨(Nat.le_of_ble_eq_true rfl), (Nat.le_of_ble_eq_true rfl)⟩) hS (fun q _ h => hFc q h) hFc (fun u t H1 locs ht hvm hw hB hz1 hk1 hS => ?_)
  obtain ⟨q31, hP1, hK1, hD1⟩ := hB
  rw [ht] at hP1
  have hK1 := va_K.moved hvm.symm hK1
  obtain ⟨hP, hD⟩ := va_join (wr := [(h0, .inr (0, [.ref q1, .int 0, .int 0, .ref q3, .ref q8, .ref q12, .ref q15, .ref q18, .ref q22, .null, .null, .null, .int 0, .int 0])), (q1, .inl (cA2, 2000, .inl (fun _ => 0))), (q3, .inr (1, [.ref q5, .ref q6, .ref q7, .int 0, .int 0])), (q8, .inr (2, [.ref q3, .ref q10, .ref q11, .int 0, .int 0])), (q12, .inr (3, [.ref q14, .int 0])), (q18, .inr (6, [.ref q20, .ref q21, .ref q8, .int 0, .int 0])), (q22, .inr (10, [.ref q24, .ref q25, .ref q26, .ref q27, .ref q28, .int 0]))]) (w1 := [(q29, .inr (11, [.ref q22, .ref q31, .int 0, .int 0, .int 0]))]) hP hD [7] [0, 1, 2, 3, 4, 5, 6] rfl rfl (by decide) (by decide) hk1 hFc hP1 hD1
  have hK := (hK.sub (tys' := [(cA2, .byte)]) [0] rfl).app hK1
  generalize H1 = H at hP hS ⊢
  have hP : va_P (dC, dI) cls [(h0, .inr (0, [.ref q1, .int 0, .int 0, .ref q3, .ref q8, .ref q12, .ref q15, .ref q18, .ref q22, .null, .null, .null, .int 0, .int 0])), (q1, .inl (cA2, 2000, .inl (fun _ => 0))), (q3, .inr (1, [.ref q5, .ref q6, .ref q7, .int 0, .int 0])), (q8, .inr (2, [.ref q3, .ref q10, .ref q11, .int 0, .int 0])), (q12, .inr (3, [.ref q14, .int 0])), (q18, .inr (6, [.ref q20, .ref q21, .ref q8, .int 0, .int 0])), (q22, .inr (10, [.ref q24, .ref q25, .ref q26, .ref q27, .ref q28, .int 0])), (q29, .inr (11, [.ref q22, .ref q31, .int 0, .int 0, .int 0]))] H := hP
  have hD : va_D A [(h0, .inr (0, [.ref q1, .int 0, .int 0, .ref q3, .ref q8, .ref q12, .ref q15, .ref q18, .ref q22, .null, .null, .null, .int 0, .int 0])), (q1, .inl (cA2, 2000, .inl (fun _ => 0))), (q3, .inr (1, [.ref q5, .ref q6, .ref q7, .int 0, .int 0])), (q8, .inr (2, [.ref q3, .ref q10, .ref q11, .int 0, .int 0])), (q12, .inr (3, [.ref q14, .int 0])), (q18, .inr (6, [.ref q20, .ref q21, .ref q8, .int 0, .int 0])), (q22, .inr (10, [.ref q24, .ref q25, .ref q26, .ref q27, .ref q28, .int 0])), (q29, .inr (11, [.ref q22, .ref q31, .int 0, .int 0, .int 0]))] := hD
  have hK : va_K (dC, dI) cls [(cA2, .byte)] s := hK
  refine va_putF (D := (dC, dI)) (ci := 0) (v := .ref q29) (ty := .object "UnikernelHttp$Http") (C := R_U) (T := F_U) (N := 14) hx hb (u_U hT) (fun _ h => h) t_U k_U n_U hown hK hP hD hS 0 rfl rfl 9 (by decide) (ux_T_at hT tw_452 rfl) (fun _ h9 => h9) rfl hin rfl (by decide +kernel) rfl rfl (Nat.le_of_ble_eq_true rfl) d_U_init_99 (fun H locs hP hD hS => ?_)
  have hP : va_P (dC, dI) cls [(h0, .inr (0, [.ref q1, .int 0, .int 0, .ref q3, .ref q8, .ref q12, .ref q15, .ref q18, .ref q22, .ref q29, .null, .null, .int 0, .int 0])), (q1, .inl (cA2, 2000, .inl (fun _ => 0))), (q3, .inr (1, [.ref q5, .ref q6, .ref q7, .int 0, .int 0])), (q8, .inr (2, [.ref q3, .ref q10, .ref q11, .int 0, .int 0])), (q12, .inr (3, [.ref q14, .int 0])), (q18, .inr (6, [.ref q20, .ref q21, .ref q8, .int 0, .int 0])), (q22, .inr (10, [.ref q24, .ref q25, .ref q26, .ref q27, .ref q28, .int 0])), (q29, .inr (11, [.ref q22, .ref q31, .int 0, .int 0, .int 0]))] H := hP
  have hD : va_D A [(h0, .inr (0, [.ref q1, .int 0, .int 0, .ref q3, .ref q8, .ref q12, .ref q15, .ref q18, .ref q22, .ref q29, .null, .null, .int 0, .int 0])), (q1, .inl (cA2, 2000, .inl (fun _ => 0))), (q3, .inr (1, [.ref q5, .ref q6, .ref q7, .int 0, .int 0])), (q8, .inr (2, [.ref q3, .ref q10, .ref q11, .int 0, .int 0])), (q12, .inr (3, [.ref q14, .int 0])), (q18, .inr (6, [.ref q20, .ref q21, .ref q8, .int 0, .int 0])), (q22, .inr (10, [.ref q24, .ref q25, .ref q26, .ref q27, .ref q28, .int 0])), (q29, .inr (11, [.ref q22, .ref q31, .int 0, .int 0, .int 0]))] := hD
  have hP := hP.sub (ws' := [(h0, .inr (0, [.ref q1, .int 0, .int 0, .ref q3, .ref q8, .ref q12, .ref q15, .ref q18, .ref q22, .ref q29, .null, .null, .int 0, .int 0])), (q1, .inl (cA2, 2000, .inl (fun _ => 0))), (q3, .inr (1, [.ref q5, .ref q6, .ref q7, .int 0, .int 0])), (q8, .inr (2, [.ref q3, .ref q10, .ref q11, .int 0, .int 0])), (q12, .inr (3, [.ref q14, .int 0])), (q18, .inr (6, [.ref q20, .ref q21, .ref q8, .int 0, .int 0])), (q22, .inr (10, [.ref q24, .ref q25, .ref q26, .ref q27, .ref q28, .int 0]))]) [0, 1, 2, 3, 4, 5, 6] rfl
  have hD := hD.sub (ws' := [(h0, .inr (0, [.ref q1, .int 0, .int 0, .ref q3, .ref q8, .ref q12, .ref q15, .ref q18, .ref q22, .ref q29, .null, .null, .int 0, .int 0])), (q1, .inl (cA2, 2000, .inl (fun _ => 0))), (q3, .inr (1, [.ref q5, .ref q6, .ref q7, .int 0, .int 0])), (q8, .inr (2, [.ref q3, .ref q10, .ref q11, .int 0, .int 0])), (q12, .inr (3, [.ref q14, .int 0])), (q18, .inr (6, [.ref q20, .ref q21, .ref q8, .int 0, .int 0])), (q22, .inr (10, [.ref q24, .ref q25, .ref q26, .ref q27, .ref q28, .int 0]))]) [0, 1, 2, 3, 4, 5, 6] (by decide) rfl
  refine lv_aload_n hx hb d_U_init_102 rfl (lv_at hl 0 rfl) ?_
  refine lv_sipush (v := 1484) hx hb d_U_init_103 (by decide) ?_
  refine va_newa (atype := .byte) (ty := .byte) (N' := 1484) (a0 := (1484, .inl (fun _ => 0))) hx hb (ux_T_at hT tw_66 rfl) rfl hK hP hD hS hA (fun _ => rfl) (by decide) (by decide +kernel) (by decide +kernel) (Nat.le_of_ble_eq_true rfl) (Nat.le_of_ble_eq_true rfl) d_U_init_106 (fun q32 cA33 H hK hP hD hS => ?_)
  have hP : va_P (dC, dI) cls [(h0, .inr (0, [.ref q1, .int 0, .int 0, .ref q3, .ref q8, .ref q12, .ref q15, .ref q18, .ref q22, .ref q29, .null, .null, .int 0, .int 0])), (q1, .inl (cA2, 2000, .inl (fun _ => 0))), (q3, .inr (1, [.ref q5, .ref q6, .ref q7, .int 0, .int 0])), (q8, .inr (2, [.ref q3, .ref q10, .ref q11, .int 0, .int 0])), (q12, .inr (3, [.ref q14, .int 0])), (q18, .inr (6, [.ref q20, .ref q21, .ref q8, .int 0, .int 0])), (q22, .inr (10, [.ref q24, .ref q25, .ref q26, .ref q27, .ref q28, .int 0])), (q32, .inl (cA33, 1484, .inl (fun _ => 0)))] H := hP
  have hD : va_D A [(h0, .inr (0, [.ref q1, .int 0, .int 0, .ref q3, .ref q8, .ref q12, .ref q15, .ref q18, .ref q22, .ref q29, .null, .null, .int 0, .int 0])), (q1, .inl (cA2, 2000, .inl (fun _ => 0))), (q3, .inr (1, [.ref q5, .ref q6, .ref q7, .int 0, .int 0])), (q8, .inr (2, [.ref q3, .ref q10, .ref q11, .int 0, .int 0])), (q12, .inr (3, [.ref q14, .int 0])), (q18, .inr (6, [.ref q20, .ref q21, .ref q8, .int 0, .int 0])), (q22, .inr (10, [.ref q24, .ref q25, .ref q26, .ref q27, .ref q28, .int 0])), (q32, .inl (cA33, 1484, .inl (fun _ => 0)))] := hD
  have hK : va_K (dC, dI) cls [(cA2, .byte), (cA33, .byte)] s := hK
  refine va_putF (D := (dC, dI)) (ci := 0) (v := .ref q32) (ty := .array .byte) (C := R_U) (T := F_U) (N := 14) hx hb (u_U hT) (fun _ h => h) t_U k_U n_U hown hK hP hD hS 0 rfl rfl 10 (by decide) (ux_T_at hT tw_453 rfl) (fun _ h9 => h9) rfl hin rfl (by decide +kernel) rfl rfl (Nat.le_of_ble_eq_true rfl) d_U_init_108 (fun H locs hP hD hS => ?_)
  have hP : va_P (dC, dI) cls [(h0, .inr (0, [.ref q1, .int 0, .int 0, .ref q3, .ref q8, .ref q12, .ref q15, .ref q18, .ref q22, .ref q29, .ref q32, .null, .int 0, .int 0])), (q1, .inl (cA2, 2000, .inl (fun _ => 0))), (q3, .inr (1, [.ref q5, .ref q6, .ref q7, .int 0, .int 0])), (q8, .inr (2, [.ref q3, .ref q10, .ref q11, .int 0, .int 0])), (q12, .inr (3, [.ref q14, .int 0])), (q18, .inr (6, [.ref q20, .ref q21, .ref q8, .int 0, .int 0])), (q22, .inr (10, [.ref q24, .ref q25, .ref q26, .ref q27, .ref q28, .int 0])), (q32, .inl (cA33, 1484, .inl (fun _ => 0)))] H := hP
  have hD : va_D A [(h0, .inr (0, [.ref q1, .int 0, .int 0, .ref q3, .ref q8, .ref q12, .ref q15, .ref q18, .ref q22, .ref q29, .ref q32, .null, .int 0, .int 0])), (q1, .inl (cA2, 2000, .inl (fun _ => 0))), (q3, .inr (1, [.ref q5, .ref q6, .ref q7, .int 0, .int 0])), (q8, .inr (2, [.ref q3, .ref q10, .ref q11, .int 0, .int 0])), (q12, .inr (3, [.ref q14, .int 0])), (q18, .inr (6, [.ref q20, .ref q21, .ref q8, .int 0, .int 0])), (q22, .inr (10, [.ref q24, .ref q25, .ref q26, .ref q27, .ref q28, .int 0])), (q32, .inl (cA33, 1484, .inl (fun _ => 0)))] := hD
  have hP := hP.sub (ws' := [(h0, .inr (0, [.ref q1, .int 0, .int 0, .ref q3, .ref q8, .ref q12, .ref q15, .ref q18, .ref q22, .ref q29, .ref q32, .null, .int 0, .int 0])), (q1, .inl (cA2, 2000, .inl (fun _ => 0))), (q3, .inr (1, [.ref q5, .ref q6, .ref q7, .int 0, .int 0])), (q8, .inr (2, [.ref q3, .ref q10, .ref q11, .int 0, .int 0])), (q12, .inr (3, [.ref q14, .int 0])), (q18, .inr (6, [.ref q20, .ref q21, .ref q8, .int 0, .int 0])), (q22, .inr (10, [.ref q24, .ref q25, .ref q26, .ref q27, .ref q28, .int 0]))]) [0, 1, 2, 3, 4, 5, 6] rfl
  have hD := hD.sub (ws' := [(h0, .inr (0, [.ref q1, .int 0, .int 0, .ref q3, .ref q8, .ref q12, .ref q15, .ref q18, .ref q22, .ref q29, .ref q32, .null, .int 0, .int 0])), (q1, .inl (cA2, 2000, .inl (fun _ => 0))), (q3, .inr (1, [.ref q5, .ref q6, .ref q7, .int 0, .int 0])), (q8, .inr (2, [.ref q3, .ref q10, .ref q11, .int 0, .int 0])), (q12, .inr (3, [.ref q14, .int 0])), (q18, .inr (6, [.ref q20, .ref q21, .ref q8, .int 0, .int 0])), (q22, .inr (10, [.ref q24, .ref q25, .ref q26, .ref q27, .ref q28, .int 0]))]) [0, 1, 2, 3, 4, 5, 6] (by decide) rfl
  refine lv_aload_n hx hb d_U_init_111 rfl (lv_at hl 0 rfl) ?_
  refine lv_aload_n hx hb d_U_init_112 rfl (lv_at hl 0 rfl) ?_
  refine va_get (D := (dC, dI)) (ci := 0) (v := .ref q1) (C := R_U) (T := F_U) (N := 14) hx hb (u_U hT) (fun _ h => h) hown hK hP 0 rfl rfl 0 (by decide) (ux_T_at hT tw_443 rfl) (fun _ h9 => h9) rfl d_U_init_113 ?_
  refine va_put (D := (dC, dI)) (ci := 0) (v := .ref q1) (ty := .array .byte) (C := R_U) (T := F_U) (N := 14) hx hb (u_U hT) (fun _ h => h) t_U k_U n_U hown hK hP hD hS 0 rfl rfl 11 (by decide) (ux_T_at hT tw_454 rfl) (fun _ h9 => h9) rfl (by decide +kernel) rfl rfl (Nat.le_of_ble_eq_true rfl) d_U_init_116 (fun H locs hP hD hS => ?_)
  have hP : va_P (dC, dI) cls [(h0, .inr (0, [.ref q1, .int 0, .int 0, .ref q3, .ref q8, .ref q12, .ref q15, .ref q18, .ref q22, .ref q29, .ref q32, .ref q1, .int 0, .int 0])), (q1, .inl (cA2, 2000, .inl (fun _ => 0))), (q3, .inr (1, [.ref q5, .ref q6, .ref q7, .int 0, .int 0])), (q8, .inr (2, [.ref q3, .ref q10, .ref q11, .int 0, .int 0])), (q12, .inr (3, [.ref q14, .int 0])), (q18, .inr (6, [.ref q20, .ref q21, .ref q8, .int 0, .int 0])), (q22, .inr (10, [.ref q24, .ref q25, .ref q26, .ref q27, .ref q28, .int 0]))] H := hP
  have hD : va_D A [(h0, .inr (0, [.ref q1, .int 0, .int 0, .ref q3, .ref q8, .ref q12, .ref q15, .ref q18, .ref q22, .ref q29, .ref q32, .ref q1, .int 0, .int 0])), (q1, .inl (cA2, 2000, .inl (fun _ => 0))), (q3, .inr (1, [.ref q5, .ref q6, .ref q7, .int 0, .int 0])), (q8, .inr (2, [.ref q3, .ref q10, .ref q11, .int 0, .int 0])), (q12, .inr (3, [.ref q14, .int 0])), (q18, .inr (6, [.ref q20, .ref q21, .ref q8, .int 0, .int 0])), (q22, .inr (10, [.ref q24, .ref q25, .ref q26, .ref q27, .ref q28, .int 0]))] := hD
  have hP9 := hP.sub (ws' := [(h0, .inr (0, [.ref q1, .int 0, .int 0, .ref q3, .ref q8, .ref q12, .ref q15, .ref q18, .ref q22, .ref q29, .ref q32, .ref q1, .int 0, .int 0])), (q1, .inl (cA2, 2000, .inl (fun _ => 0))), (q3, .inr (1, [.ref q5, .ref q6, .ref q7, .int 0, .int 0])), (q8, .inr (2, [.ref q3, .ref q10, .ref q11, .int 0, .int 0])), (q12, .inr (3, [.ref q14, .int 0])), (q18, .inr (6, [.ref q20, .ref q21, .ref q8, .int 0, .int 0])), (q22, .inr (10, [.ref q24, .ref q25, .ref q26, .ref q27, .ref q28, .int 0]))]) [0, 1, 2, 3, 4, 5, 6] rfl
  have hD9 := hD.sub (ws' := [(h0, .inr (0, [.ref q1, .int 0, .int 0, .ref q3, .ref q8, .ref q12, .ref q15, .ref q18, .ref q22, .ref q29, .ref q32, .ref q1, .int 0, .int 0])), (q1, .inl (cA2, 2000, .inl (fun _ => 0))), (q3, .inr (1, [.ref q5, .ref q6, .ref q7, .int 0, .int 0])), (q8, .inr (2, [.ref q3, .ref q10, .ref q11, .int 0, .int 0])), (q12, .inr (3, [.ref q14, .int 0])), (q18, .inr (6, [.ref q20, .ref q21, .ref q8, .int 0, .int 0])), (q22, .inr (10, [.ref q24, .ref q25, .ref q26, .ref q27, .ref q28, .int 0]))]) [0, 1, 2, 3, 4, 5, 6] (by decide) rfl
  have hK9 := hK.sub (tys' := [(cA2, .byte)]) [0] rfl
  refine W.widen (k := 148) (n := 251840) (Nat.le_of_ble_eq_true rfl) (Nat.le_of_ble_eq_true rfl) ?_
  exact W.vret hx hb hr (fun t ht hW => ⟨⟨(), rfl, trivial, q1, q3, q8, q12, q15, q18, q22, q29, q32, q5, q6, q7, q10, q11, q14, q20, q21, q24, q25, q26, q27, q28, cA2, by rw [ht]; exact hP9, va_K.moved hW.alike hK9, hD9⟩, hS.F ht⟩) hS.2.2 d_U_init_119
set_option maxHeartbeats 4000000 in
set_option maxRecDepth 100000 in
theorem c_Pe_init (l : Launch) (dC : Nat → ClassId) (dI : Nat → Nat → Nat) (h0 : Nat) (sz : Nat) : Met l y_Pe_init [Cond.code y_Pe_init b_Pe_init 1 (none)] ({ frames := 20, cells := 4, slots := 10240, locals := 300 }) (ux_Pc [.ref h0] (dC, dI) cls [(h0, .inr (13, [.int 0, .int 0, .int 0, .int 0, .int 0, .int 0, .int 0, .int 0, .int 0, .int 0, .int 0, .int 0, .int 0, .int 0, .int 0, .int 0, .int 0, .int 0, .int 0, .null, .null, .null, .int 0, .int 0, .int 0, .int 0, .int 0, .int 0, .int 0, .null, .int 0, .int 0]))] [] sz) (va_Qv (fun _ : Unit => True) (fun (_ : Unit) (t : State) => ∃ (q1 : Nat), ∃ (q2 : Nat), ∃ (q3 : Nat), ∃ (q4 : Nat), ux_B (dC, dI) cls (va_A [(h0, .inr (13, [.int 0, .int 0, .int 0, .int 0, .int 0, .int 0, .int 0, .int 0, .int 0, .int 0, .int 0, .int 0, .int 0, .int 0, .int 0, .int 0, .int 0, .int 0, .int 0, .null, .null, .null, .int 0, .int 0, .int 0, .int 0, .int 0, .int 0, .int 0, .null, .int 0, .int 0]))] sz) [(h0, .inr (13, [.int 0, .int 0, .int 0, .int 0, .int 0, .int 0, .int 0, .int 0, .int 0, .int 0, .int 0, .int 0, .int 0, .int 0, .int 0, .int 0, .int 0, .int 0, .int 0, .ref q1, .ref q2, .ref q3, .int 0, .int 0, .int 0, .int 0, .int 0, .int 0, .int 0, .ref q4, .int 0, .int 0]))] [] t) (va_A [(h0, .inr (13, [.int 0, .int 0, .int 0, .int 0, .int 0, .int 0, .int 0, .int 0, .int 0, .int 0, .int 0, .int 0, .int 0, .int 0, .int 0, .int 0, .int 0, .int 0, .int 0, .null, .null, .null, .int 0, .int 0, .int 0, .int 0, .int 0, .int 0, .int 0, .null, .int 0, .int 0]))] sz)) 4 10240 (va_A [(h0, .inr (13, [.int 0, .int 0, .int 0, .int 0, .int 0, .int 0, .int 0, .int 0, .int 0, .int 0, .int 0, .int 0, .int 0, .int 0, .int 0, .int 0, .int 0, .int 0, .int 0, .null, .null, .null, .int 0, .int 0, .int 0, .int 0, .int 0, .int 0, .int 0, .null, .int 0, .int 0]))] sz) := by
  refine Met.ofW (cc := b_Pe_init) (maxL := 1) (ret := none) (by decide) rfl ?_
  intro p e s m args below meth c s₁ B hml hv
  obtain ⟨rfl, hsz, hP, hK, hD0, hT⟩ := hv
  have hx := B.exec
  have hb := B.bytes
  have hr := B.returns
  have hown : s.vm.findClass "UnikernelHttpModel$Peer" = some m.cls := findClass_of_methodNamed B.named
  have hlocks := B.notSynchronized
  have hin : meth.name = "<init>" := (name_of_methodNamed B.named B.method).1
  subst hsz
  have hD := hD0.self (sz := s.heap.size)
  have hns := ux_ns hP
  generalize hAe : va_A [(h0, .inr (13, [.int 0, .int 0, .int 0, .int 0, .int 0, .int 0, .int 0, .int 0, .int 0, .int 0, .int 0, .int 0, .int 0, .int 0, .int 0, .int 0, .int 0, .int 0, .int 0, .null, .null, .null, .int 0, .int 0, .int 0, .int 0, .int 0, .int 0, .int 0, .null, .int 0, .int 0]))] s.heap.size = A at hD hns ⊢
  have hA : ∀ q : Nat, s.heap.size ≤ q → A q := fun q h => by rw [← hAe]; exact Or.inr h
  have hS : va_S A s.heap s.heap [] := va_S.rf
  have hl := lv_entry ([.ref h0]) (n := 1) (Nat.le_of_ble_eq_true rfl)
  rw [lg_entry_eq]
  generalize (lg_sl ([.ref h0]) ++ List.replicate (1 - (lg_sl ([.ref h0])).length) Slot.unset).toArray = ls at hl ⊢
  have hl : lv_has ls 1 [(0, .ref h0)] := hl
  have hfx : CallFix p m c b_Pe_init 1 s ([.ref h0] : List Value).toArray [] "UnikernelHttpModel$Peer" := ⟨hx, hb, hml, hown, fun _ h => by cases h⟩
  refine lv_aload_n hx hb d_Pe_init_0 rfl (lv_at hl 0 rfl) ?_
  refine W.objInit hx hb hown (ux_T_at hT tw_1492 rfl) (ux_T_at hT tw_40 rfl) (ux_T_at hT tw_41 rfl) rfl (by rw [hml]; exact hl.1) rfl d_Pe_init_1 (Nat.le_of_ble_eq_true rfl) (Nat.le_of_ble_eq_true rfl) ?_
  refine W.eq (g2 := F0 m 4 ls []) rfl ?_
  refine lv_aload_n hx hb d_Pe_init_4 rfl (lv_at hl 0 rfl) ?_
  refine lv_sipush (v := 2048) hx hb d_Pe_init_5 (by decide) ?_
  refine va_newa (atype := .byte) (ty := .byte) (N' := 2048) (a0 := (2048, .inl (fun _ => 0))) hx hb (ux_T_at hT tw_66 rfl) rfl hK hP hD hS hA (fun _ => rfl) (by decide) (by decide +kernel) (by decide +kernel) (Nat.le_of_ble_eq_true rfl) (Nat.le_of_ble_eq_true rfl) d_Pe_init_8 (fun q1 cA2 H hK hP hD hS => ?_)
  have hP : va_P (dC, dI) cls [(h0, .inr (13, [.int 0, .int 0, .int 0, .int 0, .int 0, .int 0, .int 0, .int 0, .int 0, .int 0, .int 0, .int 0, .int 0, .int 0, .int 0, .int 0, .int 0, .int 0, .int 0, .null, .null, .null, .int 0, .int 0, .int 0, .int 0, .int 0, .int 0, .int 0, .null, .int 0, .int 0])), (q1, .inl (cA2, 2048, .inl (fun _ => 0)))] H := hP
  have hD : va_D A [(h0, .inr (13, [.int 0, .int 0, .int 0, .int 0, .int 0, .int 0, .int 0, .int 0, .int 0, .int 0, .int 0, .int 0, .int 0, .int 0, .int 0, .int 0, .int 0, .int 0, .int 0, .null, .null, .null, .int 0, .int 0, .int 0, .int 0, .int 0, .int 0, .int 0, .null, .int 0, .int 0])), (q1, .inl (cA2, 2048, .inl (fun _ => 0)))] := hD
  have hK : va_K (dC, dI) cls [(cA2, .byte)] s := hK
  refine va_putF (D := (dC, dI)) (ci := 13) (v := .ref q1) (ty := .array .byte) (C := R_Pe) (T := F_Pe) (N := 32) hx hb (u_Pe hT) (fun _ h => h) t_Pe k_Pe n_Pe hown hK hP hD hS 0 rfl rfl 19 (by decide) (ux_T_at hT tw_1511 rfl) (fun _ h9 => h9) rfl hin rfl (by decide +kernel) rfl rfl (Nat.le_of_ble_eq_true rfl) d_Pe_init_10 (fun H locs hP hD hS => ?_)
  have hP : va_P (dC, dI) cls [(h0, .inr (13, [.int 0, .int 0, .int 0, .int 0, .int 0, .int 0, .int 0, .int 0, .int 0, .int 0, .int 0, .int 0, .int 0, .int 0, .int 0, .int 0, .int 0, .int 0, .int 0, .ref q1, .null, .null, .int 0, .int 0, .int 0, .int 0, .int 0, .int 0, .int 0, .null, .int 0, .int 0])), (q1, .inl (cA2, 2048, .inl (fun _ => 0)))] H := hP
  have hD : va_D A [(h0, .inr (13, [.int 0, .int 0, .int 0, .int 0, .int 0, .int 0, .int 0, .int 0, .int 0, .int 0, .int 0, .int 0, .int 0, .int 0, .int 0, .int 0, .int 0, .int 0, .int 0, .ref q1, .null, .null, .int 0, .int 0, .int 0, .int 0, .int 0, .int 0, .int 0, .null, .int 0, .int 0])), (q1, .inl (cA2, 2048, .inl (fun _ => 0)))] := hD
  have hP := hP.sub (ws' := [(h0, .inr (13, [.int 0, .int 0, .int 0, .int 0, .int 0, .int 0, .int 0, .int 0, .int 0, .int 0, .int 0, .int 0, .int 0, .int 0, .int 0, .int 0, .int 0, .int 0, .int 0, .ref q1, .null, .null, .int 0, .int 0, .int 0, .int 0, .int 0, .int 0, .int 0, .null, .int 0, .int 0]))]) [0] rfl
  have hD := hD.sub (ws' := [(h0, .inr (13, [.int 0, .int 0, .int 0, .int 0, .int 0, .int 0, .int 0, .int 0, .int 0, .int 0, .int 0, .int 0, .int 0, .int 0, .int 0, .int 0, .int 0, .int 0, .int 0, .ref q1, .null, .null, .int 0, .int 0, .int 0, .int 0, .int 0, .int 0, .int 0, .null, .int 0, .int 0]))]) [0] (by decide) rfl
  refine lv_aload_n hx hb d_Pe_init_13 rfl (lv_at hl 0 rfl) ?_
  refine lv_sipush (v := 2048) hx hb d_Pe_init_14 (by decide) ?_
  refine va_newa (atype := .byte) (ty := .byte) (N' := 2048) (a0 := (2048, .inl (fun _ => 0))) hx hb (ux_T_at hT tw_66 rfl) rfl hK hP hD hS hA (fun _ => rfl) (by decide) (by decide +kernel) (by decide +kernel) (Nat.le_of_ble_eq_true rfl) (Nat.le_of_ble_eq_true rfl) d_Pe_init_17 (fun q3 cA4 H hK hP hD hS => ?_)
  have hP : va_P (dC, dI) cls [(h0, .inr (13, [.int 0, .int 0, .int 0, .int 0, .int 0, .int 0, .int 0, .int 0, .int 0, .int 0, .int 0, .int 0, .int 0, .int 0, .int 0, .int 0, .int 0, .int 0, .int 0, .ref q1, .null, .null, .int 0, .int 0, .int 0, .int 0, .int 0, .int 0, .int 0, .null, .int 0, .int 0])), (q3, .inl (cA4, 2048, .inl (fun _ => 0)))] H := hP
  have hD : va_D A [(h0, .inr (13, [.int 0, .int 0, .int 0, .int 0, .int 0, .int 0, .int 0, .int 0, .int 0, .int 0, .int 0, .int 0, .int 0, .int 0, .int 0, .int 0, .int 0, .int 0, .int 0, .ref q1, .null, .null, .int 0, .int 0, .int 0, .int 0, .int 0, .int 0, .int 0, .null, .int 0, .int 0])), (q3, .inl (cA4, 2048, .inl (fun _ => 0)))] := hD
  have hK : va_K (dC, dI) cls [(cA2, .byte), (cA4, .byte)] s := hK
  refine va_putF (D := (dC, dI)) (ci := 13) (v := .ref q3) (ty := .array .byte) (C := R_Pe) (T := F_Pe) (N := 32) hx hb (u_Pe hT) (fun _ h => h) t_Pe k_Pe n_Pe hown hK hP hD hS 0 rfl rfl 20 (by decide) (ux_T_at hT tw_1513 rfl) (fun _ h9 => h9) rfl hin rfl (by decide +kernel) rfl rfl (Nat.le_of_ble_eq_true rfl) d_Pe_init_19 (fun H locs hP hD hS => ?_)
  have hP : va_P (dC, dI) cls [(h0, .inr (13, [.int 0, .int 0, .int 0, .int 0, .int 0, .int 0, .int 0, .int 0, .int 0, .int 0, .int 0, .int 0, .int 0, .int 0, .int 0, .int 0, .int 0, .int 0, .int 0, .ref q1, .ref q3, .null, .int 0, .int 0, .int 0, .int 0, .int 0, .int 0, .int 0, .null, .int 0, .int 0])), (q3, .inl (cA4, 2048, .inl (fun _ => 0)))] H := hP
  have hD : va_D A [(h0, .inr (13, [.int 0, .int 0, .int 0, .int 0, .int 0, .int 0, .int 0, .int 0, .int 0, .int 0, .int 0, .int 0, .int 0, .int 0, .int 0, .int 0, .int 0, .int 0, .int 0, .ref q1, .ref q3, .null, .int 0, .int 0, .int 0, .int 0, .int 0, .int 0, .int 0, .null, .int 0, .int 0])), (q3, .inl (cA4, 2048, .inl (fun _ => 0)))] := hD
  have hP := hP.sub (ws' := [(h0, .inr (13, [.int 0, .int 0, .int 0, .int 0, .int 0, .int 0, .int 0, .int 0, .int 0, .int 0, .int 0, .int 0, .int 0, .int 0, .int 0, .int 0, .int 0, .int 0, .int 0, .ref q1, .ref q3, .null, .int 0, .int 0, .int 0, .int 0, .int 0, .int 0, .int 0, .null, .int 0, .int 0]))]) [0] rfl
  have hD := hD.sub (ws' := [(h0, .inr (13, [.int 0, .int 0, .int 0, .int 0, .int 0, .int 0, .int 0, .int 0, .int 0, .int 0, .int 0, .int 0, .int 0, .int 0, .int 0, .int 0, .int 0, .int 0, .int 0, .ref q1, .ref q3, .null, .int 0, .int 0, .int 0, .int 0, .int 0, .int 0, .int 0, .null, .int 0, .int 0]))]) [0] (by decide) rfl
  refine lv_aload_n hx hb d_Pe_init_22 rfl (lv_at hl 0 rfl) ?_
  refine lv_sipush (v := 2048) hx hb d_Pe_init_23 (by decide) ?_
  refine va_newa (atype := .boolean) (ty := .boolean) (N' := 2048) (a0 := (2048, .inl (fun _ => 0))) hx hb (ux_T_at hT tw_1593 rfl) rfl hK hP hD hS hA (fun _ => rfl) (by decide) (by decide +kernel) (by decide +kernel) (Nat.le_of_ble_eq_true rfl) (Nat.le_of_ble_eq_true rfl) d_Pe_init_26 (fun q5 cA6 H hK hP hD hS => ?_)
  have hP : va_P (dC, dI) cls [(h0, .inr (13, [.int 0, .int 0, .int 0, .int 0, .int 0, .int 0, .int 0, .int 0, .int 0, .int 0, .int 0, .int 0, .int 0, .int 0, .int 0, .int 0, .int 0, .int 0, .int 0, .ref q1, .ref q3, .null, .int 0, .int 0, .int 0, .int 0, .int 0, .int 0, .int 0, .null, .int 0, .int 0])), (q5, .inl (cA6, 2048, .inl (fun _ => 0)))] H := hP
  have hD : va_D A [(h0, .inr (13, [.int 0, .int 0, .int 0, .int 0, .int 0, .int 0, .int 0, .int 0, .int 0, .int 0, .int 0, .int 0, .int 0, .int 0, .int 0, .int 0, .int 0, .int 0, .int 0, .ref q1, .ref q3, .null, .int 0, .int 0, .int 0, .int 0, .int 0, .int 0, .int 0, .null, .int 0, .int 0])), (q5, .inl (cA6, 2048, .inl (fun _ => 0)))] := hD
  have hK : va_K (dC, dI) cls [(cA2, .byte), (cA4, .byte), (cA6, .boolean)] s := hK
  refine va_putF (D := (dC, dI)) (ci := 13) (v := .ref q5) (ty := .array .boolean) (C := R_Pe) (T := F_Pe) (N := 32) hx hb (u_Pe hT) (fun _ h => h) t_Pe k_Pe n_Pe hown hK hP hD hS 0 rfl rfl 21 (by decide) (ux_T_at hT tw_1515 rfl) (fun _ h9 => h9) rfl hin rfl (by decide +kernel) rfl rfl (Nat.le_of_ble_eq_true rfl) d_Pe_init_28 (fun H locs hP hD hS => ?_)
  have hP : va_P (dC, dI) cls [(h0, .inr (13, [.int 0, .int 0, .int 0, .int 0, .int 0, .int 0, .int 0, .int 0, .int 0, .int 0, .int 0, .int 0, .int 0, .int 0, .int 0, .int 0, .int 0, .int 0, .int 0, .ref q1, .ref q3, .ref q5, .int 0, .int 0, .int 0, .int 0, .int 0, .int 0, .int 0, .null, .int 0, .int 0])), (q5, .inl (cA6, 2048, .inl (fun _ => 0)))] H := hP
  have hD : va_D A [(h0, .inr (13, [.int 0, .int 0, .int 0, .int 0, .int 0, .int 0, .int 0, .int 0, .int 0, .int 0, .int 0, .int 0, .int 0, .int 0, .int 0, .int 0, .int 0, .int 0, .int 0, .ref q1, .ref q3, .ref q5, .int 0, .int 0, .int 0, .int 0, .int 0, .int 0, .int 0, .null, .int 0, .int 0])), (q5, .inl (cA6, 2048, .inl (fun _ => 0)))] := hD
  have hP := hP.sub (ws' := [(h0, .inr (13, [.int 0, .int 0, .int 0, .int 0, .int 0, .int 0, .int 0, .int 0, .int 0, .int 0, .int 0, .int 0, .int 0, .int 0, .int 0, .int 0, .int 0, .int 0, .int 0, .ref q1, .ref q3, .ref q5, .int 0, .int 0, .int 0, .int 0, .int 0, .int 0, .int 0, .null, .int 0, .int 0]))]) [0] rfl
  have hD := hD.sub (ws' := [(h0, .inr (13, [.int 0, .int 0, .int 0, .int 0, .int 0, .int 0, .int 0, .int 0, .int 0, .int 0, .int 0, .int 0, .int 0, .int 0, .int 0, .int 0, .int 0, .int 0, .int 0, .ref q1, .ref q3, .ref q5, .int 0, .int 0, .int 0, .int 0, .int 0, .int 0, .int 0, .null, .int 0, .int 0]))]) [0] (by decide) rfl
  refine lv_aload_n hx hb d_Pe_init_31 rfl (lv_at hl 0 rfl) ?_
  refine lv_sipush (v := 4096) hx hb d_Pe_init_32 (by decide) ?_
  refine va_newa (atype := .byte) (ty := .byte) (N' := 4096) (a0 := (4096, .inl (fun _ => 0))) hx hb (ux_T_at hT tw_66 rfl) rfl hK hP hD hS hA (fun _ => rfl) (by decide) (by decide +kernel) (by decide +kernel) (Nat.le_of_ble_eq_true rfl) (Nat.le_of_ble_eq_true rfl) d_Pe_init_35 (fun q7 cA8 H hK hP hD hS => ?_)
  have hP : va_P (dC, dI) cls [(h0, .inr (13, [.int 0, .int 0, .int 0, .int 0, .int 0, .int 0, .int 0, .int 0, .int 0, .int 0, .int 0, .int 0, .int 0, .int 0, .int 0, .int 0, .int 0, .int 0, .int 0, .ref q1, .ref q3, .ref q5, .int 0, .int 0, .int 0, .int 0, .int 0, .int 0, .int 0, .null, .int 0, .int 0])), (q7, .inl (cA8, 4096, .inl (fun _ => 0)))] H := hP
  have hD : va_D A [(h0, .inr (13, [.int 0, .int 0, .int 0, .int 0, .int 0, .int 0, .int 0, .int 0, .int 0, .int 0, .int 0, .int 0, .int 0, .int 0, .int 0, .int 0, .int 0, .int 0, .int 0, .ref q1, .ref q3, .ref q5, .int 0, .int 0, .int 0, .int 0, .int 0, .int 0, .int 0, .null, .int 0, .int 0])), (q7, .inl (cA8, 4096, .inl (fun _ => 0)))] := hD
  have hK : va_K (dC, dI) cls [(cA2, .byte), (cA4, .byte), (cA6, .boolean), (cA8, .byte)] s := hK
  refine va_putF (D := (dC, dI)) (ci := 13) (v := .ref q7) (ty := .array .byte) (C := R_Pe) (T := F_Pe) (N := 32) hx hb (u_Pe hT) (fun _ h => h) t_Pe k_Pe n_Pe hown hK hP hD hS 0 rfl rfl 29 (by decide) (ux_T_at hT tw_1524 rfl) (fun _ h9 => h9) rfl hin rfl (by decide +kernel) rfl rfl (Nat.le_of_ble_eq_true rfl) d_Pe_init_37 (fun H locs hP hD hS => ?_)
  have hP : va_P (dC, dI) cls [(h0, .inr (13, [.int 0, .int 0, .int 0, .int 0, .int 0, .int 0, .int 0, .int 0, .int 0, .int 0, .int 0, .int 0, .int 0, .int 0, .int 0, .int 0, .int 0, .int 0, .int 0, .ref q1, .ref q3, .ref q5, .int 0, .int 0, .int 0, .int 0, .int 0, .int 0, .int 0, .ref q7, .int 0, .int 0])), (q7, .inl (cA8, 4096, .inl (fun _ => 0)))] H := hP
  have hD : va_D A [(h0, .inr (13, [.int 0, .int 0, .int 0, .int 0, .int 0, .int 0, .int 0, .int 0, .int 0, .int 0, .int 0, .int 0, .int 0, .int 0, .int 0, .int 0, .int 0, .int 0, .int 0, .ref q1, .ref q3, .ref q5, .int 0, .int 0, .int 0, .int 0, .int 0, .int 0, .int 0, .ref q7, .int 0, .int 0])), (q7, .inl (cA8, 4096, .inl (fun _ => 0)))] := hD
  have hP := hP.sub (ws' := [(h0, .inr (13, [.int 0, .int 0, .int 0, .int 0, .int 0, .int 0, .int 0, .int 0, .int 0, .int 0, .int 0, .int 0, .int 0, .int 0, .int 0, .int 0, .int 0, .int 0, .int 0, .ref q1, .ref q3, .ref q5, .int 0, .int 0, .int 0, .int 0, .int 0, .int 0, .int 0, .ref q7, .int 0, .int 0]))]) [0] rfl
  have hD := hD.sub (ws' := [(h0, .inr (13, [.int 0, .int 0, .int 0, .int 0, .int 0, .int 0, .int 0, .int 0, .int 0, .int 0, .int 0, .int 0, .int 0, .int 0, .int 0, .int 0, .int 0, .int 0, .int 0, .ref q1, .ref q3, .ref q5, .int 0, .int 0, .int 0, .int 0, .int 0, .int 0, .int 0, .ref q7, .int 0, .int 0]))]) [0] (by decide) rfl
  have hP9 := hP.sub (ws' := [(h0, .inr (13, [.int 0, .int 0, .int 0, .int 0, .int 0, .int 0, .int 0, .int 0, .int 0, .int 0, .int 0, .int 0, .int 0, .int 0, .int 0, .int 0, .int 0, .int 0, .int 0, .ref q1, .ref q3, .ref q5, .int 0, .int 0, .int 0, .int 0, .int 0, .int 0, .int 0, .ref q7, .int 0, .int 0]))]) [0] rfl
  have hD9 := hD.sub (ws' := [(h0, .inr (13, [.int 0, .int 0, .int 0, .int 0, .int 0, .int 0, .int 0, .int 0, .int 0, .int 0, .int 0, .int 0, .int 0, .int 0, .int 0, .int 0, .int 0, .int 0, .int 0, .ref q1, .ref q3, .ref q5, .int 0, .int 0, .int 0, .int 0, .int 0, .int 0, .int 0, .ref q7, .int 0, .int 0]))]) [0] (by decide) rfl
  have hK9 := hK.sub (tys' := []) [] rfl
  refine W.widen (k := 4) (n := 10240) (Nat.le_of_ble_eq_true rfl) (Nat.le_of_ble_eq_true rfl) ?_
  exact W.vret hx hb hr (fun t ht hW => ⟨⟨(), rfl, trivial, q1, q3, q5, q7, by rw [ht]; exact hP9, va_K.moved hW.alike hK9, hD9⟩, hS.F ht⟩) hS.2.2 d_Pe_init_40
end
section
/-! Which words the rows behind use, by their places. -/
theorem tw_14 : (Jvm.Cond.initialized "UnikernelHttpModel$Peer") ∈ lw_tbl := ux_in 14 ux_t1 rfl
theorem tw_1483 : (Jvm.Cond.methodLink "UnikernelHttpModel" (1 : Nat) ({ cls := "java/lang/Object", name := "<init>", desc := "()V" } : Jvm.MethodName)) ∈ lw_tbl := ux_in 43 ux_t7 rfl
theorem tw_1484 : (Jvm.Cond.constant "UnikernelHttpModel" (19 : Nat) (102400 : Int32)) ∈ lw_tbl := ux_in 44 ux_t7 rfl
theorem tw_1485 : (Jvm.Cond.constant "UnikernelHttpModel" (65 : Nat) (48000 : Int32)) ∈ lw_tbl := ux_in 45 ux_t7 rfl
theorem tw_1486 : (Jvm.Cond.classLink "UnikernelHttpModel" (78 : Nat) "UnikernelHttpModel$Peer") ∈ lw_tbl := ux_in 46 ux_t7 rfl
theorem tw_1487 : (Jvm.Cond.arrayOver (Jvm.ClassFile.FieldType.object "UnikernelHttpModel$Peer")) ∈ lw_tbl := ux_in 47 ux_t7 rfl
theorem tw_1488 : (Jvm.Cond.instantiable "UnikernelHttpModel$Peer" (32 : Nat)) ∈ lw_tbl := ux_in 48 ux_t7 rfl
theorem tw_1489 : (Jvm.Cond.methodLinkNest "UnikernelHttpModel" (87 : Nat) ({ cls := "UnikernelHttpModel$Peer", name := "<init>", desc := "()V" } : Jvm.MethodName) "UnikernelHttpModel") ∈ lw_tbl := ux_in 49 ux_t7 rfl
theorem tw_1490 : (Jvm.Cond.instanceMethod ({ cls := "UnikernelHttpModel$Peer", name := "<init>", desc := "()V" } : Jvm.MethodName)) ∈ lw_tbl := ux_in 50 ux_t7 rfl
theorem tw_1491 : (Jvm.Cond.code ({ cls := "UnikernelHttpModel$Peer", name := "<init>", desc := "()V" } : Jvm.MethodName) prog_15_method_1_code (1 : Nat) (Option.none : Option Jvm.ClassFile.FieldType)) ∈ lw_tbl := ux_in 51 ux_t7 rfl
theorem tw_1594 : (Jvm.Cond.fieldLink "UnikernelHttpModel" (9 : Nat) "UnikernelHttpModel" "row" "[B") ∈ lw_tbl := ux_in 154 ux_t7 rfl
theorem tw_1595 : (Jvm.Cond.fieldLink "UnikernelHttpModel" (13 : Nat) "UnikernelHttpModel" "in" "[B") ∈ lw_tbl := ux_in 155 ux_t7 rfl
theorem tw_1596 : (Jvm.Cond.fieldLink "UnikernelHttpModel" (16 : Nat) "UnikernelHttpModel" "out" "[B") ∈ lw_tbl := ux_in 156 ux_t7 rfl
theorem tw_1602 : (Jvm.Cond.fieldLink "UnikernelHttpModel" (20 : Nat) "UnikernelHttpModel" "kept" "[B") ∈ lw_tbl := ux_in 162 ux_t7 rfl
theorem tw_1603 : (Jvm.Cond.fieldLink "UnikernelHttpModel" (23 : Nat) "UnikernelHttpModel" "keptSize" "[I") ∈ lw_tbl := ux_in 163 ux_t7 rfl
theorem tw_1604 : (Jvm.Cond.fieldLink "UnikernelHttpModel" (27 : Nat) "UnikernelHttpModel" "nIp" "[I") ∈ lw_tbl := ux_in 164 ux_t7 rfl
theorem tw_1605 : (Jvm.Cond.fieldLink "UnikernelHttpModel" (30 : Nat) "UnikernelHttpModel" "nHeard" "[I") ∈ lw_tbl := ux_in 165 ux_t7 rfl
theorem tw_1606 : (Jvm.Cond.fieldLink "UnikernelHttpModel" (33 : Nat) "UnikernelHttpModel" "nHard" "[J") ∈ lw_tbl := ux_in 166 ux_t7 rfl
theorem tw_1609 : (Jvm.Cond.fieldLink "UnikernelHttpModel" (37 : Nat) "UnikernelHttpModel" "gIp" "[I") ∈ lw_tbl := ux_in 169 ux_t7 rfl
theorem tw_1610 : (Jvm.Cond.fieldLink "UnikernelHttpModel" (40 : Nat) "UnikernelHttpModel" "gNumber" "[I") ∈ lw_tbl := ux_in 170 ux_t7 rfl
theorem tw_1611 : (Jvm.Cond.fieldLink "UnikernelHttpModel" (43 : Nat) "UnikernelHttpModel" "gProtocol" "[I") ∈ lw_tbl := ux_in 171 ux_t7 rfl
theorem tw_1612 : (Jvm.Cond.fieldLink "UnikernelHttpModel" (46 : Nat) "UnikernelHttpModel" "gTold" "[I") ∈ lw_tbl := ux_in 172 ux_t7 rfl
theorem tw_1613 : (Jvm.Cond.fieldLink "UnikernelHttpModel" (49 : Nat) "UnikernelHttpModel" "gBegun" "[I") ∈ lw_tbl := ux_in 173 ux_t7 rfl
theorem tw_1614 : (Jvm.Cond.fieldLink "UnikernelHttpModel" (52 : Nat) "UnikernelHttpModel" "gOrder" "[I") ∈ lw_tbl := ux_in 174 ux_t7 rfl
theorem tw_1615 : (Jvm.Cond.fieldLink "UnikernelHttpModel" (55 : Nat) "UnikernelHttpModel" "gBytes" "[B") ∈ lw_tbl := ux_in 175 ux_t7 rfl
theorem tw_1616 : (Jvm.Cond.fieldLink "UnikernelHttpModel" (58 : Nat) "UnikernelHttpModel" "gThere" "[Z") ∈ lw_tbl := ux_in 176 ux_t7 rfl
theorem tw_1618 : (Jvm.Cond.fieldLink "UnikernelHttpModel" (62 : Nat) "UnikernelHttpModel" "pTarget" "[B") ∈ lw_tbl := ux_in 178 ux_t7 rfl
theorem tw_1619 : (Jvm.Cond.fieldLink "UnikernelHttpModel" (66 : Nat) "UnikernelHttpModel" "pBytes" "[B") ∈ lw_tbl := ux_in 179 ux_t7 rfl
theorem tw_1620 : (Jvm.Cond.fieldLink "UnikernelHttpModel" (69 : Nat) "UnikernelHttpModel" "pLong" "[I") ∈ lw_tbl := ux_in 180 ux_t7 rfl
theorem tw_1621 : (Jvm.Cond.fieldLink "UnikernelHttpModel" (72 : Nat) "UnikernelHttpModel" "pSize" "[I") ∈ lw_tbl := ux_in 181 ux_t7 rfl
theorem tw_1622 : (Jvm.Cond.fieldLink "UnikernelHttpModel" (75 : Nat) "UnikernelHttpModel" "pSum" "[I") ∈ lw_tbl := ux_in 182 ux_t7 rfl
theorem tw_1624 : (Jvm.Cond.fieldLink "UnikernelHttpModel" (80 : Nat) "UnikernelHttpModel" "peer" "[LUnikernelHttpModel$Peer;") ∈ lw_tbl := ux_in 184 ux_t7 rfl
theorem tw_1629 : (Jvm.Cond.fieldLink "UnikernelHttpModel" (84 : Nat) "UnikernelHttpModel" "answer" "[B") ∈ lw_tbl := ux_in 189 ux_t7 rfl
abbrev b_Mo_init : ByteArray := prog_14_method_1_code
abbrev y_Mo_init : MethodName := ⟨"UnikernelHttpModel", "<init>", "()V"⟩
theorem d_Mo_init_0 : decode b_Mo_init 0 = .ok (.aload_n 0, 1) := by decide +kernel
theorem d_Mo_init_1 : decode b_Mo_init 1 = .ok (.invokespecial 1, 3) := by decide +kernel
theorem d_Mo_init_4 : decode b_Mo_init 4 = .ok (.aload_n 0, 1) := by decide +kernel
theorem d_Mo_init_5 : decode b_Mo_init 5 = .ok (.sipush 2000, 3) := by decide +kernel
theorem d_Mo_init_8 : decode b_Mo_init 8 = .ok (.newarray .byte, 2) := by decide +kernel
theorem d_Mo_init_10 : decode b_Mo_init 10 = .ok (.putfield 9, 3) := by decide +kernel
theorem d_Mo_init_13 : decode b_Mo_init 13 = .ok (.aload_n 0, 1) := by decide +kernel
theorem d_Mo_init_14 : decode b_Mo_init 14 = .ok (.sipush 5718, 3) := by decide +kernel
theorem d_Mo_init_17 : decode b_Mo_init 17 = .ok (.newarray .byte, 2) := by decide +kernel
theorem d_Mo_init_19 : decode b_Mo_init 19 = .ok (.putfield 13, 3) := by decide +kernel
theorem d_Mo_init_22 : decode b_Mo_init 22 = .ok (.aload_n 0, 1) := by decide +kernel
theorem d_Mo_init_23 : decode b_Mo_init 23 = .ok (.sipush 4300, 3) := by decide +kernel
theorem d_Mo_init_26 : decode b_Mo_init 26 = .ok (.newarray .byte, 2) := by decide +kernel
theorem d_Mo_init_28 : decode b_Mo_init 28 = .ok (.putfield 16, 3) := by decide +kernel
theorem d_Mo_init_31 : decode b_Mo_init 31 = .ok (.aload_n 0, 1) := by decide +kernel
theorem d_Mo_init_32 : decode b_Mo_init 32 = .ok (.ldc 19, 2) := by decide +kernel
theorem d_Mo_init_34 : decode b_Mo_init 34 = .ok (.newarray .byte, 2) := by decide +kernel
theorem d_Mo_init_36 : decode b_Mo_init 36 = .ok (.putfield 20, 3) := by decide +kernel
theorem d_Mo_init_39 : decode b_Mo_init 39 = .ok (.aload_n 0, 1) := by decide +kernel
theorem d_Mo_init_40 : decode b_Mo_init 40 = .ok (.bipush 64, 2) := by decide +kernel
theorem d_Mo_init_42 : decode b_Mo_init 42 = .ok (.newarray .int, 2) := by decide +kernel
theorem d_Mo_init_44 : decode b_Mo_init 44 = .ok (.putfield 23, 3) := by decide +kernel
theorem d_Mo_init_47 : decode b_Mo_init 47 = .ok (.aload_n 0, 1) := by decide +kernel
theorem d_Mo_init_48 : decode b_Mo_init 48 = .ok (.bipush 16, 2) := by decide +kernel
theorem d_Mo_init_50 : decode b_Mo_init 50 = .ok (.newarray .int, 2) := by decide +kernel
theorem d_Mo_init_52 : decode b_Mo_init 52 = .ok (.putfield 27, 3) := by decide +kernel
theorem d_Mo_init_55 : decode b_Mo_init 55 = .ok (.aload_n 0, 1) := by decide +kernel
theorem d_Mo_init_56 : decode b_Mo_init 56 = .ok (.bipush 16, 2) := by decide +kernel
theorem d_Mo_init_58 : decode b_Mo_init 58 = .ok (.newarray .int, 2) := by decide +kernel
theorem d_Mo_init_60 : decode b_Mo_init 60 = .ok (.putfield 30, 3) := by decide +kernel
theorem d_Mo_init_63 : decode b_Mo_init 63 = .ok (.aload_n 0, 1) := by decide +kernel
theorem d_Mo_init_64 : decode b_Mo_init 64 = .ok (.bipush 16, 2) := by decide +kernel
theorem d_Mo_init_66 : decode b_Mo_init 66 = .ok (.newarray .long, 2) := by decide +kernel
theorem d_Mo_init_68 : decode b_Mo_init 68 = .ok (.putfield 33, 3) := by decide +kernel
theorem d_Mo_init_71 : decode b_Mo_init 71 = .ok (.aload_n 0, 1) := by decide +kernel
theorem d_Mo_init_72 : decode b_Mo_init 72 = .ok (.iconst 4, 1) := by decide +kernel
theorem d_Mo_init_73 : decode b_Mo_init 73 = .ok (.newarray .int, 2) := by decide +kernel
theorem d_Mo_init_75 : decode b_Mo_init 75 = .ok (.putfield 37, 3) := by decide +kernel
theorem d_Mo_init_78 : decode b_Mo_init 78 = .ok (.aload_n 0, 1) := by decide +kernel
theorem d_Mo_init_79 : decode b_Mo_init 79 = .ok (.iconst 4, 1) := by decide +kernel
theorem d_Mo_init_80 : decode b_Mo_init 80 = .ok (.newarray .int, 2) := by decide +kernel
theorem d_Mo_init_82 : decode b_Mo_init 82 = .ok (.putfield 40, 3) := by decide +kernel
theorem d_Mo_init_85 : decode b_Mo_init 85 = .ok (.aload_n 0, 1) := by decide +kernel
theorem d_Mo_init_86 : decode b_Mo_init 86 = .ok (.iconst 4, 1) := by decide +kernel
theorem d_Mo_init_87 : decode b_Mo_init 87 = .ok (.newarray .int, 2) := by decide +kernel
theorem d_Mo_init_89 : decode b_Mo_init 89 = .ok (.putfield 43, 3) := by decide +kernel
theorem d_Mo_init_92 : decode b_Mo_init 92 = .ok (.aload_n 0, 1) := by decide +kernel
theorem d_Mo_init_93 : decode b_Mo_init 93 = .ok (.iconst 4, 1) := by decide +kernel
theorem d_Mo_init_94 : decode b_Mo_init 94 = .ok (.newarray .int, 2) := by decide +kernel
theorem d_Mo_init_96 : decode b_Mo_init 96 = .ok (.putfield 46, 3) := by decide +kernel
theorem d_Mo_init_99 : decode b_Mo_init 99 = .ok (.aload_n 0, 1) := by decide +kernel
theorem d_Mo_init_100 : decode b_Mo_init 100 = .ok (.iconst 4, 1) := by decide +kernel
theorem d_Mo_init_101 : decode b_Mo_init 101 = .ok (.newarray .int, 2) := by decide +kernel
theorem d_Mo_init_103 : decode b_Mo_init 103 = .ok (.putfield 49, 3) := by decide +kernel
theorem d_Mo_init_106 : decode b_Mo_init 106 = .ok (.aload_n 0, 1) := by decide +kernel
theorem d_Mo_init_107 : decode b_Mo_init 107 = .ok (.iconst 4, 1) := by decide +kernel
theorem d_Mo_init_108 : decode b_Mo_init 108 = .ok (.newarray .int, 2) := by decide +kernel
theorem d_Mo_init_110 : decode b_Mo_init 110 = .ok (.putfield 52, 3) := by decide +kernel
theorem d_Mo_init_113 : decode b_Mo_init 113 = .ok (.aload_n 0, 1) := by decide +kernel
theorem d_Mo_init_114 : decode b_Mo_init 114 = .ok (.sipush 16384, 3) := by decide +kernel
theorem d_Mo_init_117 : decode b_Mo_init 117 = .ok (.newarray .byte, 2) := by decide +kernel
theorem d_Mo_init_119 : decode b_Mo_init 119 = .ok (.putfield 55, 3) := by decide +kernel
theorem d_Mo_init_122 : decode b_Mo_init 122 = .ok (.aload_n 0, 1) := by decide +kernel
theorem d_Mo_init_123 : decode b_Mo_init 123 = .ok (.sipush 16384, 3) := by decide +kernel
theorem d_Mo_init_126 : decode b_Mo_init 126 = .ok (.newarray .boolean, 2) := by decide +kernel
theorem d_Mo_init_128 : decode b_Mo_init 128 = .ok (.putfield 58, 3) := by decide +kernel
theorem d_Mo_init_131 : decode b_Mo_init 131 = .ok (.aload_n 0, 1) := by decide +kernel
theorem d_Mo_init_132 : decode b_Mo_init 132 = .ok (.sipush 2048, 3) := by decide +kernel
theorem d_Mo_init_135 : decode b_Mo_init 135 = .ok (.newarray .byte, 2) := by decide +kernel
theorem d_Mo_init_137 : decode b_Mo_init 137 = .ok (.putfield 62, 3) := by decide +kernel
theorem d_Mo_init_140 : decode b_Mo_init 140 = .ok (.aload_n 0, 1) := by decide +kernel
theorem d_Mo_init_141 : decode b_Mo_init 141 = .ok (.ldc 65, 2) := by decide +kernel
theorem d_Mo_init_143 : decode b_Mo_init 143 = .ok (.newarray .byte, 2) := by decide +kernel
theorem d_Mo_init_145 : decode b_Mo_init 145 = .ok (.putfield 66, 3) := by decide +kernel
theorem d_Mo_init_148 : decode b_Mo_init 148 = .ok (.aload_n 0, 1) := by decide +kernel
theorem d_Mo_init_149 : decode b_Mo_init 149 = .ok (.bipush 32, 2) := by decide +kernel
theorem d_Mo_init_151 : decode b_Mo_init 151 = .ok (.newarray .int, 2) := by decide +kernel
theorem d_Mo_init_153 : decode b_Mo_init 153 = .ok (.putfield 69, 3) := by decide +kernel
theorem d_Mo_init_156 : decode b_Mo_init 156 = .ok (.aload_n 0, 1) := by decide +kernel
theorem d_Mo_init_157 : decode b_Mo_init 157 = .ok (.bipush 32, 2) := by decide +kernel
theorem d_Mo_init_159 : decode b_Mo_init 159 = .ok (.newarray .int, 2) := by decide +kernel
theorem d_Mo_init_161 : decode b_Mo_init 161 = .ok (.putfield 72, 3) := by decide +kernel
theorem d_Mo_init_164 : decode b_Mo_init 164 = .ok (.aload_n 0, 1) := by decide +kernel
theorem d_Mo_init_165 : decode b_Mo_init 165 = .ok (.bipush 32, 2) := by decide +kernel
theorem d_Mo_init_167 : decode b_Mo_init 167 = .ok (.newarray .int, 2) := by decide +kernel
theorem d_Mo_init_169 : decode b_Mo_init 169 = .ok (.putfield 75, 3) := by decide +kernel
theorem d_Mo_init_172 : decode b_Mo_init 172 = .ok (.aload_n 0, 1) := by decide +kernel
theorem d_Mo_init_173 : decode b_Mo_init 173 = .ok (.bipush 9, 2) := by decide +kernel
theorem d_Mo_init_175 : decode b_Mo_init 175 = .ok (.anewarray 78, 3) := by decide +kernel
theorem d_Mo_init_178 : decode b_Mo_init 178 = .ok (.putfield 80, 3) := by decide +kernel
theorem d_Mo_init_181 : decode b_Mo_init 181 = .ok (.aload_n 0, 1) := by decide +kernel
theorem d_Mo_init_182 : decode b_Mo_init 182 = .ok (.sipush 1800, 3) := by decide +kernel
theorem d_Mo_init_185 : decode b_Mo_init 185 = .ok (.newarray .byte, 2) := by decide +kernel
theorem d_Mo_init_187 : decode b_Mo_init 187 = .ok (.putfield 84, 3) := by decide +kernel
theorem d_Mo_init_190 : decode b_Mo_init 190 = .ok (.iconst 0, 1) := by decide +kernel
theorem d_Mo_init_191 : decode b_Mo_init 191 = .ok (.istore_n 1, 1) := by decide +kernel
theorem d_Mo_init_192 : decode b_Mo_init 192 = .ok (.iload_n 1, 1) := by decide +kernel
theorem d_Mo_init_193 : decode b_Mo_init 193 = .ok (.bipush 8, 2) := by decide +kernel
theorem d_Mo_init_195 : decode b_Mo_init 195 = .ok (.if_icmp .gt 22, 3) := by decide +kernel
theorem d_Mo_init_198 : decode b_Mo_init 198 = .ok (.aload_n 0, 1) := by decide +kernel
theorem d_Mo_init_199 : decode b_Mo_init 199 = .ok (.getfield 80, 3) := by decide +kernel
theorem d_Mo_init_202 : decode b_Mo_init 202 = .ok (.iload_n 1, 1) := by decide +kernel
theorem d_Mo_init_203 : decode b_Mo_init 203 = .ok (.new 78, 3) := by decide +kernel
theorem d_Mo_init_206 : decode b_Mo_init 206 = .ok (.dup, 1) := by decide +kernel
theorem d_Mo_init_207 : decode b_Mo_init 207 = .ok (.invokespecial 87, 3) := by decide +kernel
theorem d_Mo_init_210 : decode b_Mo_init 210 = .ok (.aastore, 1) := by decide +kernel
theorem d_Mo_init_211 : decode b_Mo_init 211 = .ok (.iinc 1 1, 3) := by decide +kernel
theorem d_Mo_init_214 : decode b_Mo_init 214 = .ok (.goto (-22), 3) := by decide +kernel
theorem d_Mo_init_217 : decode b_Mo_init 217 = .ok (.return_, 1) := by decide +kernel
set_option maxHeartbeats 4000000 in
set_option maxRecDepth 100000 in
theorem c_Mo_init (l : Launch) (dC : Nat → ClassId) (dI : Nat → Nat → Nat) (h0 : Nat) (sz : Nat) : Met l y_Mo_init [Cond.code y_Mo_init b_Mo_init 2 (none)] ({ frames := 40, cells := 68, slots := 291723, locals := 600 }) (ux_Pc [.ref h0] (dC, dI) cls [(h0, .inr (12, [.null, .null, .null, .int 0, .int 0, .int 0, .int 0, .int 0, .null, .null, .null, .null, .null, .int 0, .int 0, .null, .null, .null, .null, .null, .null, .null, .null, .int 0, .int 0, .null, .null, .null, .null, .null, .int 0, .null, .int 0, .int 0, .int 0, .int 0, .null, .int 0, .int 0]))] [] sz) (va_Qv (fun _ : Unit => True) (fun (_ : Unit) (t : State) => ∃ (m_row : Nat), ∃ (m_in : Nat), ∃ (m_out : Nat), ∃ (m_kept : Nat), ∃ (m_keptSize : Nat), ∃ (m_nIp : Nat), ∃ (m_nHeard : Nat), ∃ (m_nHard : Nat), ∃ (m_gIp : Nat), ∃ (m_gNumber : Nat), ∃ (m_gProtocol : Nat), ∃ (m_gTold : Nat), ∃ (m_gBegun : Nat), ∃ (m_gOrder : Nat), ∃ (m_gBytes : Nat), ∃ (m_gThere : Nat), ∃ (m_pTarget : Nat), ∃ (m_pBytes : Nat), ∃ (m_pLong : Nat), ∃ (m_pSize : Nat), ∃ (m_pSum : Nat), ∃ (m_peer : Nat), ∃ (m_answer : Nat), ∃ (cM : ClassId), ∃ (cN : ClassId), ux_B (dC, dI) cls (va_A [(h0, .inr (12, [.null, .null, .null, .int 0, .int 0, .int 0, .int 0, .int 0, .null, .null, .null, .null, .null, .int 0, .int 0, .null, .null, .null, .null, .null, .null, .null, .null, .int 0, .int 0, .null, .null, .null, .null, .null, .int 0, .null, .int 0, .int 0, .int 0, .int 0, .null, .int 0, .int 0]))] sz) [(h0, .inr (12, [.ref m_row, .ref m_in, .ref m_out, .int 0, .int 0, .int 0, .int 0, .int 0, .ref m_kept, .ref m_keptSize, .ref m_nIp, .ref m_nHeard, .ref m_nHard, .int 0, .int 0, .ref m_gIp, .ref m_gNumber, .ref m_gProtocol, .ref m_gTold, .ref m_gBegun, .ref m_gOrder, .ref m_gBytes, .ref m_gThere, .int 0, .int 0, .ref m_pTarget, .ref m_pBytes, .ref m_pLong, .ref m_pSize, .ref m_pSum, .int 0, .ref m_peer, .int 0, .int 0, .int 0, .int 0, .ref m_answer, .int 0, .int 0])), (m_row, .inl (cM, 2000, .inl (fun _ => 0))), (m_in, .inl (cN, 5718, .inl (fun _ => 0)))] [(cM, .byte), (cN, .byte)] t) (va_A [(h0, .inr (12, [.null, .null, .null, .int 0, .int 0, .int 0, .int 0, .int 0, .null, .null, .null, .null, .null, .int 0, .int 0, .null, .null, .null, .null, .null, .null, .null, .null, .int 0, .int 0, .null, .null, .null, .null, .null, .int 0, .null, .int 0, .int 0, .int 0, .int 0, .null, .int 0, .int 0]))] sz)) 68 291723 (va_A [(h0, .inr (12, [.null, .null, .null, .int 0, .int 0, .int 0, .int 0, .int 0, .null, .null, .null, .null, .null, .int 0, .int 0, .null, .null, .null, .null, .null, .null, .null, .null, .int 0, .int 0, .null, .null, .null, .null, .null, .int 0, .null, .int 0, .int 0, .int 0, .int 0, .null, .int 0, .int 0]))] sz) := by
  refine Met.ofW (cc := b_Mo_init) (maxL := 2) (ret := none) (by decide) rfl ?_
  intro p e s m args below meth c s₁ B hml hv
  obtain ⟨rfl, hsz, hP, hK, hD0, hT⟩ := hv
  have hx := B.exec
  have hb := B.bytes
  have hr := B.returns
  have hown : s.vm.findClass "UnikernelHttpModel" = some m.cls := findClass_of_methodNamed B.named
  have hlocks := B.notSynchronized
  have hin : meth.name = "<init>" := (name_of_methodNamed B.named B.method).1
  subst hsz
  have hD := hD0.self (sz := s.heap.size)
  have hns := ux_ns hP
  generalize hAe : va_A [(h0, .inr (12, [.null, .null, .null, .int 0, .int 0, .int 0, .int 0, .int 0, .null, .null, .null, .null, .null, .int 0, .int 0, .null, .null, .null, .null, .null, .null, .null, .null, .int 0, .int 0, .null, .null, .null, .null, .null, .int 0, .null, .int 0, .int 0, .int 0, .int 0, .null, .int 0, .int 0]))] s.heap.size = A at hD hns ⊢
  have hA : ∀ q : Nat, s.heap.size ≤ q → A q := fun q h => by rw [← hAe]; exact Or.inr h
  have hS : va_S A s.heap s.heap [] := va_S.rf
  have hl := lv_entry ([.ref h0]) (n := 2) (Nat.le_of_ble_eq_true rfl)
  rw [lg_entry_eq]
  generalize (lg_sl ([.ref h0]) ++ List.replicate (2 - (lg_sl ([.ref h0])).length) Slot.unset).toArray = ls at hl ⊢
  have hl : lv_has ls 2 [(0, .ref h0)] := hl
  have hfx : CallFix p m c b_Mo_init 2 s ([.ref h0] : List Value).toArray [] "UnikernelHttpModel" := ⟨hx, hb, hml, hown, fun _ h => by cases h⟩
  refine lv_aload_n hx hb d_Mo_init_0 rfl (lv_at hl 0 rfl) ?_
  refine W.objInit hx hb hown (ux_T_at hT tw_1483 rfl) (ux_T_at hT tw_40 rfl) (ux_T_at hT tw_41 rfl) rfl (by rw [hml]; exact hl.1) rfl d_Mo_init_1 (Nat.le_of_ble_eq_true rfl) (Nat.le_of_ble_eq_true rfl) ?_
  refine W.eq (g2 := F0 m 4 ls []) rfl ?_
  refine lv_aload_n hx hb d_Mo_init_4 rfl (lv_at hl 0 rfl) ?_
  refine lv_sipush (v := 2000) hx hb d_Mo_init_5 (by decide) ?_
  refine va_newa (atype := .byte) (ty := .byte) (N' := 2000) (a0 := (2000, .inl (fun _ => 0))) hx hb (ux_T_at hT tw_66 rfl) rfl hK hP hD hS hA (fun _ => rfl) (by decide) (by decide +kernel) (by decide +kernel) (Nat.le_of_ble_eq_true rfl) (Nat.le_of_ble_eq_true rfl) d_Mo_init_8 (fun q1 cA2 H hK hP hD hS => ?_)
  have hP : va_P (dC, dI) cls [(h0, .inr (12, [.null, .null, .null, .int 0, .int 0, .int 0, .int 0, .int 0, .null, .null, .null, .null, .null, .int 0, .int 0, .null, .null, .null, .null, .null, .null, .null, .null, .int 0, .int 0, .null, .null, .null, .null, .null, .int 0, .null, .int 0, .int 0, .int 0, .int 0, .null, .int 0, .int 0])), (q1, .inl (cA2, 2000, .inl (fun _ => 0)))] H := hP
  have hD : va_D A [(h0, .inr (12, [.null, .null, .null, .int 0, .int 0, .int 0, .int 0, .int 0, .null, .null, .null, .null, .null, .int 0, .int 0, .null, .null, .null, .null, .null, .null, .null, .null, .int 0, .int 0, .null, .null, .null, .null, .null, .int 0, .null, .int 0, .int 0, .int 0, .int 0, .null, .int 0, .int 0])), (q1, .inl (cA2, 2000, .inl (fun _ => 0)))] := hD
  have hK : va_K (dC, dI) cls [(cA2, .byte)] s := hK
  refine va_putF (D := (dC, dI)) (ci := 12) (v := .ref q1) (ty := .array .byte) (C := R_Mo) (T := F_Mo) (N := 39) hx hb (u_Mo hT) (fun _ h => h) t_Mo k_Mo n_Mo hown hK hP hD hS 0 rfl rfl 0 (by decide) (ux_T_at hT tw_1594 rfl) (fun _ h9 => h9) rfl hin rfl (by decide +kernel) rfl rfl (Nat.le_of_ble_eq_true rfl) d_Mo_init_10 (fun H locs hP hD hS => ?_)
  have hP : va_P (dC, dI) cls [(h0, .inr (12, [.ref q1, .null, .null, .int 0, .int 0, .int 0, .int 0, .int 0, .null, .null, .null, .null, .null, .int 0, .int 0, .null, .null, .null, .null, .null, .null, .null, .null, .int 0, .int 0, .null, .null, .null, .null, .null, .int 0, .null, .int 0, .int 0, .int 0, .int 0, .null, .int 0, .int 0])), (q1, .inl (cA2, 2000, .inl (fun _ => 0)))] H := hP
  have hD : va_D A [(h0, .inr (12, [.ref q1, .null, .null, .int 0, .int 0, .int 0, .int 0, .int 0, .null, .null, .null, .null, .null, .int 0, .int 0, .null, .null, .null, .null, .null, .null, .null, .null, .int 0, .int 0, .null, .null, .null, .null, .null, .int 0, .null, .int 0, .int 0, .int 0, .int 0, .null, .int 0, .int 0])), (q1, .inl (cA2, 2000, .inl (fun _ => 0)))] := hD
  refine lv_aload_n hx hb d_Mo_init_13 rfl (lv_at hl 0 rfl) ?_
  refine lv_sipush (v := 5718) hx hb d_Mo_init_14 (by decide) ?_
  refine va_newa (atype := .byte) (ty := .byte) (N' := 5718) (a0 := (5718, .inl (fun _ => 0))) hx hb (ux_T_at hT tw_66 rfl) rfl hK hP hD hS hA (fun _ => rfl) (by decide) (by decide +kernel) (by decide +kernel) (Nat.le_of_ble_eq_true rfl) (Nat.le_of_ble_eq_true rfl) d_Mo_init_17 (fun q3 cA4 H hK hP hD hS => ?_)
  have hP : va_P (dC, dI) cls [(h0, .inr (12, [.ref q1, .null, .null, .int 0, .int 0, .int 0, .int 0, .int 0, .null, .null, .null, .null, .null, .int 0, .int 0, .null, .null, .null, .null, .null, .null, .null, .null, .int 0, .int 0, .null, .null, .null, .null, .null, .int 0, .null, .int 0, .int 0, .int 0, .int 0, .null, .int 0, .int 0])), (q1, .inl (cA2, 2000, .inl (fun _ => 0))), (q3, .inl (cA4, 5718, .inl (fun _ => 0)))] H := hP
  have hD : va_D A [(h0, .inr (12, [.ref q1, .null, .null, .int 0, .int 0, .int 0, .int 0, .int 0, .null, .null, .null, .null, .null, .int 0, .int 0, .null, .null, .null, .null, .null, .null, .null, .null, .int 0, .int 0, .null, .null, .null, .null, .null, .int 0, .null, .int 0, .int 0, .int 0, .int 0, .null, .int 0, .int 0])), (q1, .inl (cA2, 2000, .inl (fun _ => 0))), (q3, .inl (cA4, 5718, .inl (fun _ => 0)))] := hD
  have hK : va_K (dC, dI) cls [(cA2, .byte), (cA4, .byte)] s := hK
  refine va_putF (D := (dC, dI)) (ci := 12) (v := .ref q3) (ty := .array .byte) (C := R_Mo) (T := F_Mo) (N := 39) hx hb (u_Mo hT) (fun _ h => h) t_Mo k_Mo n_Mo hown hK hP hD hS 0 rfl rfl 1 (by decide) (ux_T_at hT tw_1595 rfl) (fun _ h9 => h9) rfl hin rfl (by decide +kernel) rfl rfl (Nat.le_of_ble_eq_true rfl) d_Mo_init_19 (fun H locs hP hD hS => ?_)
  have hP : va_P (dC, dI) cls [(h0, .inr (12, [.ref q1, .ref q3, .null, .int 0, .int 0, .int 0, .int 0, .int 0, .null, .null, .null, .null, .null, .int 0, .int 0, .null, .null, .null, .null, .null, .null, .null, .null, .int 0, .int 0, .null, .null, .null, .null, .null, .int 0, .null, .int 0, .int 0, .int 0, .int 0, .null, .int 0, .int 0])), (q1, .inl (cA2, 2000, .inl (fun _ => 0))), (q3, .inl (cA4, 5718, .inl (fun _ => 0)))] H := hP
  have hD : va_D A [(h0, .inr (12, [.ref q1, .ref q3, .null, .int 0, .int 0, .int 0, .int 0, .int 0, .null, .null, .null, .null, .null, .int 0, .int 0, .null, .null, .null, .null, .null, .null, .null, .null, .int 0, .int 0, .null, .null, .null, .null, .null, .int 0, .null, .int 0, .int 0, .int 0, .int 0, .null, .int 0, .int 0])), (q1, .inl (cA2, 2000, .inl (fun _ => 0))), (q3, .inl (cA4, 5718, .inl (fun _ => 0)))] := hD
  refine lv_aload_n hx hb d_Mo_init_22 rfl (lv_at hl 0 rfl) ?_
  refine lv_sipush (v := 4300) hx hb d_Mo_init_23 (by decide) ?_
  refine va_newa (atype := .byte) (ty := .byte) (N' := 4300) (a0 := (4300, .inl (fun _ => 0))) hx hb (ux_T_at hT tw_66 rfl) rfl hK hP hD hS hA (fun _ => rfl) (by decide) (by decide +kernel) (by decide +kernel) (Nat.le_of_ble_eq_true rfl) (Nat.le_of_ble_eq_true rfl) d_Mo_init_26 (fun q5 cA6 H hK hP hD hS => ?_)
  have hP : va_P (dC, dI) cls [(h0, .inr (12, [.ref q1, .ref q3, .null, .int 0, .int 0, .int 0, .int 0, .int 0, .null, .null, .null, .null, .null, .int 0, .int 0, .null, .null, .null, .null, .null, .null, .null, .null, .int 0, .int 0, .null, .null, .null, .null, .null, .int 0, .null, .int 0, .int 0, .int 0, .int 0, .null, .int 0, .int 0])), (q1, .inl (cA2, 2000, .inl (fun _ => 0))), (q3, .inl (cA4, 5718, .inl (fun _ => 0))), (q5, .inl (cA6, 4300, .inl (fun _ => 0)))] H := hP
  have hD : va_D A [(h0, .inr (12, [.ref q1, .ref q3, .null, .int 0, .int 0, .int 0, .int 0, .int 0, .null, .null, .null, .null, .null, .int 0, .int 0, .null, .null, .null, .null, .null, .null, .null, .null, .int 0, .int 0, .null, .null, .null, .null, .null, .int 0, .null, .int 0, .int 0, .int 0, .int 0, .null, .int 0, .int 0])), (q1, .inl (cA2, 2000, .inl (fun _ => 0))), (q3, .inl (cA4, 5718, .inl (fun _ => 0))), (q5, .inl (cA6, 4300, .inl (fun _ => 0)))] := hD
  have hK : va_K (dC, dI) cls [(cA2, .byte), (cA4, .byte), (cA6, .byte)] s := hK
  refine va_putF (D := (dC, dI)) (ci := 12) (v := .ref q5) (ty := .array .byte) (C := R_Mo) (T := F_Mo) (N := 39) hx hb (u_Mo hT) (fun _ h => h) t_Mo k_Mo n_Mo hown hK hP hD hS 0 rfl rfl 2 (by decide) (ux_T_at hT tw_1596 rfl) (fun _ h9 => h9) rfl hin rfl (by decide +kernel) rfl rfl (Nat.le_of_ble_eq_true rfl) d_Mo_init_28 (fun H locs hP hD hS => ?_)
  have hP : va_P (dC, dI) cls [(h0, .inr (12, [.ref q1, .ref q3, .ref q5, .int 0, .int 0, .int 0, .int 0, .int 0, .null, .null, .null, .null, .null, .int 0, .int 0, .null, .null, .null, .null, .null, .null, .null, .null, .int 0, .int 0, .null, .null, .null, .null, .null, .int 0, .null, .int 0, .int 0, .int 0, .int 0, .null, .int 0, .int 0])), (q1, .inl (cA2, 2000, .inl (fun _ => 0))), (q3, .inl (cA4, 5718, .inl (fun _ => 0))), (q5, .inl (cA6, 4300, .inl (fun _ => 0)))] H := hP
  have hD : va_D A [(h0, .inr (12, [.ref q1, .ref q3, .ref q5, .int 0, .int 0, .int 0, .int 0, .int 0, .null, .null, .null, .null, .null, .int 0, .int 0, .null, .null, .null, .null, .null, .null, .null, .null, .int 0, .int 0, .null, .null, .null, .null, .null, .int 0, .null, .int 0, .int 0, .int 0, .int 0, .null, .int 0, .int 0])), (q1, .inl (cA2, 2000, .inl (fun _ => 0))), (q3, .inl (cA4, 5718, .inl (fun _ => 0))), (q5, .inl (cA6, 4300, .inl (fun _ => 0)))] := hD
  have hP := hP.sub (ws' := [(h0, .inr (12, [.ref q1, .ref q3, .ref q5, .int 0, .int 0, .int 0, .int 0, .int 0, .null, .null, .null, .null, .null, .int 0, .int 0, .null, .null, .null, .null, .null, .null, .null, .null, .int 0, .int 0, .null, .null, .null, .null, .null, .int 0, .null, .int 0, .int 0, .int 0, .int 0, .null, .int 0, .int 0])), (q1, .inl (cA2, 2000, .inl (fun _ => 0))), (q3, .inl (cA4, 5718, .inl (fun _ => 0)))]) [0, 1, 2] rfl
  have hD := hD.sub (ws' := [(h0, .inr (12, [.ref q1, .ref q3, .ref q5, .int 0, .int 0, .int 0, .int 0, .int 0, .null, .null, .null, .null, .null, .int 0, .int 0, .null, .null, .null, .null, .null, .null, .null, .null, .int 0, .int 0, .null, .null, .null, .null, .null, .int 0, .null, .int 0, .int 0, .int 0, .int 0, .null, .int 0, .int 0])), (q1, .inl (cA2, 2000, .inl (fun _ => 0))), (q3, .inl (cA4, 5718, .inl (fun _ => 0)))]) [0, 1, 2] (by decide) rfl
  refine lv_aload_n hx hb d_Mo_init_31 rfl (lv_at hl 0 rfl) ?_
  refine lv_ldc (own := "UnikernelHttpModel") (v := 102400) hx hb hown (ux_T_at hT tw_1484 rfl) d_Mo_init_32 ?_
  refine va_newa (atype := .byte) (ty := .byte) (N' := 102400) (a0 := (102400, .inl (fun _ => 0))) hx hb (ux_T_at hT tw_66 rfl) rfl hK hP hD hS hA (fun _ => rfl) (by decide) (by decide +kernel) (by decide +kernel) (Nat.le_of_ble_eq_true rfl) (Nat.le_of_ble_eq_true rfl) d_Mo_init_34 (fun q7 cA8 H hK hP hD hS => ?_)
  have hP : va_P (dC, dI) cls [(h0, .inr (12, [.ref q1, .ref q3, .ref q5, .int 0, .int 0, .int 0, .int 0, .int 0, .null, .null, .null, .null, .null, .int 0, .int 0, .null, .null, .null, .null, .null, .null, .null, .null, .int 0, .int 0, .null, .null, .null, .null, .null, .int 0, .null, .int 0, .int 0, .int 0, .int 0, .null, .int 0, .int 0])), (q1, .inl (cA2, 2000, .inl (fun _ => 0))), (q3, .inl (cA4, 5718, .inl (fun _ => 0))), (q7, .inl (cA8, 102400, .inl (fun _ => 0)))] H := hP
  have hD : va_D A [(h0, .inr (12, [.ref q1, .ref q3, .ref q5, .int 0, .int 0, .int 0, .int 0, .int 0, .null, .null, .null, .null, .null, .int 0, .int 0, .null, .null, .null, .null, .null, .null, .null, .null, .int 0, .int 0, .null, .null, .null, .null, .null, .int 0, .null, .int 0, .int 0, .int 0, .int 0, .null, .int 0, .int 0])), (q1, .inl (cA2, 2000, .inl (fun _ => 0))), (q3, .inl (cA4, 5718, .inl (fun _ => 0))), (q7, .inl (cA8, 102400, .inl (fun _ => 0)))] := hD
  have hK : va_K (dC, dI) cls [(cA2, .byte), (cA4, .byte), (cA6, .byte), (cA8, .byte)] s := hK
  refine va_putF (D := (dC, dI)) (ci := 12) (v := .ref q7) (ty := .array .byte) (C := R_Mo) (T := F_Mo) (N := 39) hx hb (u_Mo hT) (fun _ h => h) t_Mo k_Mo n_Mo hown hK hP hD hS 0 rfl rfl 8 (by decide) (ux_T_at hT tw_1602 rfl) (fun _ h9 => h9) rfl hin rfl (by decide +kernel) rfl rfl (Nat.le_of_ble_eq_true rfl) d_Mo_init_36 (fun H locs hP hD hS => ?_)
  have hP : va_P (dC, dI) cls [(h0, .inr (12, [.ref q1, .ref q3, .ref q5, .int 0, .int 0, .int 0, .int 0, .int 0, .ref q7, .null, .null, .null, .null, .int 0, .int 0, .null, .null, .null, .null, .null, .null, .null, .null, .int 0, .int 0, .null, .null, .null, .null, .null, .int 0, .null, .int 0, .int 0, .int 0, .int 0, .null, .int 0, .int 0])), (q1, .inl (cA2, 2000, .inl (fun _ => 0))), (q3, .inl (cA4, 5718, .inl (fun _ => 0))), (q7, .inl (cA8, 102400, .inl (fun _ => 0)))] H := hP
  have hD : va_D A [(h0, .inr (12, [.ref q1, .ref q3, .ref q5, .int 0, .int 0, .int 0, .int 0, .int 0, .ref q7, .null, .null, .null, .null, .int 0, .int 0, .null, .null, .null, .null, .null, .null, .null, .null, .int 0, .int 0, .null, .null, .null, .null, .null, .int 0, .null, .int 0, .int 0, .int 0, .int 0, .null, .int 0, .int 0])), (q1, .inl (cA2, 2000, .inl (fun _ => 0))), (q3, .inl (cA4, 5718, .inl (fun _ => 0))), (q7, .inl (cA8, 102400, .inl (fun _ => 0)))] := hD
  have hP := hP.sub (ws' := [(h0, .inr (12, [.ref q1, .ref q3, .ref q5, .int 0, .int 0, .int 0, .int 0, .int 0, .ref q7, .null, .null, .null, .null, .int 0, .int 0, .null, .null, .null, .null, .null, .null, .null, .null, .int 0, .int 0, .null, .null, .null, .null, .null, .int 0, .null, .int 0, .int 0, .int 0, .int 0, .null, .int 0, .int 0])), (q1, .inl (cA2, 2000, .inl (fun _ => 0))), (q3, .inl (cA4, 5718, .inl (fun _ => 0)))]) [0, 1, 2] rfl
  have hD := hD.sub (ws' := [(h0, .inr (12, [.ref q1, .ref q3, .ref q5, .int 0, .int 0, .int 0, .int 0, .int 0, .ref q7, .null, .null, .null, .null, .int 0, .int 0, .null, .null, .null, .null, .null, .null, .null, .null, .int 0, .int 0, .null, .null, .null, .null, .null, .int 0, .null, .int 0, .int 0, .int 0, .int 0, .null, .int 0, .int 0])), (q1, .inl (cA2, 2000, .inl (fun _ => 0))), (q3, .inl (cA4, 5718, .inl (fun _ => 0)))]) [0, 1, 2] (by decide) rfl
  refine lv_aload_n hx hb d_Mo_init_39 rfl (lv_at hl 0 rfl) ?_
  refine lv_bipush (v := 64) hx hb d_Mo_init_40 (by decide) ?_
  refine va_newa (atype := .int) (ty := .int) (N' := 64) (a0 := (64, .inl (fun _ => 0))) hx hb (ux_T_at hT tw_67 rfl) rfl hK hP hD hS hA (fun _ => rfl) (by decide) (by decide +kernel) (by decide +kernel) (Nat.le_of_ble_eq_true rfl) (Nat.le_of_ble_eq_true rfl) d_Mo_init_42 (fun q9 cA10 H hK hP hD hS => ?_)
  have hP : va_P (dC, dI) cls [(h0, .inr (12, [.ref q1, .ref q3, .ref q5, .int 0, .int 0, .int 0, .int 0, .int 0, .ref q7, .null, .null, .null, .null, .int 0, .int 0, .null, .null, .null, .null, .null, .null, .null, .null, .int 0, .int 0, .null, .null, .null, .null, .null, .int 0, .null, .int 0, .int 0, .int 0, .int 0, .null, .int 0, .int 0])), (q1, .inl (cA2, 2000, .inl (fun _ => 0))), (q3, .inl (cA4, 5718, .inl (fun _ => 0))), (q9, .inl (cA10, 64, .inl (fun _ => 0)))] H := hP
  have hD : va_D A [(h0, .inr (12, [.ref q1, .ref q3, .ref q5, .int 0, .int 0, .int 0, .int 0, .int 0, .ref q7, .null, .null, .null, .null, .int 0, .int 0, .null, .null, .null, .null, .null, .null, .null, .null, .int 0, .int 0, .null, .null, .null, .null, .null, .int 0, .null, .int 0, .int 0, .int 0, .int 0, .null, .int 0, .int 0])), (q1, .inl (cA2, 2000, .inl (fun _ => 0))), (q3, .inl (cA4, 5718, .inl (fun _ => 0))), (q9, .inl (cA10, 64, .inl (fun _ => 0)))] := hD
  have hK : va_K (dC, dI) cls [(cA2, .byte), (cA4, .byte), (cA6, .byte), (cA8, .byte), (cA10, .int)] s := hK
  refine va_putF (D := (dC, dI)) (ci := 12) (v := .ref q9) (ty := .array .int) (C := R_Mo) (T := F_Mo) (N := 39) hx hb (u_Mo hT) (fun _ h => h) t_Mo k_Mo n_Mo hown hK hP hD hS 0 rfl rfl 9 (by decide) (ux_T_at hT tw_1603 rfl) (fun _ h9 => h9) rfl hin rfl (by decide +kernel) rfl rfl (Nat.le_of_ble_eq_true rfl) d_Mo_init_44 (fun H locs hP hD hS => ?_)
  have hP : va_P (dC, dI) cls [(h0, .inr (12, [.ref q1, .ref q3, .ref q5, .int 0, .int 0, .int 0, .int 0, .int 0, .ref q7, .ref q9, .null, .null, .null, .int 0, .int 0, .null, .null, .null, .null, .null, .null, .null, .null, .int 0, .int 0, .null, .null, .null, .null, .null, .int 0, .null, .int 0, .int 0, .int 0, .int 0, .null, .int 0, .int 0])), (q1, .inl (cA2, 2000, .inl (fun _ => 0))), (q3, .inl (cA4, 5718, .inl (fun _ => 0))), (q9, .inl (cA10, 64, .inl (fun _ => 0)))] H := hP
  have hD : va_D A [(h0, .inr (12, [.ref q1, .ref q3, .ref q5, .int 0, .int 0, .int 0, .int 0, .int 0, .ref q7, .ref q9, .null, .null, .null, .int 0, .int 0, .null, .null, .null, .null, .null, .null, .null, .null, .int 0, .int 0, .null, .null, .null, .null, .null, .int 0, .null, .int 0, .int 0, .int 0, .int 0, .null, .int 0, .int 0])), (q1, .inl (cA2, 2000, .inl (fun _ => 0))), (q3, .inl (cA4, 5718, .inl (fun _ => 0))), (q9, .inl (cA10, 64, .inl (fun _ => 0)))] := hD
  have hP := hP.sub (ws' := [(h0, .inr (12, [.ref q1, .ref q3, .ref q5, .int 0, .int 0, .int 0, .int 0, .int 0, .ref q7, .ref q9, .null, .null, .null, .int 0, .int 0, .null, .null, .null, .null, .null, .null, .null, .null, .int 0, .int 0, .null, .null, .null, .null, .null, .int 0, .null, .int 0, .int 0, .int 0, .int 0, .null, .int 0, .int 0])), (q1, .inl (cA2, 2000, .inl (fun _ => 0))), (q3, .inl (cA4, 5718, .inl (fun _ => 0)))]) [0, 1, 2] rfl
  have hD := hD.sub (ws' := [(h0, .inr (12, [.ref q1, .ref q3, .ref q5, .int 0, .int 0, .int 0, .int 0, .int 0, .ref q7, .ref q9, .null, .null, .null, .int 0, .int 0, .null, .null, .null, .null, .null, .null, .null, .null, .int 0, .int 0, .null, .null, .null, .null, .null, .int 0, .null, .int 0, .int 0, .int 0, .int 0, .null, .int 0, .int 0])), (q1, .inl (cA2, 2000, .inl (fun _ => 0))), (q3, .inl (cA4, 5718, .inl (fun _ => 0)))]) [0, 1, 2] (by decide) rfl
  refine lv_aload_n hx hb d_Mo_init_47 rfl (lv_at hl 0 rfl) ?_
  refine lv_bipush (v := 16) hx hb d_Mo_init_48 (by decide) ?_
  refine va_newa (atype := .int) (ty := .int) (N' := 16) (a0 := (16, .inl (fun _ => 0))) hx hb (ux_T_at hT tw_67 rfl) rfl hK hP hD hS hA (fun _ => rfl) (by decide) (by decide +kernel) (by decide +kernel) (Nat.le_of_ble_eq_true rfl) (Nat.le_of_ble_eq_true rfl) d_Mo_init_50 (fun q11 cA12 H hK hP hD hS => ?_)
  have hP : va_P (dC, dI) cls [(h0, .inr (12, [.ref q1, .ref q3, .ref q5, .int 0, .int 0, .int 0, .int 0, .int 0, .ref q7, .ref q9, .null, .null, .null, .int 0, .int 0, .null, .null, .null, .null, .null, .null, .null, .null, .int 0, .int 0, .null, .null, .null, .null, .null, .int 0, .null, .int 0, .int 0, .int 0, .int 0, .null, .int 0, .int 0])), (q1, .inl (cA2, 2000, .inl (fun _ => 0))), (q3, .inl (cA4, 5718, .inl (fun _ => 0))), (q11, .inl (cA12, 16, .inl (fun _ => 0)))] H := hP
  have hD : va_D A [(h0, .inr (12, [.ref q1, .ref q3, .ref q5, .int 0, .int 0, .int 0, .int 0, .int 0, .ref q7, .ref q9, .null, .null, .null, .int 0, .int 0, .null, .null, .null, .null, .null, .null, .null, .null, .int 0, .int 0, .null, .null, .null, .null, .null, .int 0, .null, .int 0, .int 0, .int 0, .int 0, .null, .int 0, .int 0])), (q1, .inl (cA2, 2000, .inl (fun _ => 0))), (q3, .inl (cA4, 5718, .inl (fun _ => 0))), (q11, .inl (cA12, 16, .inl (fun _ => 0)))] := hD
  have hK : va_K (dC, dI) cls [(cA2, .byte), (cA4, .byte), (cA6, .byte), (cA8, .byte), (cA10, .int), (cA12, .int)] s := hK
  refine va_putF (D := (dC, dI)) (ci := 12) (v := .ref q11) (ty := .array .int) (C := R_Mo) (T := F_Mo) (N := 39) hx hb (u_Mo hT) (fun _ h => h) t_Mo k_Mo n_Mo hown hK hP hD hS 0 rfl rfl 10 (by decide) (ux_T_at hT tw_1604 rfl) (fun _ h9 => h9) rfl hin rfl (by decide +kernel) rfl rfl (Nat.le_of_ble_eq_true rfl) d_Mo_init_52 (fun H locs hP hD hS => ?_)
  have hP : va_P (dC, dI) cls [(h0, .inr (12, [.ref q1, .ref q3, .ref q5, .int 0, .int 0, .int 0, .int 0, .int 0, .ref q7, .ref q9, .ref q11, .null, .null, .int 0, .int 0, .null, .null, .null, .null, .null, .null, .null, .null, .int 0, .int 0, .null, .null, .null, .null, .null, .int 0, .null, .int 0, .int 0, .int 0, .int 0, .null, .int 0, .int 0])), (q1, .inl (cA2, 2000, .inl (fun _ => 0))), (q3, .inl (cA4, 5718, .inl (fun _ => 0))), (q11, .inl (cA12, 16, .inl (fun _ => 0)))] H := hP
  have hD : va_D A [(h0, .inr (12, [.ref q1, .ref q3, .ref q5, .int 0, .int 0, .int 0, .int 0, .int 0, .ref q7, .ref q9, .ref q11, .null, .null, .int 0, .int 0, .null, .null, .null, .null, .null, .null, .null, .null, .int 0, .int 0, .null, .null, .null, .null, .null, .int 0, .null, .int 0, .int 0, .int 0, .int 0, .null, .int 0, .int 0])), (q1, .inl (cA2, 2000, .inl (fun _ => 0))), (q3, .inl (cA4, 5718, .inl (fun _ => 0))), (q11, .inl (cA12, 16, .inl (fun _ => 0)))] := hD
  have hP := hP.sub (ws' := [(h0, .inr (12, [.ref q1, .ref q3, .ref q5, .int 0, .int 0, .int 0, .int 0, .int 0, .ref q7, .ref q9, .ref q11, .null, .null, .int 0, .int 0, .null, .null, .null, .null, .null, .null, .null, .null, .int 0, .int 0, .null, .null, .null, .null, .null, .int 0, .null, .int 0, .int 0, .int 0, .int 0, .null, .int 0, .int 0])), (q1, .inl (cA2, 2000, .inl (fun _ => 0))), (q3, .inl (cA4, 5718, .inl (fun _ => 0)))]) [0, 1, 2] rfl
  have hD := hD.sub (ws' := [(h0, .inr (12, [.ref q1, .ref q3, .ref q5, .int 0, .int 0, .int 0, .int 0, .int 0, .ref q7, .ref q9, .ref q11, .null, .null, .int 0, .int 0, .null, .null, .null, .null, .null, .null, .null, .null, .int 0, .int 0, .null, .null, .null, .null, .null, .int 0, .null, .int 0, .int 0, .int 0, .int 0, .null, .int 0, .int 0])), (q1, .inl (cA2, 2000, .inl (fun _ => 0))), (q3, .inl (cA4, 5718, .inl (fun _ => 0)))]) [0, 1, 2] (by decide) rfl
  refine lv_aload_n hx hb d_Mo_init_55 rfl (lv_at hl 0 rfl) ?_
  refine lv_bipush (v := 16) hx hb d_Mo_init_56 (by decide) ?_
  refine va_newa (atype := .int) (ty := .int) (N' := 16) (a0 := (16, .inl (fun _ => 0))) hx hb (ux_T_at hT tw_67 rfl) rfl hK hP hD hS hA (fun _ => rfl) (by decide) (by decide +kernel) (by decide +kernel) (Nat.le_of_ble_eq_true rfl) (Nat.le_of_ble_eq_true rfl) d_Mo_init_58 (fun q13 cA14 H hK hP hD hS => ?_)
  have hP : va_P (dC, dI) cls [(h0, .inr (12, [.ref q1, .ref q3, .ref q5, .int 0, .int 0, .int 0, .int 0, .int 0, .ref q7, .ref q9, .ref q11, .null, .null, .int 0, .int 0, .null, .null, .null, .null, .null, .null, .null, .null, .int 0, .int 0, .null, .null, .null, .null, .null, .int 0, .null, .int 0, .int 0, .int 0, .int 0, .null, .int 0, .int 0])), (q1, .inl (cA2, 2000, .inl (fun _ => 0))), (q3, .inl (cA4, 5718, .inl (fun _ => 0))), (q13, .inl (cA14, 16, .inl (fun _ => 0)))] H := hP
  have hD : va_D A [(h0, .inr (12, [.ref q1, .ref q3, .ref q5, .int 0, .int 0, .int 0, .int 0, .int 0, .ref q7, .ref q9, .ref q11, .null, .null, .int 0, .int 0, .null, .null, .null, .null, .null, .null, .null, .null, .int 0, .int 0, .null, .null, .null, .null, .null, .int 0, .null, .int 0, .int 0, .int 0, .int 0, .null, .int 0, .int 0])), (q1, .inl (cA2, 2000, .inl (fun _ => 0))), (q3, .inl (cA4, 5718, .inl (fun _ => 0))), (q13, .inl (cA14, 16, .inl (fun _ => 0)))] := hD
  have hK : va_K (dC, dI) cls [(cA2, .byte), (cA4, .byte), (cA6, .byte), (cA8, .byte), (cA10, .int), (cA12, .int), (cA14, .int)] s := hK
  refine va_putF (D := (dC, dI)) (ci := 12) (v := .ref q13) (ty := .array .int) (C := R_Mo) (T := F_Mo) (N := 39) hx hb (u_Mo hT) (fun _ h => h) t_Mo k_Mo n_Mo hown hK hP hD hS 0 rfl rfl 11 (by decide) (ux_T_at hT tw_1605 rfl) (fun _ h9 => h9) rfl hin rfl (by decide +kernel) rfl rfl (Nat.le_of_ble_eq_true rfl) d_Mo_init_60 (fun H locs hP hD hS => ?_)
  have hP : va_P (dC, dI) cls [(h0, .inr (12, [.ref q1, .ref q3, .ref q5, .int 0, .int 0, .int 0, .int 0, .int 0, .ref q7, .ref q9, .ref q11, .ref q13, .null, .int 0, .int 0, .null, .null, .null, .null, .null, .null, .null, .null, .int 0, .int 0, .null, .null, .null, .null, .null, .int 0, .null, .int 0, .int 0, .int 0, .int 0, .null, .int 0, .int 0])), (q1, .inl (cA2, 2000, .inl (fun _ => 0))), (q3, .inl (cA4, 5718, .inl (fun _ => 0))), (q13, .inl (cA14, 16, .inl (fun _ => 0)))] H := hP
  have hD : va_D A [(h0, .inr (12, [.ref q1, .ref q3, .ref q5, .int 0, .int 0, .int 0, .int 0, .int 0, .ref q7, .ref q9, .ref q11, .ref q13, .null, .int 0, .int 0, .null, .null, .null, .null, .null, .null, .null, .null, .int 0, .int 0, .null, .null, .null, .null, .null, .int 0, .null, .int 0, .int 0, .int 0, .int 0, .null, .int 0, .int 0])), (q1, .inl (cA2, 2000, .inl (fun _ => 0))), (q3, .inl (cA4, 5718, .inl (fun _ => 0))), (q13, .inl (cA14, 16, .inl (fun _ => 0)))] := hD
  have hP := hP.sub (ws' := [(h0, .inr (12, [.ref q1, .ref q3, .ref q5, .int 0, .int 0, .int 0, .int 0, .int 0, .ref q7, .ref q9, .ref q11, .ref q13, .null, .int 0, .int 0, .null, .null, .null, .null, .null, .null, .null, .null, .int 0, .int 0, .null, .null, .null, .null, .null, .int 0, .null, .int 0, .int 0, .int 0, .int 0, .null, .int 0, .int 0])), (q1, .inl (cA2, 2000, .inl (fun _ => 0))), (q3, .inl (cA4, 5718, .inl (fun _ => 0)))]) [0, 1, 2] rfl
  have hD := hD.sub (ws' := [(h0, .inr (12, [.ref q1, .ref q3, .ref q5, .int 0, .int 0, .int 0, .int 0, .int 0, .ref q7, .ref q9, .ref q11, .ref q13, .null, .int 0, .int 0, .null, .null, .null, .null, .null, .null, .null, .null, .int 0, .int 0, .null, .null, .null, .null, .null, .int 0, .null, .int 0, .int 0, .int 0, .int 0, .null, .int 0, .int 0])), (q1, .inl (cA2, 2000, .inl (fun _ => 0))), (q3, .inl (cA4, 5718, .inl (fun _ => 0)))]) [0, 1, 2] (by decide) rfl
  refine lv_aload_n hx hb d_Mo_init_63 rfl (lv_at hl 0 rfl) ?_
  refine lv_bipush (v := 16) hx hb d_Mo_init_64 (by decide) ?_
  refine va_newa (atype := .long) (ty := .long) (N' := 16) (a0 := (16, .inr (.inl (fun _ => 0)))) hx hb (ux_T_at hT tw_68 rfl) rfl hK hP hD hS hA (fun _ => rfl) (by decide) (by decide +kernel) (by decide +kernel) (Nat.le_of_ble_eq_true rfl) (Nat.le_of_ble_eq_true rfl) d_Mo_init_66 (fun q15 cA16 H hK hP hD hS => ?_)
  have hP : va_P (dC, dI) cls [(h0, .inr (12, [.ref q1, .ref q3, .ref q5, .int 0, .int 0, .int 0, .int 0, .int 0, .ref q7, .ref q9, .ref q11, .ref q13, .null, .int 0, .int 0, .null, .null, .null, .null, .null, .null, .null, .null, .int 0, .int 0, .null, .null, .null, .null, .null, .int 0, .null, .int 0, .int 0, .int 0, .int 0, .null, .int 0, .int 0])), (q1, .inl (cA2, 2000, .inl (fun _ => 0))), (q3, .inl (cA4, 5718, .inl (fun _ => 0))), (q15, .inl (cA16, 16, .inr (.inl (fun _ => 0))))] H := hP
  have hD : va_D A [(h0, .inr (12, [.ref q1, .ref q3, .ref q5, .int 0, .int 0, .int 0, .int 0, .int 0, .ref q7, .ref q9, .ref q11, .ref q13, .null, .int 0, .int 0, .null, .null, .null, .null, .null, .null, .null, .null, .int 0, .int 0, .null, .null, .null, .null, .null, .int 0, .null, .int 0, .int 0, .int 0, .int 0, .null, .int 0, .int 0])), (q1, .inl (cA2, 2000, .inl (fun _ => 0))), (q3, .inl (cA4, 5718, .inl (fun _ => 0))), (q15, .inl (cA16, 16, .inr (.inl (fun _ => 0))))] := hD
  have hK : va_K (dC, dI) cls [(cA2, .byte), (cA4, .byte), (cA6, .byte), (cA8, .byte), (cA10, .int), (cA12, .int), (cA14, .int), (cA16, .long)] s := hK
  refine va_putF (D := (dC, dI)) (ci := 12) (v := .ref q15) (ty := .array .long) (C := R_Mo) (T := F_Mo) (N := 39) hx hb (u_Mo hT) (fun _ h => h) t_Mo k_Mo n_Mo hown hK hP hD hS 0 rfl rfl 12 (by decide) (ux_T_at hT tw_1606 rfl) (fun _ h9 => h9) rfl hin rfl (by decide +kernel) rfl rfl (Nat.le_of_ble_eq_true rfl) d_Mo_init_68 (fun H locs hP hD hS => ?_)
  have hP : va_P (dC, dI) cls [(h0, .inr (12, [.ref q1, .ref q3, .ref q5, .int 0, .int 0, .int 0, .int 0, .int 0, .ref q7, .ref q9, .ref q11, .ref q13, .ref q15, .int 0, .int 0, .null, .null, .null, .null, .null, .null, .null, .null, .int 0, .int 0, .null, .null, .null, .null, .null, .int 0, .null, .int 0, .int 0, .int 0, .int 0, .null, .int 0, .int 0])), (q1, .inl (cA2, 2000, .inl (fun _ => 0))), (q3, .inl (cA4, 5718, .inl (fun _ => 0))), (q15, .inl (cA16, 16, .inr (.inl (fun _ => 0))))] H := hP
  have hD : va_D A [(h0, .inr (12, [.ref q1, .ref q3, .ref q5, .int 0, .int 0, .int 0, .int 0, .int 0, .ref q7, .ref q9, .ref q11, .ref q13, .ref q15, .int 0, .int 0, .null, .null, .null, .null, .null, .null, .null, .null, .int 0, .int 0, .null, .null, .null, .null, .null, .int 0, .null, .int 0, .int 0, .int 0, .int 0, .null, .int 0, .int 0])), (q1, .inl (cA2, 2000, .inl (fun _ => 0))), (q3, .inl (cA4, 5718, .inl (fun _ => 0))), (q15, .inl (cA16, 16, .inr (.inl (fun _ => 0))))] := hD
  have hP := hP.sub (ws' := [(h0, .inr (12, [.ref q1, .ref q3, .ref q5, .int 0, .int 0, .int 0, .int 0, .int 0, .ref q7, .ref q9, .ref q11, .ref q13, .ref q15, .int 0, .int 0, .null, .null, .null, .null, .null, .null, .null, .null, .int 0, .int 0, .null, .null, .null, .null, .null, .int 0, .null, .int 0, .int 0, .int 0, .int 0, .null, .int 0, .int 0])), (q1, .inl (cA2, 2000, .inl (fun _ => 0))), (q3, .inl (cA4, 5718, .inl (fun _ => 0)))]) [0, 1, 2] rfl
  have hD := hD.sub (ws' := [(h0, .inr (12, [.ref q1, .ref q3, .ref q5, .int 0, .int 0, .int 0, .int 0, .int 0, .ref q7, .ref q9, .ref q11, .ref q13, .ref q15, .int 0, .int 0, .null, .null, .null, .null, .null, .null, .null, .null, .int 0, .int 0, .null, .null, .null, .null, .null, .int 0, .null, .int 0, .int 0, .int 0, .int 0, .null, .int 0, .int 0])), (q1, .inl (cA2, 2000, .inl (fun _ => 0))), (q3, .inl (cA4, 5718, .inl (fun _ => 0)))]) [0, 1, 2] (by decide) rfl
  refine lv_aload_n hx hb d_Mo_init_71 rfl (lv_at hl 0 rfl) ?_
  refine lv_iconst (v := 4) hx hb d_Mo_init_72 (by decide) ?_
  refine va_newa (atype := .int) (ty := .int) (N' := 4) (a0 := (4, .inl (fun _ => 0))) hx hb (ux_T_at hT tw_67 rfl) rfl hK hP hD hS hA (fun _ => rfl) (by decide) (by decide +kernel) (by decide +kernel) (Nat.le_of_ble_eq_true rfl) (Nat.le_of_ble_eq_true rfl) d_Mo_init_73 (fun q17 cA18 H hK hP hD hS => ?_)
  have hP : va_P (dC, dI) cls [(h0, .inr (12, [.ref q1, .ref q3, .ref q5, .int 0, .int 0, .int 0, .int 0, .int 0, .ref q7, .ref q9, .ref q11, .ref q13, .ref q15, .int 0, .int 0, .null, .null, .null, .null, .null, .null, .null, .null, .int 0, .int 0, .null, .null, .null, .null, .null, .int 0, .null, .int 0, .int 0, .int 0, .int 0, .null, .int 0, .int 0])), (q1, .inl (cA2, 2000, .inl (fun _ => 0))), (q3, .inl (cA4, 5718, .inl (fun _ => 0))), (q17, .inl (cA18, 4, .inl (fun _ => 0)))] H := hP
  have hD : va_D A [(h0, .inr (12, [.ref q1, .ref q3, .ref q5, .int 0, .int 0, .int 0, .int 0, .int 0, .ref q7, .ref q9, .ref q11, .ref q13, .ref q15, .int 0, .int 0, .null, .null, .null, .null, .null, .null, .null, .null, .int 0, .int 0, .null, .null, .null, .null, .null, .int 0, .null, .int 0, .int 0, .int 0, .int 0, .null, .int 0, .int 0])), (q1, .inl (cA2, 2000, .inl (fun _ => 0))), (q3, .inl (cA4, 5718, .inl (fun _ => 0))), (q17, .inl (cA18, 4, .inl (fun _ => 0)))] := hD
  have hK : va_K (dC, dI) cls [(cA2, .byte), (cA4, .byte), (cA6, .byte), (cA8, .byte), (cA10, .int), (cA12, .int), (cA14, .int), (cA16, .long), (cA18, .int)] s := hK
  refine va_putF (D := (dC, dI)) (ci := 12) (v := .ref q17) (ty := .array .int) (C := R_Mo) (T := F_Mo) (N := 39) hx hb (u_Mo hT) (fun _ h => h) t_Mo k_Mo n_Mo hown hK hP hD hS 0 rfl rfl 15 (by decide) (ux_T_at hT tw_1609 rfl) (fun _ h9 => h9) rfl hin rfl (by decide +kernel) rfl rfl (Nat.le_of_ble_eq_true rfl) d_Mo_init_75 (fun H locs hP hD hS => ?_)
  have hP : va_P (dC, dI) cls [(h0, .inr (12, [.ref q1, .ref q3, .ref q5, .int 0, .int 0, .int 0, .int 0, .int 0, .ref q7, .ref q9, .ref q11, .ref q13, .ref q15, .int 0, .int 0, .ref q17, .null, .null, .null, .null, .null, .null, .null, .int 0, .int 0, .null, .null, .null, .null, .null, .int 0, .null, .int 0, .int 0, .int 0, .int 0, .null, .int 0, .int 0])), (q1, .inl (cA2, 2000, .inl (fun _ => 0))), (q3, .inl (cA4, 5718, .inl (fun _ => 0))), (q17, .inl (cA18, 4, .inl (fun _ => 0)))] H := hP
  have hD : va_D A [(h0, .inr (12, [.ref q1, .ref q3, .ref q5, .int 0, .int 0, .int 0, .int 0, .int 0, .ref q7, .ref q9, .ref q11, .ref q13, .ref q15, .int 0, .int 0, .ref q17, .null, .null, .null, .null, .null, .null, .null, .int 0, .int 0, .null, .null, .null, .null, .null, .int 0, .null, .int 0, .int 0, .int 0, .int 0, .null, .int 0, .int 0])), (q1, .inl (cA2, 2000, .inl (fun _ => 0))), (q3, .inl (cA4, 5718, .inl (fun _ => 0))), (q17, .inl (cA18, 4, .inl (fun _ => 0)))] := hD
  have hP := hP.sub (ws' := [(h0, .inr (12, [.ref q1, .ref q3, .ref q5, .int 0, .int 0, .int 0, .int 0, .int 0, .ref q7, .ref q9, .ref q11, .ref q13, .ref q15, .int 0, .int 0, .ref q17, .null, .null, .null, .null, .null, .null, .null, .int 0, .int 0, .null, .null, .null, .null, .null, .int 0, .null, .int 0, .int 0, .int 0, .int 0, .null, .int 0, .int 0])), (q1, .inl (cA2, 2000, .inl (fun _ => 0))), (q3, .inl (cA4, 5718, .inl (fun _ => 0)))]) [0, 1, 2] rfl
  have hD := hD.sub (ws' := [(h0, .inr (12, [.ref q1, .ref q3, .ref q5, .int 0, .int 0, .int 0, .int 0, .int 0, .ref q7, .ref q9, .ref q11, .ref q13, .ref q15, .int 0, .int 0, .ref q17, .null, .null, .null, .null, .null, .null, .null, .int 0, .int 0, .null, .null, .null, .null, .null, .int 0, .null, .int 0, .int 0, .int 0, .int 0, .null, .int 0, .int 0])), (q1, .inl (cA2, 2000, .inl (fun _ => 0))), (q3, .inl (cA4, 5718, .inl (fun _ => 0)))]) [0, 1, 2] (by decide) rfl
  refine lv_aload_n hx hb d_Mo_init_78 rfl (lv_at hl 0 rfl) ?_
  refine lv_iconst (v := 4) hx hb d_Mo_init_79 (by decide) ?_
  refine va_newa (atype := .int) (ty := .int) (N' := 4) (a0 := (4, .inl (fun _ => 0))) hx hb (ux_T_at hT tw_67 rfl) rfl hK hP hD hS hA (fun _ => rfl) (by decide) (by decide +kernel) (by decide +kernel) (Nat.le_of_ble_eq_true rfl) (Nat.le_of_ble_eq_true rfl) d_Mo_init_80 (fun q19 cA20 H hK hP hD hS => ?_)
  have hP : va_P (dC, dI) cls [(h0, .inr (12, [.ref q1, .ref q3, .ref q5, .int 0, .int 0, .int 0, .int 0, .int 0, .ref q7, .ref q9, .ref q11, .ref q13, .ref q15, .int 0, .int 0, .ref q17, .null, .null, .null, .null, .null, .null, .null, .int 0, .int 0, .null, .null, .null, .null, .null, .int 0, .null, .int 0, .int 0, .int 0, .int 0, .null, .int 0, .int 0])), (q1, .inl (cA2, 2000, .inl (fun _ => 0))), (q3, .inl (cA4, 5718, .inl (fun _ => 0))), (q19, .inl (cA20, 4, .inl (fun _ => 0)))] H := hP
  have hD : va_D A [(h0, .inr (12, [.ref q1, .ref q3, .ref q5, .int 0, .int 0, .int 0, .int 0, .int 0, .ref q7, .ref q9, .ref q11, .ref q13, .ref q15, .int 0, .int 0, .ref q17, .null, .null, .null, .null, .null, .null, .null, .int 0, .int 0, .null, .null, .null, .null, .null, .int 0, .null, .int 0, .int 0, .int 0, .int 0, .null, .int 0, .int 0])), (q1, .inl (cA2, 2000, .inl (fun _ => 0))), (q3, .inl (cA4, 5718, .inl (fun _ => 0))), (q19, .inl (cA20, 4, .inl (fun _ => 0)))] := hD
  have hK : va_K (dC, dI) cls [(cA2, .byte), (cA4, .byte), (cA6, .byte), (cA8, .byte), (cA10, .int), (cA12, .int), (cA14, .int), (cA16, .long), (cA18, .int), (cA20, .int)] s := hK
  refine va_putF (D := (dC, dI)) (ci := 12) (v := .ref q19) (ty := .array .int) (C := R_Mo) (T := F_Mo) (N := 39) hx hb (u_Mo hT) (fun _ h => h) t_Mo k_Mo n_Mo hown hK hP hD hS 0 rfl rfl 16 (by decide) (ux_T_at hT tw_1610 rfl) (fun _ h9 => h9) rfl hin rfl (by decide +kernel) rfl rfl (Nat.le_of_ble_eq_true rfl) d_Mo_init_82 (fun H locs hP hD hS => ?_)
  have hP : va_P (dC, dI) cls [(h0, .inr (12, [.ref q1, .ref q3, .ref q5, .int 0, .int 0, .int 0, .int 0, .int 0, .ref q7, .ref q9, .ref q11, .ref q13, .ref q15, .int 0, .int 0, .ref q17, .ref q19, .null, .null, .null, .null, .null, .null, .int 0, .int 0, .null, .null, .null, .null, .null, .int 0, .null, .int 0, .int 0, .int 0, .int 0, .null, .int 0, .int 0])), (q1, .inl (cA2, 2000, .inl (fun _ => 0))), (q3, .inl (cA4, 5718, .inl (fun _ => 0))), (q19, .inl (cA20, 4, .inl (fun _ => 0)))] H := hP
  have hD : va_D A [(h0, .inr (12, [.ref q1, .ref q3, .ref q5, .int 0, .int 0, .int 0, .int 0, .int 0, .ref q7, .ref q9, .ref q11, .ref q13, .ref q15, .int 0, .int 0, .ref q17, .ref q19, .null, .null, .null, .null, .null, .null, .int 0, .int 0, .null, .null, .null, .null, .null, .int 0, .null, .int 0, .int 0, .int 0, .int 0, .null, .int 0, .int 0])), (q1, .inl (cA2, 2000, .inl (fun _ => 0))), (q3, .inl (cA4, 5718, .inl (fun _ => 0))), (q19, .inl (cA20, 4, .inl (fun _ => 0)))] := hD
  have hP := hP.sub (ws' := [(h0, .inr (12, [.ref q1, .ref q3, .ref q5, .int 0, .int 0, .int 0, .int 0, .int 0, .ref q7, .ref q9, .ref q11, .ref q13, .ref q15, .int 0, .int 0, .ref q17, .ref q19, .null, .null, .null, .null, .null, .null, .int 0, .int 0, .null, .null, .null, .null, .null, .int 0, .null, .int 0, .int 0, .int 0, .int 0, .null, .int 0, .int 0])), (q1, .inl (cA2, 2000, .inl (fun _ => 0))), (q3, .inl (cA4, 5718, .inl (fun _ => 0)))]) [0, 1, 2] rfl
  have hD := hD.sub (ws' := [(h0, .inr (12, [.ref q1, .ref q3, .ref q5, .int 0, .int 0, .int 0, .int 0, .int 0, .ref q7, .ref q9, .ref q11, .ref q13, .ref q15, .int 0, .int 0, .ref q17, .ref q19, .null, .null, .null, .null, .null, .null, .int 0, .int 0, .null, .null, .null, .null, .null, .int 0, .null, .int 0, .int 0, .int 0, .int 0, .null, .int 0, .int 0])), (q1, .inl (cA2, 2000, .inl (fun _ => 0))), (q3, .inl (cA4, 5718, .inl (fun _ => 0)))]) [0, 1, 2] (by decide) rfl
  refine lv_aload_n hx hb d_Mo_init_85 rfl (lv_at hl 0 rfl) ?_
  refine lv_iconst (v := 4) hx hb d_Mo_init_86 (by decide) ?_
  refine va_newa (atype := .int) (ty := .int) (N' := 4) (a0 := (4, .inl (fun _ => 0))) hx hb (ux_T_at hT tw_67 rfl) rfl hK hP hD hS hA (fun _ => rfl) (by decide) (by decide +kernel) (by decide +kernel) (Nat.le_of_ble_eq_true rfl) (Nat.le_of_ble_eq_true rfl) d_Mo_init_87 (fun q21 cA22 H hK hP hD hS => ?_)
  have hP : va_P (dC, dI) cls [(h0, .inr (12, [.ref q1, .ref q3, .ref q5, .int 0, .int 0, .int 0, .int 0, .int 0, .ref q7, .ref q9, .ref q11, .ref q13, .ref q15, .int 0, .int 0, .ref q17, .ref q19, .null, .null, .null, .null, .null, .null, .int 0, .int 0, .null, .null, .null, .null, .null, .int 0, .null, .int 0, .int 0, .int 0, .int 0, .null, .int 0, .int 0])), (q1, .inl (cA2, 2000, .inl (fun _ => 0))), (q3, .inl (cA4, 5718, .inl (fun _ => 0))), (q21, .inl (cA22, 4, .inl (fun _ => 0)))] H := hP
  have hD : va_D A [(h0, .inr (12, [.ref q1, .ref q3, .ref q5, .int 0, .int 0, .int 0, .int 0, .int 0, .ref q7, .ref q9, .ref q11, .ref q13, .ref q15, .int 0, .int 0, .ref q17, .ref q19, .null, .null, .null, .null, .null, .null, .int 0, .int 0, .null, .null, .null, .null, .null, .int 0, .null, .int 0, .int 0, .int 0, .int 0, .null, .int 0, .int 0])), (q1, .inl (cA2, 2000, .inl (fun _ => 0))), (q3, .inl (cA4, 5718, .inl (fun _ => 0))), (q21, .inl (cA22, 4, .inl (fun _ => 0)))] := hD
  have hK : va_K (dC, dI) cls [(cA2, .byte), (cA4, .byte), (cA6, .byte), (cA8, .byte), (cA10, .int), (cA12, .int), (cA14, .int), (cA16, .long), (cA18, .int), (cA20, .int), (cA22, .int)] s := hK
  refine va_putF (D := (dC, dI)) (ci := 12) (v := .ref q21) (ty := .array .int) (C := R_Mo) (T := F_Mo) (N := 39) hx hb (u_Mo hT) (fun _ h => h) t_Mo k_Mo n_Mo hown hK hP hD hS 0 rfl rfl 17 (by decide) (ux_T_at hT tw_1611 rfl) (fun _ h9 => h9) rfl hin rfl (by decide +kernel) rfl rfl (Nat.le_of_ble_eq_true rfl) d_Mo_init_89 (fun H locs hP hD hS => ?_)
  have hP : va_P (dC, dI) cls [(h0, .inr (12, [.ref q1, .ref q3, .ref q5, .int 0, .int 0, .int 0, .int 0, .int 0, .ref q7, .ref q9, .ref q11, .ref q13, .ref q15, .int 0, .int 0, .ref q17, .ref q19, .ref q21, .null, .null, .null, .null, .null, .int 0, .int 0, .null, .null, .null, .null, .null, .int 0, .null, .int 0, .int 0, .int 0, .int 0, .null, .int 0, .int 0])), (q1, .inl (cA2, 2000, .inl (fun _ => 0))), (q3, .inl (cA4, 5718, .inl (fun _ => 0))), (q21, .inl (cA22, 4, .inl (fun _ => 0)))] H := hP
  have hD : va_D A [(h0, .inr (12, [.ref q1, .ref q3, .ref q5, .int 0, .int 0, .int 0, .int 0, .int 0, .ref q7, .ref q9, .ref q11, .ref q13, .ref q15, .int 0, .int 0, .ref q17, .ref q19, .ref q21, .null, .null, .null, .null, .null, .int 0, .int 0, .null, .null, .null, .null, .null, .int 0, .null, .int 0, .int 0, .int 0, .int 0, .null, .int 0, .int 0])), (q1, .inl (cA2, 2000, .inl (fun _ => 0))), (q3, .inl (cA4, 5718, .inl (fun _ => 0))), (q21, .inl (cA22, 4, .inl (fun _ => 0)))] := hD
  have hP := hP.sub (ws' := [(h0, .inr (12, [.ref q1, .ref q3, .ref q5, .int 0, .int 0, .int 0, .int 0, .int 0, .ref q7, .ref q9, .ref q11, .ref q13, .ref q15, .int 0, .int 0, .ref q17, .ref q19, .ref q21, .null, .null, .null, .null, .null, .int 0, .int 0, .null, .null, .null, .null, .null, .int 0, .null, .int 0, .int 0, .int 0, .int 0, .null, .int 0, .int 0])), (q1, .inl (cA2, 2000, .inl (fun _ => 0))), (q3, .inl (cA4, 5718, .inl (fun _ => 0)))]) [0, 1, 2] rfl
  have hD := hD.sub (ws' := [(h0, .inr (12, [.ref q1, .ref q3, .ref q5, .int 0, .int 0, .int 0, .int 0, .int 0, .ref q7, .ref q9, .ref q11, .ref q13, .ref q15, .int 0, .int 0, .ref q17, .ref q19, .ref q21, .null, .null, .null, .null, .null, .int 0, .int 0, .null, .null, .null, .null, .null, .int 0, .null, .int 0, .int 0, .int 0, .int 0, .null, .int 0, .int 0])), (q1, .inl (cA2, 2000, .inl (fun _ => 0))), (q3, .inl (cA4, 5718, .inl (fun _ => 0)))]) [0, 1, 2] (by decide) rfl
  refine lv_aload_n hx hb d_Mo_init_92 rfl (lv_at hl 0 rfl) ?_
  refine lv_iconst (v := 4) hx hb d_Mo_init_93 (by decide) ?_
  refine va_newa (atype := .int) (ty := .int) (N' := 4) (a0 := (4, .inl (fun _ => 0))) hx hb (ux_T_at hT tw_67 rfl) rfl hK hP hD hS hA (fun _ => rfl) (by decide) (by decide +kernel) (by decide +kernel) (Nat.le_of_ble_eq_true rfl) (Nat.le_of_ble_eq_true rfl) d_Mo_init_94 (fun q23 cA24 H hK hP hD hS => ?_)
  have hP : va_P (dC, dI) cls [(h0, .inr (12, [.ref q1, .ref q3, .ref q5, .int 0, .int 0, .int 0, .int 0, .int 0, .ref q7, .ref q9, .ref q11, .ref q13, .ref q15, .int 0, .int 0, .ref q17, .ref q19, .ref q21, .null, .null, .null, .null, .null, .int 0, .int 0, .null, .null, .null, .null, .null, .int 0, .null, .int 0, .int 0, .int 0, .int 0, .null, .int 0, .int 0])), (q1, .inl (cA2, 2000, .inl (fun _ => 0))), (q3, .inl (cA4, 5718, .inl (fun _ => 0))), (q23, .inl (cA24, 4, .inl (fun _ => 0)))] H := hP
  have hD : va_D A [(h0, .inr (12, [.ref q1, .ref q3, .ref q5, .int 0, .int 0, .int 0, .int 0, .int 0, .ref q7, .ref q9, .ref q11, .ref q13, .ref q15, .int 0, .int 0, .ref q17, .ref q19, .ref q21, .null, .null, .null, .null, .null, .int 0, .int 0, .null, .null, .null, .null, .null, .int 0, .null, .int 0, .int 0, .int 0, .int 0, .null, .int 0, .int 0])), (q1, .inl (cA2, 2000, .inl (fun _ => 0))), (q3, .inl (cA4, 5718, .inl (fun _ => 0))), (q23, .inl (cA24, 4, .inl (fun _ => 0)))] := hD
  have hK : va_K (dC, dI) cls [(cA2, .byte), (cA4, .byte), (cA6, .byte), (cA8, .byte), (cA10, .int), (cA12, .int), (cA14, .int), (cA16, .long), (cA18, .int), (cA20, .int), (cA22, .int), (cA24, .int)] s := hK
  refine va_putF (D := (dC, dI)) (ci := 12) (v := .ref q23) (ty := .array .int) (C := R_Mo) (T := F_Mo) (N := 39) hx hb (u_Mo hT) (fun _ h => h) t_Mo k_Mo n_Mo hown hK hP hD hS 0 rfl rfl 18 (by decide) (ux_T_at hT tw_1612 rfl) (fun _ h9 => h9) rfl hin rfl (by decide +kernel) rfl rfl (Nat.le_of_ble_eq_true rfl) d_Mo_init_96 (fun H locs hP hD hS => ?_)
  have hP : va_P (dC, dI) cls [(h0, .inr (12, [.ref q1, .ref q3, .ref q5, .int 0, .int 0, .int 0, .int 0, .int 0, .ref q7, .ref q9, .ref q11, .ref q13, .ref q15, .int 0, .int 0, .ref q17, .ref q19, .ref q21, .ref q23, .null, .null, .null, .null, .int 0, .int 0, .null, .null, .null, .null, .null, .int 0, .null, .int 0, .int 0, .int 0, .int 0, .null, .int 0, .int 0])), (q1, .inl (cA2, 2000, .inl (fun _ => 0))), (q3, .inl (cA4, 5718, .inl (fun _ => 0))), (q23, .inl (cA24, 4, .inl (fun _ => 0)))] H := hP
  have hD : va_D A [(h0, .inr (12, [.ref q1, .ref q3, .ref q5, .int 0, .int 0, .int 0, .int 0, .int 0, .ref q7, .ref q9, .ref q11, .ref q13, .ref q15, .int 0, .int 0, .ref q17, .ref q19, .ref q21, .ref q23, .null, .null, .null, .null, .int 0, .int 0, .null, .null, .null, .null, .null, .int 0, .null, .int 0, .int 0, .int 0, .int 0, .null, .int 0, .int 0])), (q1, .inl (cA2, 2000, .inl (fun _ => 0))), (q3, .inl (cA4, 5718, .inl (fun _ => 0))), (q23, .inl (cA24, 4, .inl (fun _ => 0)))] := hD
  have hP := hP.sub (ws' := [(h0, .inr (12, [.ref q1, .ref q3, .ref q5, .int 0, .int 0, .int 0, .int 0, .int 0, .ref q7, .ref q9, .ref q11, .ref q13, .ref q15, .int 0, .int 0, .ref q17, .ref q19, .ref q21, .ref q23, .null, .null, .null, .null, .int 0, .int 0, .null, .null, .null, .null, .null, .int 0, .null, .int 0, .int 0, .int 0, .int 0, .null, .int 0, .int 0])), (q1, .inl (cA2, 2000, .inl (fun _ => 0))), (q3, .inl (cA4, 5718, .inl (fun _ => 0)))]) [0, 1, 2] rfl
  have hD := hD.sub (ws' := [(h0, .inr (12, [.ref q1, .ref q3, .ref q5, .int 0, .int 0, .int 0, .int 0, .int 0, .ref q7, .ref q9, .ref q11, .ref q13, .ref q15, .int 0, .int 0, .ref q17, .ref q19, .ref q21, .ref q23, .null, .null, .null, .null, .int 0, .int 0, .null, .null, .null, .null, .null, .int 0, .null, .int 0, .int 0, .int 0, .int 0, .null, .int 0, .int 0])), (q1, .inl (cA2, 2000, .inl (fun _ => 0))), (q3, .inl (cA4, 5718, .inl (fun _ => 0)))]) [0, 1, 2] (by decide) rfl
  refine lv_aload_n hx hb d_Mo_init_99 rfl (lv_at hl 0 rfl) ?_
  refine lv_iconst (v := 4) hx hb d_Mo_init_100 (by decide) ?_
  refine va_newa (atype := .int) (ty := .int) (N' := 4) (a0 := (4, .inl (fun _ => 0))) hx hb (ux_T_at hT tw_67 rfl) rfl hK hP hD hS hA (fun _ => rfl) (by decide) (by decide +kernel) (by decide +kernel) (Nat.le_of_ble_eq_true rfl) (Nat.le_of_ble_eq_true rfl) d_Mo_init_101 (fun q25 cA26 H hK hP hD hS => ?_)
  have hP : va_P (dC, dI) cls [(h0, .inr (12, [.ref q1, .ref q3, .ref q5, .int 0, .int 0, .int 0, .int 0, .int 0, .ref q7, .ref q9, .ref q11, .ref q13, .ref q15, .int 0, .int 0, .ref q17, .ref q19, .ref q21, .ref q23, .null, .null, .null, .null, .int 0, .int 0, .null, .null, .null, .null, .null, .int 0, .null, .int 0, .int 0, .int 0, .int 0, .null, .int 0, .int 0])), (q1, .inl (cA2, 2000, .inl (fun _ => 0))), (q3, .inl (cA4, 5718, .inl (fun _ => 0))), (q25, .inl (cA26, 4, .inl (fun _ => 0)))] H := hP
  have hD : va_D A [(h0, .inr (12, [.ref q1, .ref q3, .ref q5, .int 0, .int 0, .int 0, .int 0, .int 0, .ref q7, .ref q9, .ref q11, .ref q13, .ref q15, .int 0, .int 0, .ref q17, .ref q19, .ref q21, .ref q23, .null, .null, .null, .null, .int 0, .int 0, .null, .null, .null, .null, .null, .int 0, .null, .int 0, .int 0, .int 0, .int 0, .null, .int 0, .int 0])), (q1, .inl (cA2, 2000, .inl (fun _ => 0))), (q3, .inl (cA4, 5718, .inl (fun _ => 0))), (q25, .inl (cA26, 4, .inl (fun _ => 0)))] := hD
  have hK : va_K (dC, dI) cls [(cA2, .byte), (cA4, .byte), (cA6, .byte), (cA8, .byte), (cA10, .int), (cA12, .int), (cA14, .int), (cA16, .long), (cA18, .int), (cA20, .int), (cA22, .int), (cA24, .int), (cA26, .int)] s := hK
  refine va_putF (D := (dC, dI)) (ci := 12) (v := .ref q25) (ty := .array .int) (C := R_Mo) (T := F_Mo) (N := 39) hx hb (u_Mo hT) (fun _ h => h) t_Mo k_Mo n_Mo hown hK hP hD hS 0 rfl rfl 19 (by decide) (ux_T_at hT tw_1613 rfl) (fun _ h9 => h9) rfl hin rfl (by decide +kernel) rfl rfl (Nat.le_of_ble_eq_true rfl) d_Mo_init_103 (fun H locs hP hD hS => ?_)
  have hP : va_P (dC, dI) cls [(h0, .inr (12, [.ref q1, .ref q3, .ref q5, .int 0, .int 0, .int 0, .int 0, .int 0, .ref q7, .ref q9, .ref q11, .ref q13, .ref q15, .int 0, .int 0, .ref q17, .ref q19, .ref q21, .ref q23, .ref q25, .null, .null, .null, .int 0, .int 0, .null, .null, .null, .null, .null, .int 0, .null, .int 0, .int 0, .int 0, .int 0, .null, .int 0, .int 0])), (q1, .inl (cA2, 2000, .inl (fun _ => 0))), (q3, .inl (cA4, 5718, .inl (fun _ => 0))), (q25, .inl (cA26, 4, .inl (fun _ => 0)))] H := hP
  have hD : va_D A [(h0, .inr (12, [.ref q1, .ref q3, .ref q5, .int 0, .int 0, .int 0, .int 0, .int 0, .ref q7, .ref q9, .ref q11, .ref q13, .ref q15, .int 0, .int 0, .ref q17, .ref q19, .ref q21, .ref q23, .ref q25, .null, .null, .null, .int 0, .int 0, .null, .null, .null, .null, .null, .int 0, .null, .int 0, .int 0, .int 0, .int 0, .null, .int 0, .int 0])), (q1, .inl (cA2, 2000, .inl (fun _ => 0))), (q3, .inl (cA4, 5718, .inl (fun _ => 0))), (q25, .inl (cA26, 4, .inl (fun _ => 0)))] := hD
  have hP := hP.sub (ws' := [(h0, .inr (12, [.ref q1, .ref q3, .ref q5, .int 0, .int 0, .int 0, .int 0, .int 0, .ref q7, .ref q9, .ref q11, .ref q13, .ref q15, .int 0, .int 0, .ref q17, .ref q19, .ref q21, .ref q23, .ref q25, .null, .null, .null, .int 0, .int 0, .null, .null, .null, .null, .null, .int 0, .null, .int 0, .int 0, .int 0, .int 0, .null, .int 0, .int 0])), (q1, .inl (cA2, 2000, .inl (fun _ => 0))), (q3, .inl (cA4, 5718, .inl (fun _ => 0)))]) [0, 1, 2] rfl
  have hD := hD.sub (ws' := [(h0, .inr (12, [.ref q1, .ref q3, .ref q5, .int 0, .int 0, .int 0, .int 0, .int 0, .ref q7, .ref q9, .ref q11, .ref q13, .ref q15, .int 0, .int 0, .ref q17, .ref q19, .ref q21, .ref q23, .ref q25, .null, .null, .null, .int 0, .int 0, .null, .null, .null, .null, .null, .int 0, .null, .int 0, .int 0, .int 0, .int 0, .null, .int 0, .int 0])), (q1, .inl (cA2, 2000, .inl (fun _ => 0))), (q3, .inl (cA4, 5718, .inl (fun _ => 0)))]) [0, 1, 2] (by decide) rfl
  refine lv_aload_n hx hb d_Mo_init_106 rfl (lv_at hl 0 rfl) ?_
  refine lv_iconst (v := 4) hx hb d_Mo_init_107 (by decide) ?_
  refine va_newa (atype := .int) (ty := .int) (N' := 4) (a0 := (4, .inl (fun _ => 0))) hx hb (ux_T_at hT tw_67 rfl) rfl hK hP hD hS hA (fun _ => rfl) (by decide) (by decide +kernel) (by decide +kernel) (Nat.le_of_ble_eq_true rfl) (Nat.le_of_ble_eq_true rfl) d_Mo_init_108 (fun q27 cA28 H hK hP hD hS => ?_)
  have hP : va_P (dC, dI) cls [(h0, .inr (12, [.ref q1, .ref q3, .ref q5, .int 0, .int 0, .int 0, .int 0, .int 0, .ref q7, .ref q9, .ref q11, .ref q13, .ref q15, .int 0, .int 0, .ref q17, .ref q19, .ref q21, .ref q23, .ref q25, .null, .null, .null, .int 0, .int 0, .null, .null, .null, .null, .null, .int 0, .null, .int 0, .int 0, .int 0, .int 0, .null, .int 0, .int 0])), (q1, .inl (cA2, 2000, .inl (fun _ => 0))), (q3, .inl (cA4, 5718, .inl (fun _ => 0))), (q27, .inl (cA28, 4, .inl (fun _ => 0)))] H := hP
  have hD : va_D A [(h0, .inr (12, [.ref q1, .ref q3, .ref q5, .int 0, .int 0, .int 0, .int 0, .int 0, .ref q7, .ref q9, .ref q11, .ref q13, .ref q15, .int 0, .int 0, .ref q17, .ref q19, .ref q21, .ref q23, .ref q25, .null, .null, .null, .int 0, .int 0, .null, .null, .null, .null, .null, .int 0, .null, .int 0, .int 0, .int 0, .int 0, .null, .int 0, .int 0])), (q1, .inl (cA2, 2000, .inl (fun _ => 0))), (q3, .inl (cA4, 5718, .inl (fun _ => 0))), (q27, .inl (cA28, 4, .inl (fun _ => 0)))] := hD
  have hK : va_K (dC, dI) cls [(cA2, .byte), (cA4, .byte), (cA6, .byte), (cA8, .byte), (cA10, .int), (cA12, .int), (cA14, .int), (cA16, .long), (cA18, .int), (cA20, .int), (cA22, .int), (cA24, .int), (cA26, .int), (cA28, .int)] s := hK
  refine va_putF (D := (dC, dI)) (ci := 12) (v := .ref q27) (ty := .array .int) (C := R_Mo) (T := F_Mo) (N := 39) hx hb (u_Mo hT) (fun _ h => h) t_Mo k_Mo n_Mo hown hK hP hD hS 0 rfl rfl 20 (by decide) (ux_T_at hT tw_1614 rfl) (fun _ h9 => h9) rfl hin rfl (by decide +kernel) rfl rfl (Nat.le_of_ble_eq_true rfl) d_Mo_init_110 (fun H locs hP hD hS => ?_)
  have hP : va_P (dC, dI) cls [(h0, .inr (12, [.ref q1, .ref q3, .ref q5, .int 0, .int 0, .int 0, .int 0, .int 0, .ref q7, .ref q9, .ref q11, .ref q13, .ref q15, .int 0, .int 0, .ref q17, .ref q19, .ref q21, .ref q23, .ref q25, .ref q27, .null, .null, .int 0, .int 0, .null, .null, .null, .null, .null, .int 0, .null, .int 0, .int 0, .int 0, .int 0, .null, .int 0, .int 0])), (q1, .inl (cA2, 2000, .inl (fun _ => 0))), (q3, .inl (cA4, 5718, .inl (fun _ => 0))), (q27, .inl (cA28, 4, .inl (fun _ => 0)))] H := hP
  have hD : va_D A [(h0, .inr (12, [.ref q1, .ref q3, .ref q5, .int 0, .int 0, .int 0, .int 0, .int 0, .ref q7, .ref q9, .ref q11, .ref q13, .ref q15, .int 0, .int 0, .ref q17, .ref q19, .ref q21, .ref q23, .ref q25, .ref q27, .null, .null, .int 0, .int 0, .null, .null, .null, .null, .null, .int 0, .null, .int 0, .int 0, .int 0, .int 0, .null, .int 0, .int 0])), (q1, .inl (cA2, 2000, .inl (fun _ => 0))), (q3, .inl (cA4, 5718, .inl (fun _ => 0))), (q27, .inl (cA28, 4, .inl (fun _ => 0)))] := hD
  have hP := hP.sub (ws' := [(h0, .inr (12, [.ref q1, .ref q3, .ref q5, .int 0, .int 0, .int 0, .int 0, .int 0, .ref q7, .ref q9, .ref q11, .ref q13, .ref q15, .int 0, .int 0, .ref q17, .ref q19, .ref q21, .ref q23, .ref q25, .ref q27, .null, .null, .int 0, .int 0, .null, .null, .null, .null, .null, .int 0, .null, .int 0, .int 0, .int 0, .int 0, .null, .int 0, .int 0])), (q1, .inl (cA2, 2000, .inl (fun _ => 0))), (q3, .inl (cA4, 5718, .inl (fun _ => 0)))]) [0, 1, 2] rfl
  have hD := hD.sub (ws' := [(h0, .inr (12, [.ref q1, .ref q3, .ref q5, .int 0, .int 0, .int 0, .int 0, .int 0, .ref q7, .ref q9, .ref q11, .ref q13, .ref q15, .int 0, .int 0, .ref q17, .ref q19, .ref q21, .ref q23, .ref q25, .ref q27, .null, .null, .int 0, .int 0, .null, .null, .null, .null, .null, .int 0, .null, .int 0, .int 0, .int 0, .int 0, .null, .int 0, .int 0])), (q1, .inl (cA2, 2000, .inl (fun _ => 0))), (q3, .inl (cA4, 5718, .inl (fun _ => 0)))]) [0, 1, 2] (by decide) rfl
  refine lv_aload_n hx hb d_Mo_init_113 rfl (lv_at hl 0 rfl) ?_
  refine lv_sipush (v := 16384) hx hb d_Mo_init_114 (by decide) ?_
  refine va_newa (atype := .byte) (ty := .byte) (N' := 16384) (a0 := (16384, .inl (fun _ => 0))) hx hb (ux_T_at hT tw_66 rfl) rfl hK hP hD hS hA (fun _ => rfl) (by decide) (by decide +kernel) (by decide +kernel) (Nat.le_of_ble_eq_true rfl) (Nat.le_of_ble_eq_true rfl) d_Mo_init_117 (fun q29 cA30 H hK hP hD hS => ?_)
  have hP : va_P (dC, dI) cls [(h0, .inr (12, [.ref q1, .ref q3, .ref q5, .int 0, .int 0, .int 0, .int 0, .int 0, .ref q7, .ref q9, .ref q11, .ref q13, .ref q15, .int 0, .int 0, .ref q17, .ref q19, .ref q21, .ref q23, .ref q25, .ref q27, .null, .null, .int 0, .int 0, .null, .null, .null, .null, .null, .int 0, .null, .int 0, .int 0, .int 0, .int 0, .null, .int 0, .int 0])), (q1, .inl (cA2, 2000, .inl (fun _ => 0))), (q3, .inl (cA4, 5718, .inl (fun _ => 0))), (q29, .inl (cA30, 16384, .inl (fun _ => 0)))] H := hP
  have hD : va_D A [(h0, .inr (12, [.ref q1, .ref q3, .ref q5, .int 0, .int 0, .int 0, .int 0, .int 0, .ref q7, .ref q9, .ref q11, .ref q13, .ref q15, .int 0, .int 0, .ref q17, .ref q19, .ref q21, .ref q23, .ref q25, .ref q27, .null, .null, .int 0, .int 0, .null, .null, .null, .null, .null, .int 0, .null, .int 0, .int 0, .int 0, .int 0, .null, .int 0, .int 0])), (q1, .inl (cA2, 2000, .inl (fun _ => 0))), (q3, .inl (cA4, 5718, .inl (fun _ => 0))), (q29, .inl (cA30, 16384, .inl (fun _ => 0)))] := hD
  have hK : va_K (dC, dI) cls [(cA2, .byte), (cA4, .byte), (cA6, .byte), (cA8, .byte), (cA10, .int), (cA12, .int), (cA14, .int), (cA16, .long), (cA18, .int), (cA20, .int), (cA22, .int), (cA24, .int), (cA26, .int), (cA28, .int), (cA30, .byte)] s := hK
  refine va_putF (D := (dC, dI)) (ci := 12) (v := .ref q29) (ty := .array .byte) (C := R_Mo) (T := F_Mo) (N := 39) hx hb (u_Mo hT) (fun _ h => h) t_Mo k_Mo n_Mo hown hK hP hD hS 0 rfl rfl 21 (by decide) (ux_T_at hT tw_1615 rfl) (fun _ h9 => h9) rfl hin rfl (by decide +kernel) rfl rfl (Nat.le_of_ble_eq_true rfl) d_Mo_init_119 (fun H locs hP hD hS => ?_)
  have hP : va_P (dC, dI) cls [(h0, .inr (12, [.ref q1, .ref q3, .ref q5, .int 0, .int 0, .int 0, .int 0, .int 0, .ref q7, .ref q9, .ref q11, .ref q13, .ref q15, .int 0, .int 0, .ref q17, .ref q19, .ref q21, .ref q23, .ref q25, .ref q27, .ref q29, .null, .int 0, .int 0, .null, .null, .null, .null, .null, .int 0, .null, .int 0, .int 0, .int 0, .int 0, .null, .int 0, .int 0])), (q1, .inl (cA2, 2000, .inl (fun _ => 0))), (q3, .inl (cA4, 5718, .inl (fun _ => 0))), (q29, .inl (cA30, 16384, .inl (fun _ => 0)))] H := hP
  have hD : va_D A [(h0, .inr (12, [.ref q1, .ref q3, .ref q5, .int 0, .int 0, .int 0, .int 0, .int 0, .ref q7, .ref q9, .ref q11, .ref q13, .ref q15, .int 0, .int 0, .ref q17, .ref q19, .ref q21, .ref q23, .ref q25, .ref q27, .ref q29, .null, .int 0, .int 0, .null, .null, .null, .null, .null, .int 0, .null, .int 0, .int 0, .int 0, .int 0, .null, .int 0, .int 0])), (q1, .inl (cA2, 2000, .inl (fun _ => 0))), (q3, .inl (cA4, 5718, .inl (fun _ => 0))), (q29, .inl (cA30, 16384, .inl (fun _ => 0)))] := hD
  have hP := hP.sub (ws' := [(h0, .inr (12, [.ref q1, .ref q3, .ref q5, .int 0, .int 0, .int 0, .int 0, .int 0, .ref q7, .ref q9, .ref q11, .ref q13, .ref q15, .int 0, .int 0, .ref q17, .ref q19, .ref q21, .ref q23, .ref q25, .ref q27, .ref q29, .null, .int 0, .int 0, .null, .null, .null, .null, .null, .int 0, .null, .int 0, .int 0, .int 0, .int 0, .null, .int 0, .int 0])), (q1, .inl (cA2, 2000, .inl (fun _ => 0))), (q3, .inl (cA4, 5718, .inl (fun _ => 0)))]) [0, 1, 2] rfl
  have hD := hD.sub (ws' := [(h0, .inr (12, [.ref q1, .ref q3, .ref q5, .int 0, .int 0, .int 0, .int 0, .int 0, .ref q7, .ref q9, .ref q11, .ref q13, .ref q15, .int 0, .int 0, .ref q17, .ref q19, .ref q21, .ref q23, .ref q25, .ref q27, .ref q29, .null, .int 0, .int 0, .null, .null, .null, .null, .null, .int 0, .null, .int 0, .int 0, .int 0, .int 0, .null, .int 0, .int 0])), (q1, .inl (cA2, 2000, .inl (fun _ => 0))), (q3, .inl (cA4, 5718, .inl (fun _ => 0)))]) [0, 1, 2] (by decide) rfl
  refine lv_aload_n hx hb d_Mo_init_122 rfl (lv_at hl 0 rfl) ?_
  refine lv_sipush (v := 16384) hx hb d_Mo_init_123 (by decide) ?_
  refine va_newa (atype := .boolean) (ty := .boolean) (N' := 16384) (a0 := (16384, .inl (fun _ => 0))) hx hb (ux_T_at hT tw_1593 rfl) rfl hK hP hD hS hA (fun _ => rfl) (by decide) (by decide +kernel) (by decide +kernel) (Nat.le_of_ble_eq_true rfl) (Nat.le_of_ble_eq_true rfl) d_Mo_init_126 (fun q31 cA32 H hK hP hD hS => ?_)
  have hP : va_P (dC, dI) cls [(h0, .inr (12, [.ref q1, .ref q3, .ref q5, .int 0, .int 0, .int 0, .int 0, .int 0, .ref q7, .ref q9, .ref q11, .ref q13, .ref q15, .int 0, .int 0, .ref q17, .ref q19, .ref q21, .ref q23, .ref q25, .ref q27, .ref q29, .null, .int 0, .int 0, .null, .null, .null, .null, .null, .int 0, .null, .int 0, .int 0, .int 0, .int 0, .null, .int 0, .int 0])), (q1, .inl (cA2, 2000, .inl (fun _ => 0))), (q3, .inl (cA4, 5718, .inl (fun _ => 0))), (q31, .inl (cA32, 16384, .inl (fun _ => 0)))] H := hP
  have hD : va_D A [(h0, .inr (12, [.ref q1, .ref q3, .ref q5, .int 0, .int 0, .int 0, .int 0, .int 0, .ref q7, .ref q9, .ref q11, .ref q13, .ref q15, .int 0, .int 0, .ref q17, .ref q19, .ref q21, .ref q23, .ref q25, .ref q27, .ref q29, .null, .int 0, .int 0, .null, .null, .null, .null, .null, .int 0, .null, .int 0, .int 0, .int 0, .int 0, .null, .int 0, .int 0])), (q1, .inl (cA2, 2000, .inl (fun _ => 0))), (q3, .inl (cA4, 5718, .inl (fun _ => 0))), (q31, .inl (cA32, 16384, .inl (fun _ => 0)))] := hD
  have hK : va_K (dC, dI) cls [(cA2, .byte), (cA4, .byte), (cA6, .byte), (cA8, .byte), (cA10, .int), (cA12, .int), (cA14, .int), (cA16, .long), (cA18, .int), (cA20, .int), (cA22, .int), (cA24, .int), (cA26, .int), (cA28, .int), (cA30, .byte), (cA32, .boolean)] s := hK
  refine va_putF (D := (dC, dI)) (ci := 12) (v := .ref q31) (ty := .array .boolean) (C := R_Mo) (T := F_Mo) (N := 39) hx hb (u_Mo hT) (fun _ h => h) t_Mo k_Mo n_Mo hown hK hP hD hS 0 rfl rfl 22 (by decide) (ux_T_at hT tw_1616 rfl) (fun _ h9 => h9) rfl hin rfl (by decide +kernel) rfl rfl (Nat.le_of_ble_eq_true rfl) d_Mo_init_128 (fun H locs hP hD hS => ?_)
  have hP : va_P (dC, dI) cls [(h0, .inr (12, [.ref q1, .ref q3, .ref q5, .int 0, .int 0, .int 0, .int 0, .int 0, .ref q7, .ref q9, .ref q11, .ref q13, .ref q15, .int 0, .int 0, .ref q17, .ref q19, .ref q21, .ref q23, .ref q25, .ref q27, .ref q29, .ref q31, .int 0, .int 0, .null, .null, .null, .null, .null, .int 0, .null, .int 0, .int 0, .int 0, .int 0, .null, .int 0, .int 0])), (q1, .inl (cA2, 2000, .inl (fun _ => 0))), (q3, .inl (cA4, 5718, .inl (fun _ => 0))), (q31, .inl (cA32, 16384, .inl (fun _ => 0)))] H := hP
  have hD : va_D A [(h0, .inr (12, [.ref q1, .ref q3, .ref q5, .int 0, .int 0, .int 0, .int 0, .int 0, .ref q7, .ref q9, .ref q11, .ref q13, .ref q15, .int 0, .int 0, .ref q17, .ref q19, .ref q21, .ref q23, .ref q25, .ref q27, .ref q29, .ref q31, .int 0, .int 0, .null, .null, .null, .null, .null, .int 0, .null, .int 0, .int 0, .int 0, .int 0, .null, .int 0, .int 0])), (q1, .inl (cA2, 2000, .inl (fun _ => 0))), (q3, .inl (cA4, 5718, .inl (fun _ => 0))), (q31, .inl (cA32, 16384, .inl (fun _ => 0)))] := hD
  have hP := hP.sub (ws' := [(h0, .inr (12, [.ref q1, .ref q3, .ref q5, .int 0, .int 0, .int 0, .int 0, .int 0, .ref q7, .ref q9, .ref q11, .ref q13, .ref q15, .int 0, .int 0, .ref q17, .ref q19, .ref q21, .ref q23, .ref q25, .ref q27, .ref q29, .ref q31, .int 0, .int 0, .null, .null, .null, .null, .null, .int 0, .null, .int 0, .int 0, .int 0, .int 0, .null, .int 0, .int 0])), (q1, .inl (cA2, 2000, .inl (fun _ => 0))), (q3, .inl (cA4, 5718, .inl (fun _ => 0)))]) [0, 1, 2] rfl
  have hD := hD.sub (ws' := [(h0, .inr (12, [.ref q1, .ref q3, .ref q5, .int 0, .int 0, .int 0, .int 0, .int 0, .ref q7, .ref q9, .ref q11, .ref q13, .ref q15, .int 0, .int 0, .ref q17, .ref q19, .ref q21, .ref q23, .ref q25, .ref q27, .ref q29, .ref q31, .int 0, .int 0, .null, .null, .null, .null, .null, .int 0, .null, .int 0, .int 0, .int 0, .int 0, .null, .int 0, .int 0])), (q1, .inl (cA2, 2000, .inl (fun _ => 0))), (q3, .inl (cA4, 5718, .inl (fun _ => 0)))]) [0, 1, 2] (by decide) rfl
  refine lv_aload_n hx hb d_Mo_init_131 rfl (lv_at hl 0 rfl) ?_
  refine lv_sipush (v := 2048) hx hb d_Mo_init_132 (by decide) ?_
  refine va_newa (atype := .byte) (ty := .byte) (N' := 2048) (a0 := (2048, .inl (fun _ => 0))) hx hb (ux_T_at hT tw_66 rfl) rfl hK hP hD hS hA (fun _ => rfl) (by decide) (by decide +kernel) (by decide +kernel) (Nat.le_of_ble_eq_true rfl) (Nat.le_of_ble_eq_true rfl) d_Mo_init_135 (fun q33 cA34 H hK hP hD hS => ?_)
  have hP : va_P (dC, dI) cls [(h0, .inr (12, [.ref q1, .ref q3, .ref q5, .int 0, .int 0, .int 0, .int 0, .int 0, .ref q7, .ref q9, .ref q11, .ref q13, .ref q15, .int 0, .int 0, .ref q17, .ref q19, .ref q21, .ref q23, .ref q25, .ref q27, .ref q29, .ref q31, .int 0, .int 0, .null, .null, .null, .null, .null, .int 0, .null, .int 0, .int 0, .int 0, .int 0, .null, .int 0, .int 0])), (q1, .inl (cA2, 2000, .inl (fun _ => 0))), (q3, .inl (cA4, 5718, .inl (fun _ => 0))), (q33, .inl (cA34, 2048, .inl (fun _ => 0)))] H := hP
  have hD : va_D A [(h0, .inr (12, [.ref q1, .ref q3, .ref q5, .int 0, .int 0, .int 0, .int 0, .int 0, .ref q7, .ref q9, .ref q11, .ref q13, .ref q15, .int 0, .int 0, .ref q17, .ref q19, .ref q21, .ref q23, .ref q25, .ref q27, .ref q29, .ref q31, .int 0, .int 0, .null, .null, .null, .null, .null, .int 0, .null, .int 0, .int 0, .int 0, .int 0, .null, .int 0, .int 0])), (q1, .inl (cA2, 2000, .inl (fun _ => 0))), (q3, .inl (cA4, 5718, .inl (fun _ => 0))), (q33, .inl (cA34, 2048, .inl (fun _ => 0)))] := hD
  have hK : va_K (dC, dI) cls [(cA2, .byte), (cA4, .byte), (cA6, .byte), (cA8, .byte), (cA10, .int), (cA12, .int), (cA14, .int), (cA16, .long), (cA18, .int), (cA20, .int), (cA22, .int), (cA24, .int), (cA26, .int), (cA28, .int), (cA30, .byte), (cA32, .boolean), (cA34, .byte)] s := hK
  refine va_putF (D := (dC, dI)) (ci := 12) (v := .ref q33) (ty := .array .byte) (C := R_Mo) (T := F_Mo) (N := 39) hx hb (u_Mo hT) (fun _ h => h) t_Mo k_Mo n_Mo hown hK hP hD hS 0 rfl rfl 25 (by decide) (ux_T_at hT tw_1618 rfl) (fun _ h9 => h9) rfl hin rfl (by decide +kernel) rfl rfl (Nat.le_of_ble_eq_true rfl) d_Mo_init_137 (fun H locs hP hD hS => ?_)
  have hP : va_P (dC, dI) cls [(h0, .inr (12, [.ref q1, .ref q3, .ref q5, .int 0, .int 0, .int 0, .int 0, .int 0, .ref q7, .ref q9, .ref q11, .ref q13, .ref q15, .int 0, .int 0, .ref q17, .ref q19, .ref q21, .ref q23, .ref q25, .ref q27, .ref q29, .ref q31, .int 0, .int 0, .ref q33, .null, .null, .null, .null, .int 0, .null, .int 0, .int 0, .int 0, .int 0, .null, .int 0, .int 0])), (q1, .inl (cA2, 2000, .inl (fun _ => 0))), (q3, .inl (cA4, 5718, .inl (fun _ => 0))), (q33, .inl (cA34, 2048, .inl (fun _ => 0)))] H := hP
  have hD : va_D A [(h0, .inr (12, [.ref q1, .ref q3, .ref q5, .int 0, .int 0, .int 0, .int 0, .int 0, .ref q7, .ref q9, .ref q11, .ref q13, .ref q15, .int 0, .int 0, .ref q17, .ref q19, .ref q21, .ref q23, .ref q25, .ref q27, .ref q29, .ref q31, .int 0, .int 0, .ref q33, .null, .null, .null, .null, .int 0, .null, .int 0, .int 0, .int 0, .int 0, .null, .int 0, .int 0])), (q1, .inl (cA2, 2000, .inl (fun _ => 0))), (q3, .inl (cA4, 5718, .inl (fun _ => 0))), (q33, .inl (cA34, 2048, .inl (fun _ => 0)))] := hD
  have hP := hP.sub (ws' := [(h0, .inr (12, [.ref q1, .ref q3, .ref q5, .int 0, .int 0, .int 0, .int 0, .int 0, .ref q7, .ref q9, .ref q11, .ref q13, .ref q15, .int 0, .int 0, .ref q17, .ref q19, .ref q21, .ref q23, .ref q25, .ref q27, .ref q29, .ref q31, .int 0, .int 0, .ref q33, .null, .null, .null, .null, .int 0, .null, .int 0, .int 0, .int 0, .int 0, .null, .int 0, .int 0])), (q1, .inl (cA2, 2000, .inl (fun _ => 0))), (q3, .inl (cA4, 5718, .inl (fun _ => 0)))]) [0, 1, 2] rfl
  have hD := hD.sub (ws' := [(h0, .inr (12, [.ref q1, .ref q3, .ref q5, .int 0, .int 0, .int 0, .int 0, .int 0, .ref q7, .ref q9, .ref q11, .ref q13, .ref q15, .int 0, .int 0, .ref q17, .ref q19, .ref q21, .ref q23, .ref q25, .ref q27, .ref q29, .ref q31, .int 0, .int 0, .ref q33, .null, .null, .null, .null, .int 0, .null, .int 0, .int 0, .int 0, .int 0, .null, .int 0, .int 0])), (q1, .inl (cA2, 2000, .inl (fun _ => 0))), (q3, .inl (cA4, 5718, .inl (fun _ => 0)))]) [0, 1, 2] (by decide) rfl
  refine lv_aload_n hx hb d_Mo_init_140 rfl (lv_at hl 0 rfl) ?_
  refine lv_ldc (own := "UnikernelHttpModel") (v := 48000) hx hb hown (ux_T_at hT tw_1485 rfl) d_Mo_init_141 ?_
  refine va_newa (atype := .byte) (ty := .byte) (N' := 48000) (a0 := (48000, .inl (fun _ => 0))) hx hb (ux_T_at hT tw_66 rfl) rfl hK hP hD hS hA (fun _ => rfl) (by decide) (by decide +kernel) (by decide +kernel) (Nat.le_of_ble_eq_true rfl) (Nat.le_of_ble_eq_true rfl) d_Mo_init_143 (fun q35 cA36 H hK hP hD hS => ?_)
  have hP : va_P (dC, dI) cls [(h0, .inr (12, [.ref q1, .ref q3, .ref q5, .int 0, .int 0, .int 0, .int 0, .int 0, .ref q7, .ref q9, .ref q11, .ref q13, .ref q15, .int 0, .int 0, .ref q17, .ref q19, .ref q21, .ref q23, .ref q25, .ref q27, .ref q29, .ref q31, .int 0, .int 0, .ref q33, .null, .null, .null, .null, .int 0, .null, .int 0, .int 0, .int 0, .int 0, .null, .int 0, .int 0])), (q1, .inl (cA2, 2000, .inl (fun _ => 0))), (q3, .inl (cA4, 5718, .inl (fun _ => 0))), (q35, .inl (cA36, 48000, .inl (fun _ => 0)))] H := hP
  have hD : va_D A [(h0, .inr (12, [.ref q1, .ref q3, .ref q5, .int 0, .int 0, .int 0, .int 0, .int 0, .ref q7, .ref q9, .ref q11, .ref q13, .ref q15, .int 0, .int 0, .ref q17, .ref q19, .ref q21, .ref q23, .ref q25, .ref q27, .ref q29, .ref q31, .int 0, .int 0, .ref q33, .null, .null, .null, .null, .int 0, .null, .int 0, .int 0, .int 0, .int 0, .null, .int 0, .int 0])), (q1, .inl (cA2, 2000, .inl (fun _ => 0))), (q3, .inl (cA4, 5718, .inl (fun _ => 0))), (q35, .inl (cA36, 48000, .inl (fun _ => 0)))] := hD
  have hK : va_K (dC, dI) cls [(cA2, .byte), (cA4, .byte), (cA6, .byte), (cA8, .byte), (cA10, .int), (cA12, .int), (cA14, .int), (cA16, .long), (cA18, .int), (cA20, .int), (cA22, .int), (cA24, .int), (cA26, .int), (cA28, .int), (cA30, .byte), (cA32, .boolean), (cA34, .byte), (cA36, .byte)] s := hK
  refine va_putF (D := (dC, dI)) (ci := 12) (v := .ref q35) (ty := .array .byte) (C := R_Mo) (T := F_Mo) (N := 39) hx hb (u_Mo hT) (fun _ h => h) t_Mo k_Mo n_Mo hown hK hP hD hS 0 rfl rfl 26 (by decide) (ux_T_at hT tw_1619 rfl) (fun _ h9 => h9) rfl hin rfl (by decide +kernel) rfl rfl (Nat.le_of_ble_eq_true rfl) d_Mo_init_145 (fun H locs hP hD hS => ?_)
  have hP : va_P (dC, dI) cls [(h0, .inr (12, [.ref q1, .ref q3, .ref q5, .int 0, .int 0, .int 0, .int 0, .int 0, .ref q7, .ref q9, .ref q11, .ref q13, .ref q15, .int 0, .int 0, .ref q17, .ref q19, .ref q21, .ref q23, .ref q25, .ref q27, .ref q29, .ref q31, .int 0, .int 0, .ref q33, .ref q35, .null, .null, .null, .int 0, .null, .int 0, .int 0, .int 0, .int 0, .null, .int 0, .int 0])), (q1, .inl (cA2, 2000, .inl (fun _ => 0))), (q3, .inl (cA4, 5718, .inl (fun _ => 0))), (q35, .inl (cA36, 48000, .inl (fun _ => 0)))] H := hP
  have hD : va_D A [(h0, .inr (12, [.ref q1, .ref q3, .ref q5, .int 0, .int 0, .int 0, .int 0, .int 0, .ref q7, .ref q9, .ref q11, .ref q13, .ref q15, .int 0, .int 0, .ref q17, .ref q19, .ref q21, .ref q23, .ref q25, .ref q27, .ref q29, .ref q31, .int 0, .int 0, .ref q33, .ref q35, .null, .null, .null, .int 0, .null, .int 0, .int 0, .int 0, .int 0, .null, .int 0, .int 0])), (q1, .inl (cA2, 2000, .inl (fun _ => 0))), (q3, .inl (cA4, 5718, .inl (fun _ => 0))), (q35, .inl (cA36, 48000, .inl (fun _ => 0)))] := hD
  have hP := hP.sub (ws' := [(h0, .inr (12, [.ref q1, .ref q3, .ref q5, .int 0, .int 0, .int 0, .int 0, .int 0, .ref q7, .ref q9, .ref q11, .ref q13, .ref q15, .int 0, .int 0, .ref q17, .ref q19, .ref q21, .ref q23, .ref q25, .ref q27, .ref q29, .ref q31, .int 0, .int 0, .ref q33, .ref q35, .null, .null, .null, .int 0, .null, .int 0, .int 0, .int 0, .int 0, .null, .int 0, .int 0])), (q1, .inl (cA2, 2000, .inl (fun _ => 0))), (q3, .inl (cA4, 5718, .inl (fun _ => 0)))]) [0, 1, 2] rfl
  have hD := hD.sub (ws' := [(h0, .inr (12, [.ref q1, .ref q3, .ref q5, .int 0, .int 0, .int 0, .int 0, .int 0, .ref q7, .ref q9, .ref q11, .ref q13, .ref q15, .int 0, .int 0, .ref q17, .ref q19, .ref q21, .ref q23, .ref q25, .ref q27, .ref q29, .ref q31, .int 0, .int 0, .ref q33, .ref q35, .null, .null, .null, .int 0, .null, .int 0, .int 0, .int 0, .int 0, .null, .int 0, .int 0])), (q1, .inl (cA2, 2000, .inl (fun _ => 0))), (q3, .inl (cA4, 5718, .inl (fun _ => 0)))]) [0, 1, 2] (by decide) rfl
  refine lv_aload_n hx hb d_Mo_init_148 rfl (lv_at hl 0 rfl) ?_
  refine lv_bipush (v := 32) hx hb d_Mo_init_149 (by decide) ?_
  refine va_newa (atype := .int) (ty := .int) (N' := 32) (a0 := (32, .inl (fun _ => 0))) hx hb (ux_T_at hT tw_67 rfl) rfl hK hP hD hS hA (fun _ => rfl) (by decide) (by decide +kernel) (by decide +kernel) (Nat.le_of_ble_eq_true rfl) (Nat.le_of_ble_eq_true rfl) d_Mo_init_151 (fun q37 cA38 H hK hP hD hS => ?_)
  have hP : va_P (dC, dI) cls [(h0, .inr (12, [.ref q1, .ref q3, .ref q5, .int 0, .int 0, .int 0, .int 0, .int 0, .ref q7, .ref q9, .ref q11, .ref q13, .ref q15, .int 0, .int 0, .ref q17, .ref q19, .ref q21, .ref q23, .ref q25, .ref q27, .ref q29, .ref q31, .int 0, .int 0, .ref q33, .ref q35, .null, .null, .null, .int 0, .null, .int 0, .int 0, .int 0, .int 0, .null, .int 0, .int 0])), (q1, .inl (cA2, 2000, .inl (fun _ => 0))), (q3, .inl (cA4, 5718, .inl (fun _ => 0))), (q37, .inl (cA38, 32, .inl (fun _ => 0)))] H := hP
  have hD : va_D A [(h0, .inr (12, [.ref q1, .ref q3, .ref q5, .int 0, .int 0, .int 0, .int 0, .int 0, .ref q7, .ref q9, .ref q11, .ref q13, .ref q15, .int 0, .int 0, .ref q17, .ref q19, .ref q21, .ref q23, .ref q25, .ref q27, .ref q29, .ref q31, .int 0, .int 0, .ref q33, .ref q35, .null, .null, .null, .int 0, .null, .int 0, .int 0, .int 0, .int 0, .null, .int 0, .int 0])), (q1, .inl (cA2, 2000, .inl (fun _ => 0))), (q3, .inl (cA4, 5718, .inl (fun _ => 0))), (q37, .inl (cA38, 32, .inl (fun _ => 0)))] := hD
  have hK : va_K (dC, dI) cls [(cA2, .byte), (cA4, .byte), (cA6, .byte), (cA8, .byte), (cA10, .int), (cA12, .int), (cA14, .int), (cA16, .long), (cA18, .int), (cA20, .int), (cA22, .int), (cA24, .int), (cA26, .int), (cA28, .int), (cA30, .byte), (cA32, .boolean), (cA34, .byte), (cA36, .byte), (cA38, .int)] s := hK
  refine va_putF (D := (dC, dI)) (ci := 12) (v := .ref q37) (ty := .array .int) (C := R_Mo) (T := F_Mo) (N := 39) hx hb (u_Mo hT) (fun _ h => h) t_Mo k_Mo n_Mo hown hK hP hD hS 0 rfl rfl 27 (by decide) (ux_T_at hT tw_1620 rfl) (fun _ h9 => h9) rfl hin rfl (by decide +kernel) rfl rfl (Nat.le_of_ble_eq_true rfl) d_Mo_init_153 (fun H locs hP hD hS => ?_)
  have hP : va_P (dC, dI) cls [(h0, .inr (12, [.ref q1, .ref q3, .ref q5, .int 0, .int 0, .int 0, .int 0, .int 0, .ref q7, .ref q9, .ref q11, .ref q13, .ref q15, .int 0, .int 0, .ref q17, .ref q19, .ref q21, .ref q23, .ref q25, .ref q27, .ref q29, .ref q31, .int 0, .int 0, .ref q33, .ref q35, .ref q37, .null, .null, .int 0, .null, .int 0, .int 0, .int 0, .int 0, .null, .int 0, .int 0])), (q1, .inl (cA2, 2000, .inl (fun _ => 0))), (q3, .inl (cA4, 5718, .inl (fun _ => 0))), (q37, .inl (cA38, 32, .inl (fun _ => 0)))] H := hP
  have hD : va_D A [(h0, .inr (12, [.ref q1, .ref q3, .ref q5, .int 0, .int 0, .int 0, .int 0, .int 0, .ref q7, .ref q9, .ref q11, .ref q13, .ref q15, .int 0, .int 0, .ref q17, .ref q19, .ref q21, .ref q23, .ref q25, .ref q27, .ref q29, .ref q31, .int 0, .int 0, .ref q33, .ref q35, .ref q37, .null, .null, .int 0, .null, .int 0, .int 0, .int 0, .int 0, .null, .int 0, .int 0])), (q1, .inl (cA2, 2000, .inl (fun _ => 0))), (q3, .inl (cA4, 5718, .inl (fun _ => 0))), (q37, .inl (cA38, 32, .inl (fun _ => 0)))] := hD
  have hP := hP.sub (ws' := [(h0, .inr (12, [.ref q1, .ref q3, .ref q5, .int 0, .int 0, .int 0, .int 0, .int 0, .ref q7, .ref q9, .ref q11, .ref q13, .ref q15, .int 0, .int 0, .ref q17, .ref q19, .ref q21, .ref q23, .ref q25, .ref q27, .ref q29, .ref q31, .int 0, .int 0, .ref q33, .ref q35, .ref q37, .null, .null, .int 0, .null, .int 0, .int 0, .int 0, .int 0, .null, .int 0, .int 0])), (q1, .inl (cA2, 2000, .inl (fun _ => 0))), (q3, .inl (cA4, 5718, .inl (fun _ => 0)))]) [0, 1, 2] rfl
  have hD := hD.sub (ws' := [(h0, .inr (12, [.ref q1, .ref q3, .ref q5, .int 0, .int 0, .int 0, .int 0, .int 0, .ref q7, .ref q9, .ref q11, .ref q13, .ref q15, .int 0, .int 0, .ref q17, .ref q19, .ref q21, .ref q23, .ref q25, .ref q27, .ref q29, .ref q31, .int 0, .int 0, .ref q33, .ref q35, .ref q37, .null, .null, .int 0, .null, .int 0, .int 0, .int 0, .int 0, .null, .int 0, .int 0])), (q1, .inl (cA2, 2000, .inl (fun _ => 0))), (q3, .inl (cA4, 5718, .inl (fun _ => 0)))]) [0, 1, 2] (by decide) rfl
  refine lv_aload_n hx hb d_Mo_init_156 rfl (lv_at hl 0 rfl) ?_
  refine lv_bipush (v := 32) hx hb d_Mo_init_157 (by decide) ?_
  refine va_newa (atype := .int) (ty := .int) (N' := 32) (a0 := (32, .inl (fun _ => 0))) hx hb (ux_T_at hT tw_67 rfl) rfl hK hP hD hS hA (fun _ => rfl) (by decide) (by decide +kernel) (by decide +kernel) (Nat.le_of_ble_eq_true rfl) (Nat.le_of_ble_eq_true rfl) d_Mo_init_159 (fun q39 cA40 H hK hP hD hS => ?_)
  have hP : va_P (dC, dI) cls [(h0, .inr (12, [.ref q1, .ref q3, .ref q5, .int 0, .int 0, .int 0, .int 0, .int 0, .ref q7, .ref q9, .ref q11, .ref q13, .ref q15, .int 0, .int 0, .ref q17, .ref q19, .ref q21, .ref q23, .ref q25, .ref q27, .ref q29, .ref q31, .int 0, .int 0, .ref q33, .ref q35, .ref q37, .null, .null, .int 0, .null, .int 0, .int 0, .int 0, .int 0, .null, .int 0, .int 0])), (q1, .inl (cA2, 2000, .inl (fun _ => 0))), (q3, .inl (cA4, 5718, .inl (fun _ => 0))), (q39, .inl (cA40, 32, .inl (fun _ => 0)))] H := hP
  have hD : va_D A [(h0, .inr (12, [.ref q1, .ref q3, .ref q5, .int 0, .int 0, .int 0, .int 0, .int 0, .ref q7, .ref q9, .ref q11, .ref q13, .ref q15, .int 0, .int 0, .ref q17, .ref q19, .ref q21, .ref q23, .ref q25, .ref q27, .ref q29, .ref q31, .int 0, .int 0, .ref q33, .ref q35, .ref q37, .null, .null, .int 0, .null, .int 0, .int 0, .int 0, .int 0, .null, .int 0, .int 0])), (q1, .inl (cA2, 2000, .inl (fun _ => 0))), (q3, .inl (cA4, 5718, .inl (fun _ => 0))), (q39, .inl (cA40, 32, .inl (fun _ => 0)))] := hD
  have hK : va_K (dC, dI) cls [(cA2, .byte), (cA4, .byte), (cA6, .byte), (cA8, .byte), (cA10, .int), (cA12, .int), (cA14, .int), (cA16, .long), (cA18, .int), (cA20, .int), (cA22, .int), (cA24, .int), (cA26, .int), (cA28, .int), (cA30, .byte), (cA32, .boolean), (cA34, .byte), (cA36, .byte), (cA38, .int), (cA40, .int)] s := hK
  refine va_putF (D := (dC, dI)) (ci := 12) (v := .ref q39) (ty := .array .int) (C := R_Mo) (T := F_Mo) (N := 39) hx hb (u_Mo hT) (fun _ h => h) t_Mo k_Mo n_Mo hown hK hP hD hS 0 rfl rfl 28 (by decide) (ux_T_at hT tw_1621 rfl) (fun _ h9 => h9) rfl hin rfl (by decide +kernel) rfl rfl (Nat.le_of_ble_eq_true rfl) d_Mo_init_161 (fun H locs hP hD hS => ?_)
  have hP : va_P (dC, dI) cls [(h0, .inr (12, [.ref q1, .ref q3, .ref q5, .int 0, .int 0, .int 0, .int 0, .int 0, .ref q7, .ref q9, .ref q11, .ref q13, .ref q15, .int 0, .int 0, .ref q17, .ref q19, .ref q21, .ref q23, .ref q25, .ref q27, .ref q29, .ref q31, .int 0, .int 0, .ref q33, .ref q35, .ref q37, .ref q39, .null, .int 0, .null, .int 0, .int 0, .int 0, .int 0, .null, .int 0, .int 0])), (q1, .inl (cA2, 2000, .inl (fun _ => 0))), (q3, .inl (cA4, 5718, .inl (fun _ => 0))), (q39, .inl (cA40, 32, .inl (fun _ => 0)))] H := hP
  have hD : va_D A [(h0, .inr (12, [.ref q1, .ref q3, .ref q5, .int 0, .int 0, .int 0, .int 0, .int 0, .ref q7, .ref q9, .ref q11, .ref q13, .ref q15, .int 0, .int 0, .ref q17, .ref q19, .ref q21, .ref q23, .ref q25, .ref q27, .ref q29, .ref q31, .int 0, .int 0, .ref q33, .ref q35, .ref q37, .ref q39, .null, .int 0, .null, .int 0, .int 0, .int 0, .int 0, .null, .int 0, .int 0])), (q1, .inl (cA2, 2000, .inl (fun _ => 0))), (q3, .inl (cA4, 5718, .inl (fun _ => 0))), (q39, .inl (cA40, 32, .inl (fun _ => 0)))] := hD
  have hP := hP.sub (ws' := [(h0, .inr (12, [.ref q1, .ref q3, .ref q5, .int 0, .int 0, .int 0, .int 0, .int 0, .ref q7, .ref q9, .ref q11, .ref q13, .ref q15, .int 0, .int 0, .ref q17, .ref q19, .ref q21, .ref q23, .ref q25, .ref q27, .ref q29, .ref q31, .int 0, .int 0, .ref q33, .ref q35, .ref q37, .ref q39, .null, .int 0, .null, .int 0, .int 0, .int 0, .int 0, .null, .int 0, .int 0])), (q1, .inl (cA2, 2000, .inl (fun _ => 0))), (q3, .inl (cA4, 5718, .inl (fun _ => 0)))]) [0, 1, 2] rfl
  have hD := hD.sub (ws' := [(h0, .inr (12, [.ref q1, .ref q3, .ref q5, .int 0, .int 0, .int 0, .int 0, .int 0, .ref q7, .ref q9, .ref q11, .ref q13, .ref q15, .int 0, .int 0, .ref q17, .ref q19, .ref q21, .ref q23, .ref q25, .ref q27, .ref q29, .ref q31, .int 0, .int 0, .ref q33, .ref q35, .ref q37, .ref q39, .null, .int 0, .null, .int 0, .int 0, .int 0, .int 0, .null, .int 0, .int 0])), (q1, .inl (cA2, 2000, .inl (fun _ => 0))), (q3, .inl (cA4, 5718, .inl (fun _ => 0)))]) [0, 1, 2] (by decide) rfl
  refine lv_aload_n hx hb d_Mo_init_164 rfl (lv_at hl 0 rfl) ?_
  refine lv_bipush (v := 32) hx hb d_Mo_init_165 (by decide) ?_
  refine va_newa (atype := .int) (ty := .int) (N' := 32) (a0 := (32, .inl (fun _ => 0))) hx hb (ux_T_at hT tw_67 rfl) rfl hK hP hD hS hA (fun _ => rfl) (by decide) (by decide +kernel) (by decide +kernel) (Nat.le_of_ble_eq_true rfl) (Nat.le_of_ble_eq_true rfl) d_Mo_init_167 (fun q41 cA42 H hK hP hD hS => ?_)
  have hP : va_P (dC, dI) cls [(h0, .inr (12, [.ref q1, .ref q3, .ref q5, .int 0, .int 0, .int 0, .int 0, .int 0, .ref q7, .ref q9, .ref q11, .ref q13, .ref q15, .int 0, .int 0, .ref q17, .ref q19, .ref q21, .ref q23, .ref q25, .ref q27, .ref q29, .ref q31, .int 0, .int 0, .ref q33, .ref q35, .ref q37, .ref q39, .null, .int 0, .null, .int 0, .int 0, .int 0, .int 0, .null, .int 0, .int 0])), (q1, .inl (cA2, 2000, .inl (fun _ => 0))), (q3, .inl (cA4, 5718, .inl (fun _ => 0))), (q41, .inl (cA42, 32, .inl (fun _ => 0)))] H := hP
  have hD : va_D A [(h0, .inr (12, [.ref q1, .ref q3, .ref q5, .int 0, .int 0, .int 0, .int 0, .int 0, .ref q7, .ref q9, .ref q11, .ref q13, .ref q15, .int 0, .int 0, .ref q17, .ref q19, .ref q21, .ref q23, .ref q25, .ref q27, .ref q29, .ref q31, .int 0, .int 0, .ref q33, .ref q35, .ref q37, .ref q39, .null, .int 0, .null, .int 0, .int 0, .int 0, .int 0, .null, .int 0, .int 0])), (q1, .inl (cA2, 2000, .inl (fun _ => 0))), (q3, .inl (cA4, 5718, .inl (fun _ => 0))), (q41, .inl (cA42, 32, .inl (fun _ => 0)))] := hD
  have hK : va_K (dC, dI) cls [(cA2, .byte), (cA4, .byte), (cA6, .byte), (cA8, .byte), (cA10, .int), (cA12, .int), (cA14, .int), (cA16, .long), (cA18, .int), (cA20, .int), (cA22, .int), (cA24, .int), (cA26, .int), (cA28, .int), (cA30, .byte), (cA32, .boolean), (cA34, .byte), (cA36, .byte), (cA38, .int), (cA40, .int), (cA42, .int)] s := hK
  refine va_putF (D := (dC, dI)) (ci := 12) (v := .ref q41) (ty := .array .int) (C := R_Mo) (T := F_Mo) (N := 39) hx hb (u_Mo hT) (fun _ h => h) t_Mo k_Mo n_Mo hown hK hP hD hS 0 rfl rfl 29 (by decide) (ux_T_at hT tw_1622 rfl) (fun _ h9 => h9) rfl hin rfl (by decide +kernel) rfl rfl (Nat.le_of_ble_eq_true rfl) d_Mo_init_169 (fun H locs hP hD hS => ?_)
  have hP : va_P (dC, dI) cls [(h0, .inr (12, [.ref q1, .ref q3, .ref q5, .int 0, .int 0, .int 0, .int 0, .int 0, .ref q7, .ref q9, .ref q11, .ref q13, .ref q15, .int 0, .int 0, .ref q17, .ref q19, .ref q21, .ref q23, .ref q25, .ref q27, .ref q29, .ref q31, .int 0, .int 0, .ref q33, .ref q35, .ref q37, .ref q39, .ref q41, .int 0, .null, .int 0, .int 0, .int 0, .int 0, .null, .int 0, .int 0])), (q1, .inl (cA2, 2000, .inl (fun _ => 0))), (q3, .inl (cA4, 5718, .inl (fun _ => 0))), (q41, .inl (cA42, 32, .inl (fun _ => 0)))] H := hP
  have hD : va_D A [(h0, .inr (12, [.ref q1, .ref q3, .ref q5, .int 0, .int 0, .int 0, .int 0, .int 0, .ref q7, .ref q9, .ref q11, .ref q13, .ref q15, .int 0, .int 0, .ref q17, .ref q19, .ref q21, .ref q23, .ref q25, .ref q27, .ref q29, .ref q31, .int 0, .int 0, .ref q33, .ref q35, .ref q37, .ref q39, .ref q41, .int 0, .null, .int 0, .int 0, .int 0, .int 0, .null, .int 0, .int 0])), (q1, .inl (cA2, 2000, .inl (fun _ => 0))), (q3, .inl (cA4, 5718, .inl (fun _ => 0))), (q41, .inl (cA42, 32, .inl (fun _ => 0)))] := hD
  have hP := hP.sub (ws' := [(h0, .inr (12, [.ref q1, .ref q3, .ref q5, .int 0, .int 0, .int 0, .int 0, .int 0, .ref q7, .ref q9, .ref q11, .ref q13, .ref q15, .int 0, .int 0, .ref q17, .ref q19, .ref q21, .ref q23, .ref q25, .ref q27, .ref q29, .ref q31, .int 0, .int 0, .ref q33, .ref q35, .ref q37, .ref q39, .ref q41, .int 0, .null, .int 0, .int 0, .int 0, .int 0, .null, .int 0, .int 0])), (q1, .inl (cA2, 2000, .inl (fun _ => 0))), (q3, .inl (cA4, 5718, .inl (fun _ => 0)))]) [0, 1, 2] rfl
  have hD := hD.sub (ws' := [(h0, .inr (12, [.ref q1, .ref q3, .ref q5, .int 0, .int 0, .int 0, .int 0, .int 0, .ref q7, .ref q9, .ref q11, .ref q13, .ref q15, .int 0, .int 0, .ref q17, .ref q19, .ref q21, .ref q23, .ref q25, .ref q27, .ref q29, .ref q31, .int 0, .int 0, .ref q33, .ref q35, .ref q37, .ref q39, .ref q41, .int 0, .null, .int 0, .int 0, .int 0, .int 0, .null, .int 0, .int 0])), (q1, .inl (cA2, 2000, .inl (fun _ => 0))), (q3, .inl (cA4, 5718, .inl (fun _ => 0)))]) [0, 1, 2] (by decide) rfl
  refine lv_aload_n hx hb d_Mo_init_172 rfl (lv_at hl 0 rfl) ?_
  refine lv_bipush (v := 9) hx hb d_Mo_init_173 (by decide) ?_
  refine va_newq (own := "UnikernelHttpModel") (C := "UnikernelHttpModel$Peer") (N' := 9) hx hb hown (ux_T_at hT tw_1486 rfl) (va_AO.of (ux_T_at hT tw_1487 rfl (A := #[]))) hK hP hD hS hA (by decide) (by decide) (by decide) (Nat.le_of_ble_eq_true rfl) (Nat.le_of_ble_eq_true rfl) d_Mo_init_175 (fun q43 cA44 H hK hP hD hS => ?_)
  have hP : va_P (dC, dI) cls [(h0, .inr (12, [.ref q1, .ref q3, .ref q5, .int 0, .int 0, .int 0, .int 0, .int 0, .ref q7, .ref q9, .ref q11, .ref q13, .ref q15, .int 0, .int 0, .ref q17, .ref q19, .ref q21, .ref q23, .ref q25, .ref q27, .ref q29, .ref q31, .int 0, .int 0, .ref q33, .ref q35, .ref q37, .ref q39, .ref q41, .int 0, .null, .int 0, .int 0, .int 0, .int 0, .null, .int 0, .int 0])), (q1, .inl (cA2, 2000, .inl (fun _ => 0))), (q3, .inl (cA4, 5718, .inl (fun _ => 0))), (q43, .inl (cA44, 9, .inr (.inr (.inr (.inr (fun _ => none))))))] H := hP
  have hD : va_D A [(h0, .inr (12, [.ref q1, .ref q3, .ref q5, .int 0, .int 0, .int 0, .int 0, .int 0, .ref q7, .ref q9, .ref q11, .ref q13, .ref q15, .int 0, .int 0, .ref q17, .ref q19, .ref q21, .ref q23, .ref q25, .ref q27, .ref q29, .ref q31, .int 0, .int 0, .ref q33, .ref q35, .ref q37, .ref q39, .ref q41, .int 0, .null, .int 0, .int 0, .int 0, .int 0, .null, .int 0, .int 0])), (q1, .inl (cA2, 2000, .inl (fun _ => 0))), (q3, .inl (cA4, 5718, .inl (fun _ => 0))), (q43, .inl (cA44, 9, .inr (.inr (.inr (.inr (fun _ => none))))))] := hD
  have hK : va_K (dC, dI) cls [(cA2, .byte), (cA4, .byte), (cA6, .byte), (cA8, .byte), (cA10, .int), (cA12, .int), (cA14, .int), (cA16, .long), (cA18, .int), (cA20, .int), (cA22, .int), (cA24, .int), (cA26, .int), (cA28, .int), (cA30, .byte), (cA32, .boolean), (cA34, .byte), (cA36, .byte), (cA38, .int), (cA40, .int), (cA42, .int), (cA44, .object "UnikernelHttpModel$Peer")] s := hK
  refine va_putF (D := (dC, dI)) (ci := 12) (v := .ref q43) (ty := .array (.object "UnikernelHttpModel$Peer")) (C := R_Mo) (T := F_Mo) (N := 39) hx hb (u_Mo hT) (fun _ h => h) t_Mo k_Mo n_Mo hown hK hP hD hS 0 rfl rfl 31 (by decide) (ux_T_at hT tw_1624 rfl) (fun _ h9 => h9) rfl hin rfl (by decide +kernel) rfl rfl (Nat.le_of_ble_eq_true rfl) d_Mo_init_178 (fun H locs hP hD hS => ?_)
  have hP : va_P (dC, dI) cls [(h0, .inr (12, [.ref q1, .ref q3, .ref q5, .int 0, .int 0, .int 0, .int 0, .int 0, .ref q7, .ref q9, .ref q11, .ref q13, .ref q15, .int 0, .int 0, .ref q17, .ref q19, .ref q21, .ref q23, .ref q25, .ref q27, .ref q29, .ref q31, .int 0, .int 0, .ref q33, .ref q35, .ref q37, .ref q39, .ref q41, .int 0, .ref q43, .int 0, .int 0, .int 0, .int 0, .null, .int 0, .int 0])), (q1, .inl (cA2, 2000, .inl (fun _ => 0))), (q3, .inl (cA4, 5718, .inl (fun _ => 0))), (q43, .inl (cA44, 9, .inr (.inr (.inr (.inr (fun _ => none))))))] H := hP
  have hD : va_D A [(h0, .inr (12, [.ref q1, .ref q3, .ref q5, .int 0, .int 0, .int 0, .int 0, .int 0, .ref q7, .ref q9, .ref q11, .ref q13, .ref q15, .int 0, .int 0, .ref q17, .ref q19, .ref q21, .ref q23, .ref q25, .ref q27, .ref q29, .ref q31, .int 0, .int 0, .ref q33, .ref q35, .ref q37, .ref q39, .ref q41, .int 0, .ref q43, .int 0, .int 0, .int 0, .int 0, .null, .int 0, .int 0])), (q1, .inl (cA2, 2000, .inl (fun _ => 0))), (q3, .inl (cA4, 5718, .inl (fun _ => 0))), (q43, .inl (cA44, 9, .inr (.inr (.inr (.inr (fun _ => none))))))] := hD
  refine lv_aload_n hx hb d_Mo_init_181 rfl (lv_at hl 0 rfl) ?_
  refine lv_sipush (v := 1800) hx hb d_Mo_init_182 (by decide) ?_
  refine va_newa (atype := .byte) (ty := .byte) (N' := 1800) (a0 := (1800, .inl (fun _ => 0))) hx hb (ux_T_at hT tw_66 rfl) rfl hK hP hD hS hA (fun _ => rfl) (by decide) (by decide +kernel) (by decide +kernel) (Nat.le_of_ble_eq_true rfl) (Nat.le_of_ble_eq_true rfl) d_Mo_init_185 (fun q45 cA46 H hK hP hD hS => ?_)
  have hP : va_P (dC, dI) cls [(h0, .inr (12, [.ref q1, .ref q3, .ref q5, .int 0, .int 0, .int 0, .int 0, .int 0, .ref q7, .ref q9, .ref q11, .ref q13, .ref q15, .int 0, .int 0, .ref q17, .ref q19, .ref q21, .ref q23, .ref q25, .ref q27, .ref q29, .ref q31, .int 0, .int 0, .ref q33, .ref q35, .ref q37, .ref q39, .ref q41, .int 0, .ref q43, .int 0, .int 0, .int 0, .int 0, .null, .int 0, .int 0])), (q1, .inl (cA2, 2000, .inl (fun _ => 0))), (q3, .inl (cA4, 5718, .inl (fun _ => 0))), (q43, .inl (cA44, 9, .inr (.inr (.inr (.inr (fun _ => none)))))), (q45, .inl (cA46, 1800, .inl (fun _ => 0)))] H := hP
  have hD : va_D A [(h0, .inr (12, [.ref q1, .ref q3, .ref q5, .int 0, .int 0, .int 0, .int 0, .int 0, .ref q7, .ref q9, .ref q11, .ref q13, .ref q15, .int 0, .int 0, .ref q17, .ref q19, .ref q21, .ref q23, .ref q25, .ref q27, .ref q29, .ref q31, .int 0, .int 0, .ref q33, .ref q35, .ref q37, .ref q39, .ref q41, .int 0, .ref q43, .int 0, .int 0, .int 0, .int 0, .null, .int 0, .int 0])), (q1, .inl (cA2, 2000, .inl (fun _ => 0))), (q3, .inl (cA4, 5718, .inl (fun _ => 0))), (q43, .inl (cA44, 9, .inr (.inr (.inr (.inr (fun _ => none)))))), (q45, .inl (cA46, 1800, .inl (fun _ => 0)))] := hD
  have hK : va_K (dC, dI) cls [(cA2, .byte), (cA4, .byte), (cA6, .byte), (cA8, .byte), (cA10, .int), (cA12, .int), (cA14, .int), (cA16, .long), (cA18, .int), (cA20, .int), (cA22, .int), (cA24, .int), (cA26, .int), (cA28, .int), (cA30, .byte), (cA32, .boolean), (cA34, .byte), (cA36, .byte), (cA38, .int), (cA40, .int), (cA42, .int), (cA44, .object "UnikernelHttpModel$Peer"), (cA46, .byte)] s := hK
  refine va_putF (D := (dC, dI)) (ci := 12) (v := .ref q45) (ty := .array .byte) (C := R_Mo) (T := F_Mo) (N := 39) hx hb (u_Mo hT) (fun _ h => h) t_Mo k_Mo n_Mo hown hK hP hD hS 0 rfl rfl 36 (by decide) (ux_T_at hT tw_1629 rfl) (fun _ h9 => h9) rfl hin rfl (by decide +kernel) rfl rfl (Nat.le_of_ble_eq_true rfl) d_Mo_init_187 (fun H locs hP hD hS => ?_)
  have hP : va_P (dC, dI) cls [(h0, .inr (12, [.ref q1, .ref q3, .ref q5, .int 0, .int 0, .int 0, .int 0, .int 0, .ref q7, .ref q9, .ref q11, .ref q13, .ref q15, .int 0, .int 0, .ref q17, .ref q19, .ref q21, .ref q23, .ref q25, .ref q27, .ref q29, .ref q31, .int 0, .int 0, .ref q33, .ref q35, .ref q37, .ref q39, .ref q41, .int 0, .ref q43, .int 0, .int 0, .int 0, .int 0, .ref q45, .int 0, .int 0])), (q1, .inl (cA2, 2000, .inl (fun _ => 0))), (q3, .inl (cA4, 5718, .inl (fun _ => 0))), (q43, .inl (cA44, 9, .inr (.inr (.inr (.inr (fun _ => none)))))), (q45, .inl (cA46, 1800, .inl (fun _ => 0)))] H := hP
  have hD : va_D A [(h0, .inr (12, [.ref q1, .ref q3, .ref q5, .int 0, .int 0, .int 0, .int 0, .int 0, .ref q7, .ref q9, .ref q11, .ref q13, .ref q15, .int 0, .int 0, .ref q17, .ref q19, .ref q21, .ref q23, .ref q25, .ref q27, .ref q29, .ref q31, .int 0, .int 0, .ref q33, .ref q35, .ref q37, .ref q39, .ref q41, .int 0, .ref q43, .int 0, .int 0, .int 0, .int 0, .ref q45, .int 0, .int 0])), (q1, .inl (cA2, 2000, .inl (fun _ => 0))), (q3, .inl (cA4, 5718, .inl (fun _ => 0))), (q43, .inl (cA44, 9, .inr (.inr (.inr (.inr (fun _ => none)))))), (q45, .inl (cA46, 1800, .inl (fun _ => 0)))] := hD
  have hP := hP.sub (ws' := [(h0, .inr (12, [.ref q1, .ref q3, .ref q5, .int 0, .int 0, .int 0, .int 0, .int 0, .ref q7, .ref q9, .ref q11, .ref q13, .ref q15, .int 0, .int 0, .ref q17, .ref q19, .ref q21, .ref q23, .ref q25, .ref q27, .ref q29, .ref q31, .int 0, .int 0, .ref q33, .ref q35, .ref q37, .ref q39, .ref q41, .int 0, .ref q43, .int 0, .int 0, .int 0, .int 0, .ref q45, .int 0, .int 0])), (q1, .inl (cA2, 2000, .inl (fun _ => 0))), (q3, .inl (cA4, 5718, .inl (fun _ => 0))), (q43, .inl (cA44, 9, .inr (.inr (.inr (.inr (fun _ => none))))))]) [0, 1, 2, 3] rfl
  have hD := hD.sub (ws' := [(h0, .inr (12, [.ref q1, .ref q3, .ref q5, .int 0, .int 0, .int 0, .int 0, .int 0, .ref q7, .ref q9, .ref q11, .ref q13, .ref q15, .int 0, .int 0, .ref q17, .ref q19, .ref q21, .ref q23, .ref q25, .ref q27, .ref q29, .ref q31, .int 0, .int 0, .ref q33, .ref q35, .ref q37, .ref q39, .ref q41, .int 0, .ref q43, .int 0, .int 0, .int 0, .int 0, .ref q45, .int 0, .int 0])), (q1, .inl (cA2, 2000, .inl (fun _ => 0))), (q3, .inl (cA4, 5718, .inl (fun _ => 0))), (q43, .inl (cA44, 9, .inr (.inr (.inr (.inr (fun _ => none))))))]) [0, 1, 2, 3] (by decide) rfl
  refine lv_iconst (v := 0) hx hb d_Mo_init_190 (by decide) ?_
  refine lv_istore_n hx hb d_Mo_init_191 rfl hl (by decide) rfl (fun ls hl => ?_)
  have hl : lv_has ls 2 [(1, .int 0), (0, .ref h0)] := hl
  refine lv_iload_n hx hb d_Mo_init_192 rfl (lv_at hl 0 rfl) ?_
  refine lv_bipush (v := 8) hx hb d_Mo_init_193 (by decide) ?_
  refine lv_icmp_gt (tgt := 217) hx hb d_Mo_init_195 (by decide) (fun hc => absurd hc (by decide)) (fun _ => ?_)
  refine lv_aload_n hx hb d_Mo_init_198 rfl (lv_at hl 1 rfl) ?_
  refine va_get (D := (dC, dI)) (ci := 12) (v := .ref q43) (C := R_Mo) (T := F_Mo) (N := 39) hx hb (u_Mo hT) (fun _ h => h) hown hK hP 0 rfl rfl 31 (by decide) (ux_T_at hT tw_1624 rfl) (fun _ h9 => h9) rfl d_Mo_init_199 ?_
  refine lv_iload_n hx hb d_Mo_init_202 rfl (lv_at hl 0 rfl) ?_
  refine va_new (ci := 13) (fs := [.int 0, .int 0, .int 0, .int 0, .int 0, .int 0, .int 0, .int 0, .int 0, .int 0, .int 0, .int 0, .int 0, .int 0, .int 0, .int 0, .int 0, .int 0, .int 0, .null, .null, .null, .int 0, .int 0, .int 0, .int 0, .int 0, .int 0, .int 0, .null, .int 0, .int 0]) (C := R_Pe) (T := F_Pe) (N := 32) hx hb (u_Pe hT) (fun _ h => h) t_Pe k_Pe hown (ux_T_at hT tw_1486 rfl) (ux_T_at hT tw_1488 rfl) (ux_T_at hT tw_14 rfl) hK hP hD hS hA rfl z_Pe (Nat.le_of_ble_eq_true rfl) (Nat.le_of_ble_eq_true rfl) d_Mo_init_203 (fun q47 H hP hD hS => ?_)
  have hP : va_P (dC, dI) cls [(h0, .inr (12, [.ref q1, .ref q3, .ref q5, .int 0, .int 0, .int 0, .int 0, .int 0, .ref q7, .ref q9, .ref q11, .ref q13, .ref q15, .int 0, .int 0, .ref q17, .ref q19, .ref q21, .ref q23, .ref q25, .ref q27, .ref q29, .ref q31, .int 0, .int 0, .ref q33, .ref q35, .ref q37, .ref q39, .ref q41, .int 0, .ref q43, .int 0, .int 0, .int 0, .int 0, .ref q45, .int 0, .int 0])), (q1, .inl (cA2, 2000, .inl (fun _ => 0))), (q3, .inl (cA4, 5718, .inl (fun _ => 0))), (q43, .inl (cA44, 9, .inr (.inr (.inr (.inr (fun _ => none)))))), (q47, .inr (13, [.int 0, .int 0, .int 0, .int 0, .int 0, .int 0, .int 0, .int 0, .int 0, .int 0, .int 0, .int 0, .int 0, .int 0, .int 0, .int 0, .int 0, .int 0, .int 0, .null, .null, .null, .int 0, .int 0, .int 0, .int 0, .int 0, .int 0, .int 0, .null, .int 0, .int 0]))] H := hP
  have hD : va_D A [(h0, .inr (12, [.ref q1, .ref q3, .ref q5, .int 0, .int 0, .int 0, .int 0, .int 0, .ref q7, .ref q9, .ref q11, .ref q13, .ref q15, .int 0, .int 0, .ref q17, .ref q19, .ref q21, .ref q23, .ref q25, .ref q27, .ref q29, .ref q31, .int 0, .int 0, .ref q33, .ref q35, .ref q37, .ref q39, .ref q41, .int 0, .ref q43, .int 0, .int 0, .int 0, .int 0, .ref q45, .int 0, .int 0])), (q1, .inl (cA2, 2000, .inl (fun _ => 0))), (q3, .inl (cA4, 5718, .inl (fun _ => 0))), (q43, .inl (cA44, 9, .inr (.inr (.inr (.inr (fun _ => none)))))), (q47, .inr (13, [.int 0, .int 0, .int 0, .int 0, .int 0, .int 0, .int 0, .int 0, .int 0, .int 0, .int 0, .int 0, .int 0, .int 0, .int 0, .int 0, .int 0, .int 0, .int 0, .null, .null, .null, .int 0, .int 0, .int 0, .int 0, .int 0, .int 0, .int 0, .null, .int 0, .int 0]))] := hD
  refine lv_dup hx hb d_Mo_init_206 rfl ?_
  have hPc := hP.sub (ws' := [(q47, .inr (13, [.int 0, .int 0, .int 0, .int 0, .int 0, .int 0, .int 0, .int 0, .int 0, .int 0, .int 0, .int 0, .int 0, .int 0, .int 0, .int 0, .int 0, .int 0, .int 0, .null, .null, .null, .int 0, .int 0, .int 0, .int 0, .int 0, .int 0, .int 0, .null, .int 0, .int 0]))]) [4] rfl
  have hDc := hD.sub (ws' := [(q47, .inr (13, [.int 0, .int 0, .int 0, .int 0, .int 0, .int 0, .int 0, .int 0, .int 0, .int 0, .int 0, .int 0, .int 0, .int 0, .int 0, .int 0, .int 0, .int 0, .int 0, .null, .null, .null, .int 0, .int 0, .int 0, .int 0, .int 0, .int 0, .int 0, .null, .int 0, .int 0]))]) [4] (by decide) rfl
  have hKc := hK.sub (tys' := []) [] rfl
  have hFc := va_free (wc := [(q47, .inr (13, [.int 0, .int 0, .int 0, .int 0, .int 0, .int 0, .int 0, .int 0, .int 0, .int 0, .int 0, .int 0, .int 0, .int 0, .int 0, .int 0, .int 0, .int 0, .int 0, .null, .null, .null, .int 0, .int 0, .int 0, .int 0, .int 0, .int 0, .int 0, .null, .int 0, .int 0]))]) hD hS hA [4] rfl
  have hkc : 24 + 4 ≤ 68 := (Nat.le_of_ble_eq_true rfl)
  refine va_callv (va_runIN (As := []) (rest := [.ref q47, .int 0, .ref q43]) hfx (c_Pe_init l dC dI q47 H.size) ⟨(ux_cn 0 hT tw_1491 tw_1489 tw_14 rfl rfl (by decide +kernel) ⟨(Nat.le_of_ble_eq_true rfl), (Nat.le_of_ble_eq_true rfl)⟩), rfl, (ux_T_at hT tw_1490 rfl)⟩ (ux_pre [.ref q47] hT hPc hKc hDc) rfl rfl hl.1 rfl (lv_room (Nat.le_of_ble_eq_true rfl)) d_Mo_init_207 ⟨(Nat.le_of_ble_eq_true rfl), (Nat.le_of_ble_eq_true rfl)⟩) hS (fun q _ h => hFc q h) hFc (fun u t H1 locs ht hvm hw hB hz1 hk1 hS => ?_)
  obtain ⟨q49, q50, q51, q52, hP1, hK1, hD1⟩ := hB
  rw [ht] at hP1
  have hK1 := va_K.moved hvm.symm hK1
  obtain ⟨hP, hD⟩ := va_join (wr := [(h0, .inr (12, [.ref q1, .ref q3, .ref q5, .int 0, .int 0, .int 0, .int 0, .int 0, .ref q7, .ref q9, .ref q11, .ref q13, .ref q15, .int 0, .int 0, .ref q17, .ref q19, .ref q21, .ref q23, .ref q25, .ref q27, .ref q29, .ref q31, .int 0, .int 0, .ref q33, .ref q35, .ref q37, .ref q39, .ref q41, .int 0, .ref q43, .int 0, .int 0, .int 0, .int 0, .ref q45, .int 0, .int 0])), (q1, .inl (cA2, 2000, .inl (fun _ => 0))), (q3, .inl (cA4, 5718, .inl (fun _ => 0))), (q43, .inl (cA44, 9, .inr (.inr (.inr (.inr (fun _ => none))))))]) (w1 := [(q47, .inr (13, [.int 0, .int 0, .int 0, .int 0, .int 0, .int 0, .int 0, .int 0, .int 0, .int 0, .int 0, .int 0, .int 0, .int 0, .int 0, .int 0, .int 0, .int 0, .int 0, .ref q49, .ref q50, .ref q51, .int 0, .int 0, .int 0, .int 0, .int 0, .int 0, .int 0, .ref q52, .int 0, .int 0]))]) hP hD [4] [0, 1, 2, 3] rfl rfl (by decide) (by decide) hk1 hFc hP1 hD1
  have hK := (hK.sub (tys' := [(cA2, .byte), (cA4, .byte), (cA6, .byte), (cA8, .byte), (cA10, .int), (cA12, .int), (cA14, .int), (cA16, .long), (cA18, .int), (cA20, .int), (cA22, .int), (cA24, .int), (cA26, .int), (cA28, .int), (cA30, .byte), (cA32, .boolean), (cA34, .byte), (cA36, .byte), (cA38, .int), (cA40, .int), (cA42, .int), (cA44, .object "UnikernelHttpModel$Peer"), (cA46, .byte)]) [0, 1, 2, 3, 4, 5, 6, 7, 8, 9, 10, 11, 12, 13, 14, 15, 16, 17, 18, 19, 20, 21, 22] rfl).app hK1
  generalize H1 = H at hP hS ⊢
  have hP : va_P (dC, dI) cls [(h0, .inr (12, [.ref q1, .ref q3, .ref q5, .int 0, .int 0, .int 0, .int 0, .int 0, .ref q7, .ref q9, .ref q11, .ref q13, .ref q15, .int 0, .int 0, .ref q17, .ref q19, .ref q21, .ref q23, .ref q25, .ref q27, .ref q29, .ref q31, .int 0, .int 0, .ref q33, .ref q35, .ref q37, .ref q39, .ref q41, .int 0, .ref q43, .int 0, .int 0, .int 0, .int 0, .ref q45, .int 0, .int 0])), (q1, .inl (cA2, 2000, .inl (fun _ => 0))), (q3, .inl (cA4, 5718, .inl (fun _ => 0))), (q43, .inl (cA44, 9, .inr (.inr (.inr (.inr (fun _ => none)))))), (q47, .inr (13, [.int 0, .int 0, .int 0, .int 0, .int 0, .int 0, .int 0, .int 0, .int 0, .int 0, .int 0, .int 0, .int 0, .int 0, .int 0, .int 0, .int 0, .int 0, .int 0, .ref q49, .ref q50, .ref q51, .int 0, .int 0, .int 0, .int 0, .int 0, .int 0, .int 0, .ref q52, .int 0, .int 0]))] H := hP
  have hD : va_D A [(h0, .inr (12, [.ref q1, .ref q3, .ref q5, .int 0, .int 0, .int 0, .int 0, .int 0, .ref q7, .ref q9, .ref q11, .ref q13, .ref q15, .int 0, .int 0, .ref q17, .ref q19, .ref q21, .ref q23, .ref q25, .ref q27, .ref q29, .ref q31, .int 0, .int 0, .ref q33, .ref q35, .ref q37, .ref q39, .ref q41, .int 0, .ref q43, .int 0, .int 0, .int 0, .int 0, .ref q45, .int 0, .int 0])), (q1, .inl (cA2, 2000, .inl (fun _ => 0))), (q3, .inl (cA4, 5718, .inl (fun _ => 0))), (q43, .inl (cA44, 9, .inr (.inr (.inr (.inr (fun _ => none)))))), (q47, .inr (13, [.int 0, .int 0, .int 0, .int 0, .int 0, .int 0, .int 0, .int 0, .int 0, .int 0, .int 0, .int 0, .int 0, .int 0, .int 0, .int 0, .int 0, .int 0, .int 0, .ref q49, .ref q50, .ref q51, .int 0, .int 0, .int 0, .int 0, .int 0, .int 0, .int 0, .ref q52, .int 0, .int 0]))] := hD
  have hK : va_K (dC, dI) cls [(cA2, .byte), (cA4, .byte), (cA6, .byte), (cA8, .byte), (cA10, .int), (cA12, .int), (cA14, .int), (cA16, .long), (cA18, .int), (cA20, .int), (cA22, .int), (cA24, .int), (cA26, .int), (cA28, .int), (cA30, .byte), (cA32, .boolean), (cA34, .byte), (cA36, .byte), (cA38, .int), (cA40, .int), (cA42, .int), (cA44, .object "UnikernelHttpModel$Peer"), (cA46, .byte)] s := hK
  refine va_astq hx hb hK hP hD hS 3 21 4 13 rfl rfl rfl rfl (show ¬ ((0 : Int32) < 0 ∨ 9 ≤ (0 : Int32).toNatClampNeg) by decide) d_Mo_init_210 (fun H locs hP hD hS => ?_)
  have hP : va_P (dC, dI) cls [(h0, .inr (12, [.ref q1, .ref q3, .ref q5, .int 0, .int 0, .int 0, .int 0, .int 0, .ref q7, .ref q9, .ref q11, .ref q13, .ref q15, .int 0, .int 0, .ref q17, .ref q19, .ref q21, .ref q23, .ref q25, .ref q27, .ref q29, .ref q31, .int 0, .int 0, .ref q33, .ref q35, .ref q37, .ref q39, .ref q41, .int 0, .ref q43, .int 0, .int 0, .int 0, .int 0, .ref q45, .int 0, .int 0])), (q1, .inl (cA2, 2000, .inl (fun _ => 0))), (q3, .inl (cA4, 5718, .inl (fun _ => 0))), (q43, .inl (cA44, 9, .inr (.inr (.inr (.inr (va_up (fun _ => none) (0 : Int32).toNatClampNeg (some q47))))))), (q47, .inr (13, [.int 0, .int 0, .int 0, .int 0, .int 0, .int 0, .int 0, .int 0, .int 0, .int 0, .int 0, .int 0, .int 0, .int 0, .int 0, .int 0, .int 0, .int 0, .int 0, .ref q49, .ref q50, .ref q51, .int 0, .int 0, .int 0, .int 0, .int 0, .int 0, .int 0, .ref q52, .int 0, .int 0]))] H := hP
  have hD : va_D A [(h0, .inr (12, [.ref q1, .ref q3, .ref q5, .int 0, .int 0, .int 0, .int 0, .int 0, .ref q7, .ref q9, .ref q11, .ref q13, .ref q15, .int 0, .int 0, .ref q17, .ref q19, .ref q21, .ref q23, .ref q25, .ref q27, .ref q29, .ref q31, .int 0, .int 0, .ref q33, .ref q35, .ref q37, .ref q39, .ref q41, .int 0, .ref q43, .int 0, .int 0, .int 0, .int 0, .ref q45, .int 0, .int 0])), (q1, .inl (cA2, 2000, .inl (fun _ => 0))), (q3, .inl (cA4, 5718, .inl (fun _ => 0))), (q43, .inl (cA44, 9, .inr (.inr (.inr (.inr (va_up (fun _ => none) (0 : Int32).toNatClampNeg (some q47))))))), (q47, .inr (13, [.int 0, .int 0, .int 0, .int 0, .int 0, .int 0, .int 0, .int 0, .int 0, .int 0, .int 0, .int 0, .int 0, .int 0, .int 0, .int 0, .int 0, .int 0, .int 0, .ref q49, .ref q50, .ref q51, .int 0, .int 0, .int 0, .int 0, .int 0, .int 0, .int 0, .ref q52, .int 0, .int 0]))] := hD
  generalize va_up (fun _ => none) (0 : Int32).toNatClampNeg (some q47) = f53 at hP hD
  have hP := hP.sub (ws' := [(h0, .inr (12, [.ref q1, .ref q3, .ref q5, .int 0, .int 0, .int 0, .int 0, .int 0, .ref q7, .ref q9, .ref q11, .ref q13, .ref q15, .int 0, .int 0, .ref q17, .ref q19, .ref q21, .ref q23, .ref q25, .ref q27, .ref q29, .ref q31, .int 0, .int 0, .ref q33, .ref q35, .ref q37, .ref q39, .ref q41, .int 0, .ref q43, .int 0, .int 0, .int 0, .int 0, .ref q45, .int 0, .int 0])), (q1, .inl (cA2, 2000, .inl (fun _ => 0))), (q3, .inl (cA4, 5718, .inl (fun _ => 0))), (q43, .inl (cA44, 9, .inr (.inr (.inr (.inr f53)))))]) [0, 1, 2, 3] rfl
  have hD := hD.sub (ws' := [(h0, .inr (12, [.ref q1, .ref q3, .ref q5, .int 0, .int 0, .int 0, .int 0, .int 0, .ref q7, .ref q9, .ref q11, .ref q13, .ref q15, .int 0, .int 0, .ref q17, .ref q19, .ref q21, .ref q23, .ref q25, .ref q27, .ref q29, .ref q31, .int 0, .int 0, .ref q33, .ref q35, .ref q37, .ref q39, .ref q41, .int 0, .ref q43, .int 0, .int 0, .int 0, .int 0, .ref q45, .int 0, .int 0])), (q1, .inl (cA2, 2000, .inl (fun _ => 0))), (q3, .inl (cA4, 5718, .inl (fun _ => 0))), (q43, .inl (cA44, 9, .inr (.inr (.inr (.inr f53)))))]) [0, 1, 2, 3] (by decide) rfl
  refine lv_iinc (v := 1) hx hb d_Mo_init_211 hl (k := 0) rfl (by decide) (by decide) rfl (fun ls hl => ?_)
  have hl : lv_has ls 2 [(1, .int 1), (0, .ref h0)] := hl
  refine lv_goto hx hb d_Mo_init_214 (tgt := 192) (by decide) ?_
  refine lv_iload_n hx hb d_Mo_init_192 rfl (lv_at hl 0 rfl) ?_
  refine lv_bipush (v := 8) hx hb d_Mo_init_193 (by decide) ?_
  refine lv_icmp_gt (tgt := 217) hx hb d_Mo_init_195 (by decide) (fun hc => absurd hc (by decide)) (fun _ => ?_)
  refine lv_aload_n hx hb d_Mo_init_198 rfl (lv_at hl 1 rfl) ?_
  refine va_get (D := (dC, dI)) (ci := 12) (v := .ref q43) (C := R_Mo) (T := F_Mo) (N := 39) hx hb (u_Mo hT) (fun _ h => h) hown hK hP 0 rfl rfl 31 (by decide) (ux_T_at hT tw_1624 rfl) (fun _ h9 => h9) rfl d_Mo_init_199 ?_
  refine lv_iload_n hx hb d_Mo_init_202 rfl (lv_at hl 0 rfl) ?_
  refine va_new (ci := 13) (fs := [.int 0, .int 0, .int 0, .int 0, .int 0, .int 0, .int 0, .int 0, .int 0, .int 0, .int 0, .int 0, .int 0, .int 0, .int 0, .int 0, .int 0, .int 0, .int 0, .null, .null, .null, .int 0, .int 0, .int 0, .int 0, .int 0, .int 0, .int 0, .null, .int 0, .int 0]) (C := R_Pe) (T := F_Pe) (N := 32) hx hb (u_Pe hT) (fun _ h => h) t_Pe k_Pe hown (ux_T_at hT tw_1486 rfl) (ux_T_at hT tw_1488 rfl) (ux_T_at hT tw_14 rfl) hK hP hD hS hA rfl z_Pe (Nat.le_of_ble_eq_true rfl) (Nat.le_of_ble_eq_true rfl) d_Mo_init_203 (fun q54 H hP hD hS => ?_)
  have hP : va_P (dC, dI) cls [(h0, .inr (12, [.ref q1, .ref q3, .ref q5, .int 0, .int 0, .int 0, .int 0, .int 0, .ref q7, .ref q9, .ref q11, .ref q13, .ref q15, .int 0, .int 0, .ref q17, .ref q19, .ref q21, .ref q23, .ref q25, .ref q27, .ref q29, .ref q31, .int 0, .int 0, .ref q33, .ref q35, .ref q37, .ref q39, .ref q41, .int 0, .ref q43, .int 0, .int 0, .int 0, .int 0, .ref q45, .int 0, .int 0])), (q1, .inl (cA2, 2000, .inl (fun _ => 0))), (q3, .inl (cA4, 5718, .inl (fun _ => 0))), (q43, .inl (cA44, 9, .inr (.inr (.inr (.inr f53))))), (q54, .inr (13, [.int 0, .int 0, .int 0, .int 0, .int 0, .int 0, .int 0, .int 0, .int 0, .int 0, .int 0, .int 0, .int 0, .int 0, .int 0, .int 0, .int 0, .int 0, .int 0, .null, .null, .null, .int 0, .int 0, .int 0, .int 0, .int 0, .int 0, .int 0, .null, .int 0, .int 0]))] H := hP
  have hD : va_D A [(h0, .inr (12, [.ref q1, .ref q3, .ref q5, .int 0, .int 0, .int 0, .int 0, .int 0, .ref q7, .ref q9, .ref q11, .ref q13, .ref q15, .int 0, .int 0, .ref q17, .ref q19, .ref q21, .ref q23, .ref q25, .ref q27, .ref q29, .ref q31, .int 0, .int 0, .ref q33, .ref q35, .ref q37, .ref q39, .ref q41, .int 0, .ref q43, .int 0, .int 0, .int 0, .int 0, .ref q45, .int 0, .int 0])), (q1, .inl (cA2, 2000, .inl (fun _ => 0))), (q3, .inl (cA4, 5718, .inl (fun _ => 0))), (q43, .inl (cA44, 9, .inr (.inr (.inr (.inr f53))))), (q54, .inr (13, [.int 0, .int 0, .int 0, .int 0, .int 0, .int 0, .int 0, .int 0, .int 0, .int 0, .int 0, .int 0, .int 0, .int 0, .int 0, .int 0, .int 0, .int 0, .int 0, .null, .null, .null, .int 0, .int 0, .int 0, .int 0, .int 0, .int 0, .int 0, .null, .int 0, .int 0]))] := hD
  refine lv_dup hx hb d_Mo_init_206 rfl ?_
  have hPc := hP.sub (ws' := [(q54, .inr (13, [.int 0, .int 0, .int 0, .int 0, .int 0, .int 0, .int 0, .int 0, .int 0, .int 0, .int 0, .int 0, .int 0, .int 0, .int 0, .int 0, .int 0, .int 0, .int 0, .null, .null, .null, .int 0, .int 0, .int 0, .int 0, .int 0, .int 0, .int 0, .null, .int 0, .int 0]))]) [4] rfl
  have hDc := hD.sub (ws' := [(q54, .inr (13, [.int 0, .int 0, .int 0, .int 0, .int 0, .int 0, .int 0, .int 0, .int 0, .int 0, .int 0, .int 0, .int 0, .int 0, .int 0, .int 0, .int 0, .int 0, .int 0, .null, .null, .null, .int 0, .int 0, .int 0, .int 0, .int 0, .int 0, .int 0, .null, .int 0, .int 0]))]) [4] (by decide) rfl
  have hKc := hK.sub (tys' := []) [] rfl
  have hFc := va_free (wc := [(q54, .inr (13, [.int 0, .int 0, .int 0, .int 0, .int 0, .int 0, .int 0, .int 0, .int 0, .int 0, .int 0, .int 0, .int 0, .int 0, .int 0, .int 0, .int 0, .int 0, .int 0, .null, .null, .null, .int 0, .int 0, .int 0, .int 0, .int 0, .int 0, .int 0, .null, .int 0, .int 0]))]) hD hS hA [4] rfl
  have hkc : 29 + 4 ≤ 68 := (Nat.le_of_ble_eq_true rfl)
  refine va_callv (va_runIN (As := []) (rest := [.ref q54, .int 1, .ref q43]) hfx (c_Pe_init l dC dI q54 H.size) ⟨(ux_cn 0 hT tw_1491 tw_1489 tw_14 rfl rfl (by decide +kernel) ⟨(Nat.le_of_ble_eq_true rfl), (Nat.le_of_ble_eq_true rfl)⟩), rfl, (ux_T_at hT tw_1490 rfl)⟩ (ux_pre [.ref q54] hT hPc hKc hDc) rfl rfl hl.1 rfl (lv_room (Nat.le_of_ble_eq_true rfl)) d_Mo_init_207 ⟨(Nat.le_of_ble_eq_true rfl), (Nat.le_of_ble_eq_true rfl)⟩) hS (fun q _ h => hFc q h) hFc (fun u t H1 locs ht hvm hw hB hz1 hk1 hS => ?_)
  obtain ⟨q56, q57, q58, q59, hP1, hK1, hD1⟩ := hB
  rw [ht] at hP1
  have hK1 := va_K.moved hvm.symm hK1
  obtain ⟨hP, hD⟩ := va_join (wr := [(h0, .inr (12, [.ref q1, .ref q3, .ref q5, .int 0, .int 0, .int 0, .int 0, .int 0, .ref q7, .ref q9, .ref q11, .ref q13, .ref q15, .int 0, .int 0, .ref q17, .ref q19, .ref q21, .ref q23, .ref q25, .ref q27, .ref q29, .ref q31, .int 0, .int 0, .ref q33, .ref q35, .ref q37, .ref q39, .ref q41, .int 0, .ref q43, .int 0, .int 0, .int 0, .int 0, .ref q45, .int 0, .int 0])), (q1, .inl (cA2, 2000, .inl (fun _ => 0))), (q3, .inl (cA4, 5718, .inl (fun _ => 0))), (q43, .inl (cA44, 9, .inr (.inr (.inr (.inr f53)))))]) (w1 := [(q54, .inr (13, [.int 0, .int 0, .int 0, .int 0, .int 0, .int 0, .int 0, .int 0, .int 0, .int 0, .int 0, .int 0, .int 0, .int 0, .int 0, .int 0, .int 0, .int 0, .int 0, .ref q56, .ref q57, .ref q58, .int 0, .int 0, .int 0, .int 0, .int 0, .int 0, .int 0, .ref q59, .int 0, .int 0]))]) hP hD [4] [0, 1, 2, 3] rfl rfl (by decide) (by decide) hk1 hFc hP1 hD1
  have hK := (hK.sub (tys' := [(cA2, .byte), (cA4, .byte), (cA6, .byte), (cA8, .byte), (cA10, .int), (cA12, .int), (cA14, .int), (cA16, .long), (cA18, .int), (cA20, .int), (cA22, .int), (cA24, .int), (cA26, .int), (cA28, .int), (cA30, .byte), (cA32, .boolean), (cA34, .byte), (cA36, .byte), (cA38, .int), (cA40, .int), (cA42, .int), (cA44, .object "UnikernelHttpModel$Peer"), (cA46, .byte)]) [0, 1, 2, 3, 4, 5, 6, 7, 8, 9, 10, 11, 12, 13, 14, 15, 16, 17, 18, 19, 20, 21, 22] rfl).app hK1
  generalize H1 = H at hP hS ⊢
  have hP : va_P (dC, dI) cls [(h0, .inr (12, [.ref q1, .ref q3, .ref q5, .int 0, .int 0, .int 0, .int 0, .int 0, .ref q7, .ref q9, .ref q11, .ref q13, .ref q15, .int 0, .int 0, .ref q17, .ref q19, .ref q21, .ref q23, .ref q25, .ref q27, .ref q29, .ref q31, .int 0, .int 0, .ref q33, .ref q35, .ref q37, .ref q39, .ref q41, .int 0, .ref q43, .int 0, .int 0, .int 0, .int 0, .ref q45, .int 0, .int 0])), (q1, .inl (cA2, 2000, .inl (fun _ => 0))), (q3, .inl (cA4, 5718, .inl (fun _ => 0))), (q43, .inl (cA44, 9, .inr (.inr (.inr (.inr f53))))), (q54, .inr (13, [.int 0, .int 0, .int 0, .int 0, .int 0, .int 0, .int 0, .int 0, .int 0, .int 0, .int 0, .int 0, .int 0, .int 0, .int 0, .int 0, .int 0, .int 0, .int 0, .ref q56, .ref q57, .ref q58, .int 0, .int 0, .int 0, .int 0, .int 0, .int 0, .int 0, .ref q59, .int 0, .int 0]))] H := hP
  have hD : va_D A [(h0, .inr (12, [.ref q1, .ref q3, .ref q5, .int 0, .int 0, .int 0, .int 0, .int 0, .ref q7, .ref q9, .ref q11, .ref q13, .ref q15, .int 0, .int 0, .ref q17, .ref q19, .ref q21, .ref q23, .ref q25, .ref q27, .ref q29, .ref q31, .int 0, .int 0, .ref q33, .ref q35, .ref q37, .ref q39, .ref q41, .int 0, .ref q43, .int 0, .int 0, .int 0, .int 0, .ref q45, .int 0, .int 0])), (q1, .inl (cA2, 2000, .inl (fun _ => 0))), (q3, .inl (cA4, 5718, .inl (fun _ => 0))), (q43, .inl (cA44, 9, .inr (.inr (.inr (.inr f53))))), (q54, .inr (13, [.int 0, .int 0, .int 0, .int 0, .int 0, .int 0, .int 0, .int 0, .int 0, .int 0, .int 0, .int 0, .int 0, .int 0, .int 0, .int 0, .int 0, .int 0, .int 0, .ref q56, .ref q57, .ref q58, .int 0, .int 0, .int 0, .int 0, .int 0, .int 0, .int 0, .ref q59, .int 0, .int 0]))] := hD
  have hK : va_K (dC, dI) cls [(cA2, .byte), (cA4, .byte), (cA6, .byte), (cA8, .byte), (cA10, .int), (cA12, .int), (cA14, .int), (cA16, .long), (cA18, .int), (cA20, .int), (cA22, .int), (cA24, .int), (cA26, .int), (cA28, .int), (cA30, .byte), (cA32, .boolean), (cA34, .byte), (cA36, .byte), (cA38, .int), (cA40, .int), (cA42, .int), (cA44, .object "UnikernelHttpModel$Peer"), (cA46, .byte)] s := hK
  refine va_astq hx hb hK hP hD hS 3 21 4 13 rfl rfl rfl rfl (show ¬ ((1 : Int32) < 0 ∨ 9 ≤ (1 : Int32).toNatClampNeg) by decide) d_Mo_init_210 (fun H locs hP hD hS => ?_)
  have hP : va_P (dC, dI) cls [(h0, .inr (12, [.ref q1, .ref q3, .ref q5, .int 0, .int 0, .int 0, .int 0, .int 0, .ref q7, .ref q9, .ref q11, .ref q13, .ref q15, .int 0, .int 0, .ref q17, .ref q19, .ref q21, .ref q23, .ref q25, .ref q27, .ref q29, .ref q31, .int 0, .int 0, .ref q33, .ref q35, .ref q37, .ref q39, .ref q41, .int 0, .ref q43, .int 0, .int 0, .int 0, .int 0, .ref q45, .int 0, .int 0])), (q1, .inl (cA2, 2000, .inl (fun _ => 0))), (q3, .inl (cA4, 5718, .inl (fun _ => 0))), (q43, .inl (cA44, 9, .inr (.inr (.inr (.inr (va_up f53 (1 : Int32).toNatClampNeg (some q54))))))), (q54, .inr (13, [.int 0, .int 0, .int 0, .int 0, .int 0, .int 0, .int 0, .int 0, .int 0, .int 0, .int 0, .int 0, .int 0, .int 0, .int 0, .int 0, .int 0, .int 0, .int 0, .ref q56, .ref q57, .ref q58, .int 0, .int 0, .int 0, .int 0, .int 0, .int 0, .int 0, .ref q59, .int 0, .int 0]))] H := hP
  have hD : va_D A [(h0, .inr (12, [.ref q1, .ref q3, .ref q5, .int 0, .int 0, .int 0, .int 0, .int 0, .ref q7, .ref q9, .ref q11, .ref q13, .ref q15, .int 0, .int 0, .ref q17, .ref q19, .ref q21, .ref q23, .ref q25, .ref q27, .ref q29, .ref q31, .int 0, .int 0, .ref q33, .ref q35, .ref q37, .ref q39, .ref q41, .int 0, .ref q43, .int 0, .int 0, .int 0, .int 0, .ref q45, .int 0, .int 0])), (q1, .inl (cA2, 2000, .inl (fun _ => 0))), (q3, .inl (cA4, 5718, .inl (fun _ => 0))), (q43, .inl (cA44, 9, .inr (.inr (.inr (.inr (va_up f53 (1 : Int32).toNatClampNeg (some q54))))))), (q54, .inr (13, [.int 0, .int 0, .int 0, .int 0, .int 0, .int 0, .int 0, .int 0, .int 0, .int 0, .int 0, .int 0, .int 0, .int 0, .int 0, .int 0, .int 0, .int 0, .int 0, .ref q56, .ref q57, .ref q58, .int 0, .int 0, .int 0, .int 0, .int 0, .int 0, .int 0, .ref q59, .int 0, .int 0]))] := hD
  generalize va_up f53 (1 : Int32).toNatClampNeg (some q54) = f60 at hP hD
  have hP := hP.sub (ws' := [(h0, .inr (12, [.ref q1, .ref q3, .ref q5, .int 0, .int 0, .int 0, .int 0, .int 0, .ref q7, .ref q9, .ref q11, .ref q13, .ref q15, .int 0, .int 0, .ref q17, .ref q19, .ref q21, .ref q23, .ref q25, .ref q27, .ref q29, .ref q31, .int 0, .int 0, .ref q33, .ref q35, .ref q37, .ref q39, .ref q41, .int 0, .ref q43, .int 0, .int 0, .int 0, .int 0, .ref q45, .int 0, .int 0])), (q1, .inl (cA2, 2000, .inl (fun _ => 0))), (q3, .inl (cA4, 5718, .inl (fun _ => 0))), (q43, .inl (cA44, 9, .inr (.inr (.inr (.inr f60)))))]) [0, 1, 2, 3] rfl
  have hD := hD.sub (ws' := [(h0, .inr (12, [.ref q1, .ref q3, .ref q5, .int 0, .int 0, .int 0, .int 0, .int 0, .ref q7, .ref q9, .ref q11, .ref q13, .ref q15, .int 0, .int 0, .ref q17, .ref q19, .ref q21, .ref q23, .ref q25, .ref q27, .ref q29, .ref q31, .int 0, .int 0, .ref q33, .ref q35, .ref q37, .ref q39, .ref q41, .int 0, .ref q43, .int 0, .int 0, .int 0, .int 0, .ref q45, .int 0, .int 0])), (q1, .inl (cA2, 2000, .inl (fun _ => 0))), (q3, .inl (cA4, 5718, .inl (fun _ => 0))), (q43, .inl (cA44, 9, .inr (.inr (.inr (.inr f60)))))]) [0, 1, 2, 3] (by decide) rfl
  refine lv_iinc (v := 2) hx hb d_Mo_init_211 hl (k := 0) rfl (by decide) (by decide) rfl (fun ls hl => ?_)
  have hl : lv_has ls 2 [(1, .int 2), (0, .ref h0)] := hl
  refine lv_goto hx hb d_Mo_init_214 (tgt := 192) (by decide) ?_
  refine lv_iload_n hx hb d_Mo_init_192 rfl (lv_at hl 0 rfl) ?_
  refine lv_bipush (v := 8) hx hb d_Mo_init_193 (by decide) ?_
  refine lv_icmp_gt (tgt := 217) hx hb d_Mo_init_195 (by decide) (fun hc => absurd hc (by decide)) (fun _ => ?_)
  refine lv_aload_n hx hb d_Mo_init_198 rfl (lv_at hl 1 rfl) ?_
  refine va_get (D := (dC, dI)) (ci := 12) (v := .ref q43) (C := R_Mo) (T := F_Mo) (N := 39) hx hb (u_Mo hT) (fun _ h => h) hown hK hP 0 rfl rfl 31 (by decide) (ux_T_at hT tw_1624 rfl) (fun _ h9 => h9) rfl d_Mo_init_199 ?_
  refine lv_iload_n hx hb d_Mo_init_202 rfl (lv_at hl 0 rfl) ?_
  refine va_new (ci := 13) (fs := [.int 0, .int 0, .int 0, .int 0, .int 0, .int 0, .int 0, .int 0, .int 0, .int 0, .int 0, .int 0, .int 0, .int 0, .int 0, .int 0, .int 0, .int 0, .int 0, .null, .null, .null, .int 0, .int 0, .int 0, .int 0, .int 0, .int 0, .int 0, .null, .int 0, .int 0]) (C := R_Pe) (T := F_Pe) (N := 32) hx hb (u_Pe hT) (fun _ h => h) t_Pe k_Pe hown (ux_T_at hT tw_1486 rfl) (ux_T_at hT tw_1488 rfl) (ux_T_at hT tw_14 rfl) hK hP hD hS hA rfl z_Pe (Nat.le_of_ble_eq_true rfl) (Nat.le_of_ble_eq_true rfl) d_Mo_init_203 (fun q61 H hP hD hS => ?_)
  have hP : va_P (dC, dI) cls [(h0, .inr (12, [.ref q1, .ref q3, .ref q5, .int 0, .int 0, .int 0, .int 0, .int 0, .ref q7, .ref q9, .ref q11, .ref q13, .ref q15, .int 0, .int 0, .ref q17, .ref q19, .ref q21, .ref q23, .ref q25, .ref q27, .ref q29, .ref q31, .int 0, .int 0, .ref q33, .ref q35, .ref q37, .ref q39, .ref q41, .int 0, .ref q43, .int 0, .int 0, .int 0, .int 0, .ref q45, .int 0, .int 0])), (q1, .inl (cA2, 2000, .inl (fun _ => 0))), (q3, .inl (cA4, 5718, .inl (fun _ => 0))), (q43, .inl (cA44, 9, .inr (.inr (.inr (.inr f60))))), (q61, .inr (13, [.int 0, .int 0, .int 0, .int 0, .int 0, .int 0, .int 0, .int 0, .int 0, .int 0, .int 0, .int 0, .int 0, .int 0, .int 0, .int 0, .int 0, .int 0, .int 0, .null, .null, .null, .int 0, .int 0, .int 0, .int 0, .int 0, .int 0, .int 0, .null, .int 0, .int 0]))] H := hP
  have hD : va_D A [(h0, .inr (12, [.ref q1, .ref q3, .ref q5, .int 0, .int 0, .int 0, .int 0, .int 0, .ref q7, .ref q9, .ref q11, .ref q13, .ref q15, .int 0, .int 0, .ref q17, .ref q19, .ref q21, .ref q23, .ref q25, .ref q27, .ref q29, .ref q31, .int 0, .int 0, .ref q33, .ref q35, .ref q37, .ref q39, .ref q41, .int 0, .ref q43, .int 0, .int 0, .int 0, .int 0, .ref q45, .int 0, .int 0])), (q1, .inl (cA2, 2000, .inl (fun _ => 0))), (q3, .inl (cA4, 5718, .inl (fun _ => 0))), (q43, .inl (cA44, 9, .inr (.inr (.inr (.inr f60))))), (q61, .inr (13, [.int 0, .int 0, .int 0, .int 0, .int 0, .int 0, .int 0, .int 0, .int 0, .int 0, .int 0, .int 0, .int 0, .int 0, .int 0, .int 0, .int 0, .int 0, .int 0, .null, .null, .null, .int 0, .int 0, .int 0, .int 0, .int 0, .int 0, .int 0, .null, .int 0, .int 0]))] := hD
  refine lv_dup hx hb d_Mo_init_206 rfl ?_
  have hPc := hP.sub (ws' := [(q61, .inr (13, [.int 0, .int 0, .int 0, .int 0, .int 0, .int 0, .int 0, .int 0, .int 0, .int 0, .int 0, .int 0, .int 0, .int 0, .int 0, .int 0, .int 0, .int 0, .int 0, .null, .null, .null, .int 0, .int 0, .int 0, .int 0, .int 0, .int 0, .int 0, .null, .int 0, .int 0]))]) [4] rfl
  have hDc := hD.sub (ws' := [(q61, .inr (13, [.int 0, .int 0, .int 0, .int 0, .int 0, .int 0, .int 0, .int 0, .int 0, .int 0, .int 0, .int 0, .int 0, .int 0, .int 0, .int 0, .int 0, .int 0, .int 0, .null, .null, .null, .int 0, .int 0, .int 0, .int 0, .int 0, .int 0, .int 0, .null, .int 0, .int 0]))]) [4] (by decide) rfl
  have hKc := hK.sub (tys' := []) [] rfl
  have hFc := va_free (wc := [(q61, .inr (13, [.int 0, .int 0, .int 0, .int 0, .int 0, .int 0, .int 0, .int 0, .int 0, .int 0, .int 0, .int 0, .int 0, .int 0, .int 0, .int 0, .int 0, .int 0, .int 0, .null, .null, .null, .int 0, .int 0, .int 0, .int 0, .int 0, .int 0, .int 0, .null, .int 0, .int 0]))]) hD hS hA [4] rfl
  have hkc : 34 + 4 ≤ 68 := (Nat.le_of_ble_eq_true rfl)
  refine va_callv (va_runIN (As := []) (rest := [.ref q61, .int 2, .ref q43]) hfx (c_Pe_init l dC dI q61 H.size) ⟨(ux_cn 0 hT tw_1491 tw_1489 tw_14 rfl rfl (by decide +kernel) ⟨(Nat.le_of_ble_eq_true rfl), (Nat.le_of_ble_eq_true rfl)⟩), rfl, (ux_T_at hT tw_1490 rfl)⟩ (ux_pre [.ref q61] hT hPc hKc hDc) rfl rfl hl.1 rfl (lv_room (Nat.le_of_ble_eq_true rfl)) d_Mo_init_207 ⟨(Nat.le_of_ble_eq_true rfl), (Nat.le_of_ble_eq_true rfl)⟩) hS (fun q _ h => hFc q h) hFc (fun u t H1 locs ht hvm hw hB hz1 hk1 hS => ?_)
  obtain ⟨q63, q64, q65, q66, hP1, hK1, hD1⟩ := hB
  rw [ht] at hP1
  have hK1 := va_K.moved hvm.symm hK1
  obtain ⟨hP, hD⟩ := va_join (wr := [(h0, .inr (12, [.ref q1, .ref q3, .ref q5, .int 0, .int 0, .int 0, .int 0, .int 0, .ref q7, .ref q9, .ref q11, .ref q13, .ref q15, .int 0, .int 0, .ref q17, .ref q19, .ref q21, .ref q23, .ref q25, .ref q27, .ref q29, .ref q31, .int 0, .int 0, .ref q33, .ref q35, .ref q37, .ref q39, .ref q41, .int 0, .ref q43, .int 0, .int 0, .int 0, .int 0, .ref q45, .int 0, .int 0])), (q1, .inl (cA2, 2000, .inl (fun _ => 0))), (q3, .inl (cA4, 5718, .inl (fun _ => 0))), (q43, .inl (cA44, 9, .inr (.inr (.inr (.inr f60)))))]) (w1 := [(q61, .inr (13, [.int 0, .int 0, .int 0, .int 0, .int 0, .int 0, .int 0, .int 0, .int 0, .int 0, .int 0, .int 0, .int 0, .int 0, .int 0, .int 0, .int 0, .int 0, .int 0, .ref q63, .ref q64, .ref q65, .int 0, .int 0, .int 0, .int 0, .int 0, .int 0, .int 0, .ref q66, .int 0, .int 0]))]) hP hD [4] [0, 1, 2, 3] rfl rfl (by decide) (by decide) hk1 hFc hP1 hD1
  have hK := (hK.sub (tys' := [(cA2, .byte), (cA4, .byte), (cA6, .byte), (cA8, .byte), (cA10, .int), (cA12, .int), (cA14, .int), (cA16, .long), (cA18, .int), (cA20, .int), (cA22, .int), (cA24, .int), (cA26, .int), (cA28, .int), (cA30, .byte), (cA32, .boolean), (cA34, .byte), (cA36, .byte), (cA38, .int), (cA40, .int), (cA42, .int), (cA44, .object "UnikernelHttpModel$Peer"), (cA46, .byte)]) [0, 1, 2, 3, 4, 5, 6, 7, 8, 9, 10, 11, 12, 13, 14, 15, 16, 17, 18, 19, 20, 21, 22] rfl).app hK1
  generalize H1 = H at hP hS ⊢
  have hP : va_P (dC, dI) cls [(h0, .inr (12, [.ref q1, .ref q3, .ref q5, .int 0, .int 0, .int 0, .int 0, .int 0, .ref q7, .ref q9, .ref q11, .ref q13, .ref q15, .int 0, .int 0, .ref q17, .ref q19, .ref q21, .ref q23, .ref q25, .ref q27, .ref q29, .ref q31, .int 0, .int 0, .ref q33, .ref q35, .ref q37, .ref q39, .ref q41, .int 0, .ref q43, .int 0, .int 0, .int 0, .int 0, .ref q45, .int 0, .int 0])), (q1, .inl (cA2, 2000, .inl (fun _ => 0))), (q3, .inl (cA4, 5718, .inl (fun _ => 0))), (q43, .inl (cA44, 9, .inr (.inr (.inr (.inr f60))))), (q61, .inr (13, [.int 0, .int 0, .int 0, .int 0, .int 0, .int 0, .int 0, .int 0, .int 0, .int 0, .int 0, .int 0, .int 0, .int 0, .int 0, .int 0, .int 0, .int 0, .int 0, .ref q63, .ref q64, .ref q65, .int 0, .int 0, .int 0, .int 0, .int 0, .int 0, .int 0, .ref q66, .int 0, .int 0]))] H := hP
  have hD : va_D A [(h0, .inr (12, [.ref q1, .ref q3, .ref q5, .int 0, .int 0, .int 0, .int 0, .int 0, .ref q7, .ref q9, .ref q11, .ref q13, .ref q15, .int 0, .int 0, .ref q17, .ref q19, .ref q21, .ref q23, .ref q25, .ref q27, .ref q29, .ref q31, .int 0, .int 0, .ref q33, .ref q35, .ref q37, .ref q39, .ref q41, .int 0, .ref q43, .int 0, .int 0, .int 0, .int 0, .ref q45, .int 0, .int 0])), (q1, .inl (cA2, 2000, .inl (fun _ => 0))), (q3, .inl (cA4, 5718, .inl (fun _ => 0))), (q43, .inl (cA44, 9, .inr (.inr (.inr (.inr f60))))), (q61, .inr (13, [.int 0, .int 0, .int 0, .int 0, .int 0, .int 0, .int 0, .int 0, .int 0, .int 0, .int 0, .int 0, .int 0, .int 0, .int 0, .int 0, .int 0, .int 0, .int 0, .ref q63, .ref q64, .ref q65, .int 0, .int 0, .int 0, .int 0, .int 0, .int 0, .int 0, .ref q66, .int 0, .int 0]))] := hD
  have hK : va_K (dC, dI) cls [(cA2, .byte), (cA4, .byte), (cA6, .byte), (cA8, .byte), (cA10, .int), (cA12, .int), (cA14, .int), (cA16, .long), (cA18, .int), (cA20, .int), (cA22, .int), (cA24, .int), (cA26, .int), (cA28, .int), (cA30, .byte), (cA32, .boolean), (cA34, .byte), (cA36, .byte), (cA38, .int), (cA40, .int), (cA42, .int), (cA44, .object "UnikernelHttpModel$Peer"), (cA46, .byte)] s := hK
  refine va_astq hx hb hK hP hD hS 3 21 4 13 rfl rfl rfl rfl (show ¬ ((2 : Int32) < 0 ∨ 9 ≤ (2 : Int32).toNatClampNeg) by decide) d_Mo_init_210 (fun H locs hP hD hS => ?_)
  have hP : va_P (dC, dI) cls [(h0, .inr (12, [.ref q1, .ref q3, .ref q5, .int 0, .int 0, .int 0, .int 0, .int 0, .ref q7, .ref q9, .ref q11, .ref q13, .ref q15, .int 0, .int 0, .ref q17, .ref q19, .ref q21, .ref q23, .ref q25, .ref q27, .ref q29, .ref q31, .int 0, .int 0, .ref q33, .ref q35, .ref q37, .ref q39, .ref q41, .int 0, .ref q43, .int 0, .int 0, .int 0, .int 0, .ref q45, .int 0, .int 0])), (q1, .inl (cA2, 2000, .inl (fun _ => 0))), (q3, .inl (cA4, 5718, .inl (fun _ => 0))), (q43, .inl (cA44, 9, .inr (.inr (.inr (.inr (va_up f60 (2 : Int32).toNatClampNeg (some q61))))))), (q61, .inr (13, [.int 0, .int 0, .int 0, .int 0, .int 0, .int 0, .int 0, .int 0, .int 0, .int 0, .int 0, .int 0, .int 0, .int 0, .int 0, .int 0, .int 0, .int 0, .int 0, .ref q63, .ref q64, .ref q65, .int 0, .int 0, .int 0, .int 0, .int 0, .int 0, .int 0, .ref q66, .int 0, .int 0]))] H := hP
  have hD : va_D A [(h0, .inr (12, [.ref q1, .ref q3, .ref q5, .int 0, .int 0, .int 0, .int 0, .int 0, .ref q7, .ref q9, .ref q11, .ref q13, .ref q15, .int 0, .int 0, .ref q17, .ref q19, .ref q21, .ref q23, .ref q25, .ref q27, .ref q29, .ref q31, .int 0, .int 0, .ref q33, .ref q35, .ref q37, .ref q39, .ref q41, .int 0, .ref q43, .int 0, .int 0, .int 0, .int 0, .ref q45, .int 0, .int 0])), (q1, .inl (cA2, 2000, .inl (fun _ => 0))), (q3, .inl (cA4, 5718, .inl (fun _ => 0))), (q43, .inl (cA44, 9, .inr (.inr (.inr (.inr (va_up f60 (2 : Int32).toNatClampNeg (some q61))))))), (q61, .inr (13, [.int 0, .int 0, .int 0, .int 0, .int 0, .int 0, .int 0, .int 0, .int 0, .int 0, .int 0, .int 0, .int 0, .int 0, .int 0, .int 0, .int 0, .int 0, .int 0, .ref q63, .ref q64, .ref q65, .int 0, .int 0, .int 0, .int 0, .int 0, .int 0, .int 0, .ref q66, .int 0, .int 0]))] := hD
  generalize va_up f60 (2 : Int32).toNatClampNeg (some q61) = f67 at hP hD
  have hP := hP.sub (ws' := [(h0, .inr (12, [.ref q1, .ref q3, .ref q5, .int 0, .int 0, .int 0, .int 0, .int 0, .ref q7, .ref q9, .ref q11, .ref q13, .ref q15, .int 0, .int 0, .ref q17, .ref q19, .ref q21, .ref q23, .ref q25, .ref q27, .ref q29, .ref q31, .int 0, .int 0, .ref q33, .ref q35, .ref q37, .ref q39, .ref q41, .int 0, .ref q43, .int 0, .int 0, .int 0, .int 0, .ref q45, .int 0, .int 0])), (q1, .inl (cA2, 2000, .inl (fun _ => 0))), (q3, .inl (cA4, 5718, .inl (fun _ => 0))), (q43, .inl (cA44, 9, .inr (.inr (.inr (.inr f67)))))]) [0, 1, 2, 3] rfl
  have hD := hD.sub (ws' := [(h0, .inr (12, [.ref q1, .ref q3, .ref q5, .int 0, .int 0, .int 0, .int 0, .int 0, .ref q7, .ref q9, .ref q11, .ref q13, .ref q15, .int 0, .int 0, .ref q17, .ref q19, .ref q21, .ref q23, .ref q25, .ref q27, .ref q29, .ref q31, .int 0, .int 0, .ref q33, .ref q35, .ref q37, .ref q39, .ref q41, .int 0, .ref q43, .int 0, .int 0, .int 0, .int 0, .ref q45, .int 0, .int 0])), (q1, .inl (cA2, 2000, .inl (fun _ => 0))), (q3, .inl (cA4, 5718, .inl (fun _ => 0))), (q43, .inl (cA44, 9, .inr (.inr (.inr (.inr f67)))))]) [0, 1, 2, 3] (by decide) rfl
  refine lv_iinc (v := 3) hx hb d_Mo_init_211 hl (k := 0) rfl (by decide) (by decide) rfl (fun ls hl => ?_)
  have hl : lv_has ls 2 [(1, .int 3), (0, .ref h0)] := hl
  refine lv_goto hx hb d_Mo_init_214 (tgt := 192) (by decide) ?_
  refine lv_iload_n hx hb d_Mo_init_192 rfl (lv_at hl 0 rfl) ?_
  refine lv_bipush (v := 8) hx hb d_Mo_init_193 (by decide) ?_
  refine lv_icmp_gt (tgt := 217) hx hb d_Mo_init_195 (by decide) (fun hc => absurd hc (by decide)) (fun _ => ?_)
  refine lv_aload_n hx hb d_Mo_init_198 rfl (lv_at hl 1 rfl) ?_
  refine va_get (D := (dC, dI)) (ci := 12) (v := .ref q43) (C := R_Mo) (T := F_Mo) (N := 39) hx hb (u_Mo hT) (fun _ h => h) hown hK hP 0 rfl rfl 31 (by decide) (ux_T_at hT tw_1624 rfl) (fun _ h9 => h9) rfl d_Mo_init_199 ?_
  refine lv_iload_n hx hb d_Mo_init_202 rfl (lv_at hl 0 rfl) ?_
  refine va_new (ci := 13) (fs := [.int 0, .int 0, .int 0, .int 0, .int 0, .int 0, .int 0, .int 0, .int 0, .int 0, .int 0, .int 0, .int 0, .int 0, .int 0, .int 0, .int 0, .int 0, .int 0, .null, .null, .null, .int 0, .int 0, .int 0, .int 0, .int 0, .int 0, .int 0, .null, .int 0, .int 0]) (C := R_Pe) (T := F_Pe) (N := 32) hx hb (u_Pe hT) (fun _ h => h) t_Pe k_Pe hown (ux_T_at hT tw_1486 rfl) (ux_T_at hT tw_1488 rfl) (ux_T_at hT tw_14 rfl) hK hP hD hS hA rfl z_Pe (Nat.le_of_ble_eq_true rfl) (Nat.le_of_ble_eq_true rfl) d_Mo_init_203 (fun q68 H hP hD hS => ?_)
  have hP : va_P (dC, dI) cls [(h0, .inr (12, [.ref q1, .ref q3, .ref q5, .int 0, .int 0, .int 0, .int 0, .int 0, .ref q7, .ref q9, .ref q11, .ref q13, .ref q15, .int 0, .int 0, .ref q17, .ref q19, .ref q21, .ref q23, .ref q25, .ref q27, .ref q29, .ref q31, .int 0, .int 0, .ref q33, .ref q35, .ref q37, .ref q39, .ref q41, .int 0, .ref q43, .int 0, .int 0, .int 0, .int 0, .ref q45, .int 0, .int 0])), (q1, .inl (cA2, 2000, .inl (fun _ => 0))), (q3, .inl (cA4, 5718, .inl (fun _ => 0))), (q43, .inl (cA44, 9, .inr (.inr (.inr (.inr f67))))), (q68, .inr (13, [.int 0, .int 0, .int 0, .int 0, .int 0, .int 0, .int 0, .int 0, .int 0, .int 0, .int 0, .int 0, .int 0, .int 0, .int 0, .int 0, .int 0, .int 0, .int 0, .null, .null, .null, .int 0, .int 0, .int 0, .int 0, .int 0, .int 0, .int 0, .null, .int 0, .int 0]))] H := hP
  have hD : va_D A [(h0, .inr (12, [.ref q1, .ref q3, .ref q5, .int 0, .int 0, .int 0, .int 0, .int 0, .ref q7, .ref q9, .ref q11, .ref q13, .ref q15, .int 0, .int 0, .ref q17, .ref q19, .ref q21, .ref q23, .ref q25, .ref q27, .ref q29, .ref q31, .int 0, .int 0, .ref q33, .ref q35, .ref q37, .ref q39, .ref q41, .int 0, .ref q43, .int 0, .int 0, .int 0, .int 0, .ref q45, .int 0, .int 0])), (q1, .inl (cA2, 2000, .inl (fun _ => 0))), (q3, .inl (cA4, 5718, .inl (fun _ => 0))), (q43, .inl (cA44, 9, .inr (.inr (.inr (.inr f67))))), (q68, .inr (13, [.int 0, .int 0, .int 0, .int 0, .int 0, .int 0, .int 0, .int 0, .int 0, .int 0, .int 0, .int 0, .int 0, .int 0, .int 0, .int 0, .int 0, .int 0, .int 0, .null, .null, .null, .int 0, .int 0, .int 0, .int 0, .int 0, .int 0, .int 0, .null, .int 0, .int 0]))] := hD
  refine lv_dup hx hb d_Mo_init_206 rfl ?_
  have hPc := hP.sub (ws' := [(q68, .inr (13, [.int 0, .int 0, .int 0, .int 0, .int 0, .int 0, .int 0, .int 0, .int 0, .int 0, .int 0, .int 0, .int 0, .int 0, .int 0, .int 0, .int 0, .int 0, .int 0, .null, .null, .null, .int 0, .int 0, .int 0, .int 0, .int 0, .int 0, .int 0, .null, .int 0, .int 0]))]) [4] rfl
  have hDc := hD.sub (ws' := [(q68, .inr (13, [.int 0, .int 0, .int 0, .int 0, .int 0, .int 0, .int 0, .int 0, .int 0, .int 0, .int 0, .int 0, .int 0, .int 0, .int 0, .int 0, .int 0, .int 0, .int 0, .null, .null, .null, .int 0, .int 0, .int 0, .int 0, .int 0, .int 0, .int 0, .null, .int 0, .int 0]))]) [4] (by decide) rfl
  have hKc := hK.sub (tys' := []) [] rfl
  have hFc := va_free (wc := [(q68, .inr (13, [.int 0, .int 0, .int 0, .int 0, .int 0, .int 0, .int 0, .int 0, .int 0, .int 0, .int 0, .int 0, .int 0, .int 0, .int 0, .int 0, .int 0, .int 0, .int 0, .null, .null, .null, .int 0, .int 0, .int 0, .int 0, .int 0, .int 0, .int 0, .null, .int 0, .int 0]))]) hD hS hA [4] rfl
  have hkc : 39 + 4 ≤ 68 := (Nat.le_of_ble_eq_true rfl)
  refine va_callv (va_runIN (As := []) (rest := [.ref q68, .int 3, .ref q43]) hfx (c_Pe_init l dC dI q68 H.size) ⟨(ux_cn 0 hT tw_1491 tw_1489 tw_14 rfl rfl (by decide +kernel) ⟨(Nat.le_of_ble_eq_true rfl), (Nat.le_of_ble_eq_true rfl)⟩), rfl, (ux_T_at hT tw_1490 rfl)⟩ (ux_pre [.ref q68] hT hPc hKc hDc) rfl rfl hl.1 rfl (lv_room (Nat.le_of_ble_eq_true rfl)) d_Mo_init_207 ⟨(Nat.le_of_ble_eq_true rfl), (Nat.le_of_ble_eq_true rfl)⟩) hS (fun q _ h => hFc q h) hFc (fun u t H1 locs ht hvm hw hB hz1 hk1 hS => ?_)
  obtain ⟨q70, q71, q72, q73, hP1, hK1, hD1⟩ := hB
  rw [ht] at hP1
  have hK1 := va_K.moved hvm.symm hK1
  obtain ⟨hP, hD⟩ := va_join (wr := [(h0, .inr (12, [.ref q1, .ref q3, .ref q5, .int 0, .int 0, .int 0, .int 0, .int 0, .ref q7, .ref q9, .ref q11, .ref q13, .ref q15, .int 0, .int 0, .ref q17, .ref q19, .ref q21, .ref q23, .ref q25, .ref q27, .ref q29, .ref q31, .int 0, .int 0, .ref q33, .ref q35, .ref q37, .ref q39, .ref q41, .int 0, .ref q43, .int 0, .int 0, .int 0, .int 0, .ref q45, .int 0, .int 0])), (q1, .inl (cA2, 2000, .inl (fun _ => 0))), (q3, .inl (cA4, 5718, .inl (fun _ => 0))), (q43, .inl (cA44, 9, .inr (.inr (.inr (.inr f67)))))]) (w1 := [(q68, .inr (13, [.int 0, .int 0, .int 0, .int 0, .int 0, .int 0, .int 0, .int 0, .int 0, .int 0, .int 0, .int 0, .int 0, .int 0, .int 0, .int 0, .int 0, .int 0, .int 0, .ref q70, .ref q71, .ref q72, .int 0, .int 0, .int 0, .int 0, .int 0, .int 0, .int 0, .ref q73, .int 0, .int 0]))]) hP hD [4] [0, 1, 2, 3] rfl rfl (by decide) (by decide) hk1 hFc hP1 hD1
  have hK := (hK.sub (tys' := [(cA2, .byte), (cA4, .byte), (cA6, .byte), (cA8, .byte), (cA10, .int), (cA12, .int), (cA14, .int), (cA16, .long), (cA18, .int), (cA20, .int), (cA22, .int), (cA24, .int), (cA26, .int), (cA28, .int), (cA30, .byte), (cA32, .boolean), (cA34, .byte), (cA36, .byte), (cA38, .int), (cA40, .int), (cA42, .int), (cA44, .object "UnikernelHttpModel$Peer"), (cA46, .byte)]) [0, 1, 2, 3, 4, 5, 6, 7, 8, 9, 10, 11, 12, 13, 14, 15, 16, 17, 18, 19, 20, 21, 22] rfl).app hK1
  generalize H1 = H at hP hS ⊢
  have hP : va_P (dC, dI) cls [(h0, .inr (12, [.ref q1, .ref q3, .ref q5, .int 0, .int 0, .int 0, .int 0, .int 0, .ref q7, .ref q9, .ref q11, .ref q13, .ref q15, .int 0, .int 0, .ref q17, .ref q19, .ref q21, .ref q23, .ref q25, .ref q27, .ref q29, .ref q31, .int 0, .int 0, .ref q33, .ref q35, .ref q37, .ref q39, .ref q41, .int 0, .ref q43, .int 0, .int 0, .int 0, .int 0, .ref q45, .int 0, .int 0])), (q1, .inl (cA2, 2000, .inl (fun _ => 0))), (q3, .inl (cA4, 5718, .inl (fun _ => 0))), (q43, .inl (cA44, 9, .inr (.inr (.inr (.inr f67))))), (q68, .inr (13, [.int 0, .int 0, .int 0, .int 0, .int 0, .int 0, .int 0, .int 0, .int 0, .int 0, .int 0, .int 0, .int 0, .int 0, .int 0, .int 0, .int 0, .int 0, .int 0, .ref q70, .ref q71, .ref q72, .int 0, .int 0, .int 0, .int 0, .int 0, .int 0, .int 0, .ref q73, .int 0, .int 0]))] H := hP
  have hD : va_D A [(h0, .inr (12, [.ref q1, .ref q3, .ref q5, .int 0, .int 0, .int 0, .int 0, .int 0, .ref q7, .ref q9, .ref q11, .ref q13, .ref q15, .int 0, .int 0, .ref q17, .ref q19, .ref q21, .ref q23, .ref q25, .ref q27, .ref q29, .ref q31, .int 0, .int 0, .ref q33, .ref q35, .ref q37, .ref q39, .ref q41, .int 0, .ref q43, .int 0, .int 0, .int 0, .int 0, .ref q45, .int 0, .int 0])), (q1, .inl (cA2, 2000, .inl (fun _ => 0))), (q3, .inl (cA4, 5718, .inl (fun _ => 0))), (q43, .inl (cA44, 9, .inr (.inr (.inr (.inr f67))))), (q68, .inr (13, [.int 0, .int 0, .int 0, .int 0, .int 0, .int 0, .int 0, .int 0, .int 0, .int 0, .int 0, .int 0, .int 0, .int 0, .int 0, .int 0, .int 0, .int 0, .int 0, .ref q70, .ref q71, .ref q72, .int 0, .int 0, .int 0, .int 0, .int 0, .int 0, .int 0, .ref q73, .int 0, .int 0]))] := hD
  have hK : va_K (dC, dI) cls [(cA2, .byte), (cA4, .byte), (cA6, .byte), (cA8, .byte), (cA10, .int), (cA12, .int), (cA14, .int), (cA16, .long), (cA18, .int), (cA20, .int), (cA22, .int), (cA24, .int), (cA26, .int), (cA28, .int), (cA30, .byte), (cA32, .boolean), (cA34, .byte), (cA36, .byte), (cA38, .int), (cA40, .int), (cA42, .int), (cA44, .object "UnikernelHttpModel$Peer"), (cA46, .byte)] s := hK
  refine va_astq hx hb hK hP hD hS 3 21 4 13 rfl rfl rfl rfl (show ¬ ((3 : Int32) < 0 ∨ 9 ≤ (3 : Int32).toNatClampNeg) by decide) d_Mo_init_210 (fun H locs hP hD hS => ?_)
  have hP : va_P (dC, dI) cls [(h0, .inr (12, [.ref q1, .ref q3, .ref q5, .int 0, .int 0, .int 0, .int 0, .int 0, .ref q7, .ref q9, .ref q11, .ref q13, .ref q15, .int 0, .int 0, .ref q17, .ref q19, .ref q21, .ref q23, .ref q25, .ref q27, .ref q29, .ref q31, .int 0, .int 0, .ref q33, .ref q35, .ref q37, .ref q39, .ref q41, .int 0, .ref q43, .int 0, .int 0, .int 0, .int 0, .ref q45, .int 0, .int 0])), (q1, .inl (cA2, 2000, .inl (fun _ => 0))), (q3, .inl (cA4, 5718, .inl (fun _ => 0))), (q43, .inl (cA44, 9, .inr (.inr (.inr (.inr (va_up f67 (3 : Int32).toNatClampNeg (some q68))))))), (q68, .inr (13, [.int 0, .int 0, .int 0, .int 0, .int 0, .int 0, .int 0, .int 0, .int 0, .int 0, .int 0, .int 0, .int 0, .int 0, .int 0, .int 0, .int 0, .int 0, .int 0, .ref q70, .ref q71, .ref q72, .int 0, .int 0, .int 0, .int 0, .int 0, .int 0, .int 0, .ref q73, .int 0, .int 0]))] H := hP
  have hD : va_D A [(h0, .inr (12, [.ref q1, .ref q3, .ref q5, .int 0, .int 0, .int 0, .int 0, .int 0, .ref q7, .ref q9, .ref q11, .ref q13, .ref q15, .int 0, .int 0, .ref q17, .ref q19, .ref q21, .ref q23, .ref q25, .ref q27, .ref q29, .ref q31, .int 0, .int 0, .ref q33, .ref q35, .ref q37, .ref q39, .ref q41, .int 0, .ref q43, .int 0, .int 0, .int 0, .int 0, .ref q45, .int 0, .int 0])), (q1, .inl (cA2, 2000, .inl (fun _ => 0))), (q3, .inl (cA4, 5718, .inl (fun _ => 0))), (q43, .inl (cA44, 9, .inr (.inr (.inr (.inr (va_up f67 (3 : Int32).toNatClampNeg (some q68))))))), (q68, .inr (13, [.int 0, .int 0, .int 0, .int 0, .int 0, .int 0, .int 0, .int 0, .int 0, .int 0, .int 0, .int 0, .int 0, .int 0, .int 0, .int 0, .int 0, .int 0, .int 0, .ref q70, .ref q71, .ref q72, .int 0, .int 0, .int 0, .int 0, .int 0, .int 0, .int 0, .ref q73, .int 0, .int 0]))] := hD
  generalize va_up f67 (3 : Int32).toNatClampNeg (some q68) = f74 at hP hD
  have hP := hP.sub (ws' := [(h0, .inr (12, [.ref q1, .ref q3, .ref q5, .int 0, .int 0, .int 0, .int 0, .int 0, .ref q7, .ref q9, .ref q11, .ref q13, .ref q15, .int 0, .int 0, .ref q17, .ref q19, .ref q21, .ref q23, .ref q25, .ref q27, .ref q29, .ref q31, .int 0, .int 0, .ref q33, .ref q35, .ref q37, .ref q39, .ref q41, .int 0, .ref q43, .int 0, .int 0, .int 0, .int 0, .ref q45, .int 0, .int 0])), (q1, .inl (cA2, 2000, .inl (fun _ => 0))), (q3, .inl (cA4, 5718, .inl (fun _ => 0))), (q43, .inl (cA44, 9, .inr (.inr (.inr (.inr f74)))))]) [0, 1, 2, 3] rfl
  have hD := hD.sub (ws' := [(h0, .inr (12, [.ref q1, .ref q3, .ref q5, .int 0, .int 0, .int 0, .int 0, .int 0, .ref q7, .ref q9, .ref q11, .ref q13, .ref q15, .int 0, .int 0, .ref q17, .ref q19, .ref q21, .ref q23, .ref q25, .ref q27, .ref q29, .ref q31, .int 0, .int 0, .ref q33, .ref q35, .ref q37, .ref q39, .ref q41, .int 0, .ref q43, .int 0, .int 0, .int 0, .int 0, .ref q45, .int 0, .int 0])), (q1, .inl (cA2, 2000, .inl (fun _ => 0))), (q3, .inl (cA4, 5718, .inl (fun _ => 0))), (q43, .inl (cA44, 9, .inr (.inr (.inr (.inr f74)))))]) [0, 1, 2, 3] (by decide) rfl
  refine lv_iinc (v := 4) hx hb d_Mo_init_211 hl (k := 0) rfl (by decide) (by decide) rfl (fun ls hl => ?_)
  have hl : lv_has ls 2 [(1, .int 4), (0, .ref h0)] := hl
  refine lv_goto hx hb d_Mo_init_214 (tgt := 192) (by decide) ?_
  refine lv_iload_n hx hb d_Mo_init_192 rfl (lv_at hl 0 rfl) ?_
  refine lv_bipush (v := 8) hx hb d_Mo_init_193 (by decide) ?_
  refine lv_icmp_gt (tgt := 217) hx hb d_Mo_init_195 (by decide) (fun hc => absurd hc (by decide)) (fun _ => ?_)
  refine lv_aload_n hx hb d_Mo_init_198 rfl (lv_at hl 1 rfl) ?_
  refine va_get (D := (dC, dI)) (ci := 12) (v := .ref q43) (C := R_Mo) (T := F_Mo) (N := 39) hx hb (u_Mo hT) (fun _ h => h) hown hK hP 0 rfl rfl 31 (by decide) (ux_T_at hT tw_1624 rfl) (fun _ h9 => h9) rfl d_Mo_init_199 ?_
  refine lv_iload_n hx hb d_Mo_init_202 rfl (lv_at hl 0 rfl) ?_
  refine va_new (ci := 13) (fs := [.int 0, .int 0, .int 0, .int 0, .int 0, .int 0, .int 0, .int 0, .int 0, .int 0, .int 0, .int 0, .int 0, .int 0, .int 0, .int 0, .int 0, .int 0, .int 0, .null, .null, .null, .int 0, .int 0, .int 0, .int 0, .int 0, .int 0, .int 0, .null, .int 0, .int 0]) (C := R_Pe) (T := F_Pe) (N := 32) hx hb (u_Pe hT) (fun _ h => h) t_Pe k_Pe hown (ux_T_at hT tw_1486 rfl) (ux_T_at hT tw_1488 rfl) (ux_T_at hT tw_14 rfl) hK hP hD hS hA rfl z_Pe (Nat.le_of_ble_eq_true rfl) (Nat.le_of_ble_eq_true rfl) d_Mo_init_203 (fun q75 H hP hD hS => ?_)
  have hP : va_P (dC, dI) cls [(h0, .inr (12, [.ref q1, .ref q3, .ref q5, .int 0, .int 0, .int 0, .int 0, .int 0, .ref q7, .ref q9, .ref q11, .ref q13, .ref q15, .int 0, .int 0, .ref q17, .ref q19, .ref q21, .ref q23, .ref q25, .ref q27, .ref q29, .ref q31, .int 0, .int 0, .ref q33, .ref q35, .ref q37, .ref q39, .ref q41, .int 0, .ref q43, .int 0, .int 0, .int 0, .int 0, .ref q45, .int 0, .int 0])), (q1, .inl (cA2, 2000, .inl (fun _ => 0))), (q3, .inl (cA4, 5718, .inl (fun _ => 0))), (q43, .inl (cA44, 9, .inr (.inr (.inr (.inr f74))))), (q75, .inr (13, [.int 0, .int 0, .int 0, .int 0, .int 0, .int 0, .int 0, .int 0, .int 0, .int 0, .int 0, .int 0, .int 0, .int 0, .int 0, .int 0, .int 0, .int 0, .int 0, .null, .null, .null, .int 0, .int 0, .int 0, .int 0, .int 0, .int 0, .int 0, .null, .int 0, .int 0]))] H := hP
  have hD : va_D A [(h0, .inr (12, [.ref q1, .ref q3, .ref q5, .int 0, .int 0, .int 0, .int 0, .int 0, .ref q7, .ref q9, .ref q11, .ref q13, .ref q15, .int 0, .int 0, .ref q17, .ref q19, .ref q21, .ref q23, .ref q25, .ref q27, .ref q29, .ref q31, .int 0, .int 0, .ref q33, .ref q35, .ref q37, .ref q39, .ref q41, .int 0, .ref q43, .int 0, .int 0, .int 0, .int 0, .ref q45, .int 0, .int 0])), (q1, .inl (cA2, 2000, .inl (fun _ => 0))), (q3, .inl (cA4, 5718, .inl (fun _ => 0))), (q43, .inl (cA44, 9, .inr (.inr (.inr (.inr f74))))), (q75, .inr (13, [.int 0, .int 0, .int 0, .int 0, .int 0, .int 0, .int 0, .int 0, .int 0, .int 0, .int 0, .int 0, .int 0, .int 0, .int 0, .int 0, .int 0, .int 0, .int 0, .null, .null, .null, .int 0, .int 0, .int 0, .int 0, .int 0, .int 0, .int 0, .null, .int 0, .int 0]))] := hD
  refine lv_dup hx hb d_Mo_init_206 rfl ?_
  have hPc := hP.sub (ws' := [(q75, .inr (13, [.int 0, .int 0, .int 0, .int 0, .int 0, .int 0, .int 0, .int 0, .int 0, .int 0, .int 0, .int 0, .int 0, .int 0, .int 0, .int 0, .int 0, .int 0, .int 0, .null, .null, .null, .int 0, .int 0, .int 0, .int 0, .int 0, .int 0, .int 0, .null, .int 0, .int 0]))]) [4] rfl
  have hDc := hD.sub (ws' := [(q75, .inr (13, [.int 0, .int 0, .int 0, .int 0, .int 0, .int 0, .int 0, .int 0, .int 0, .int 0, .int 0, .int 0, .int 0, .int 0, .int 0, .int 0, .int 0, .int 0, .int 0, .null, .null, .null, .int 0, .int 0, .int 0, .int 0, .int 0, .int 0, .int 0, .null, .int 0, .int 0]))]) [4] (by decide) rfl
  have hKc := hK.sub (tys' := []) [] rfl
  have hFc := va_free (wc := [(q75, .inr (13, [.int 0, .int 0, .int 0, .int 0, .int 0, .int 0, .int 0, .int 0, .int 0, .int 0, .int 0, .int 0, .int 0, .int 0, .int 0, .int 0, .int 0, .int 0, .int 0, .null, .null, .null, .int 0, .int 0, .int 0, .int 0, .int 0, .int 0, .int 0, .null, .int 0, .int 0]))]) hD hS hA [4] rfl
  have hkc : 44 + 4 ≤ 68 := (Nat.le_of_ble_eq_true rfl)
  refine va_callv (va_runIN (As := []) (rest := [.ref q75, .int 4, .ref q43]) hfx (c_Pe_init l dC dI q75 H.size) ⟨(ux_cn 0 hT tw_1491 tw_1489 tw_14 rfl rfl (by decide +kernel) ⟨(Nat.le_of_ble_eq_true rfl), (Nat.le_of_ble_eq_true rfl)⟩), rfl, (ux_T_at hT tw_1490 rfl)⟩ (ux_pre [.ref q75] hT hPc hKc hDc) rfl rfl hl.1 rfl (lv_room (Nat.le_of_ble_eq_true rfl)) d_Mo_init_207 ⟨(Nat.le_of_ble_eq_true rfl), (Nat.le_of_ble_eq_true rfl)⟩) hS (fun q _ h => hFc q h) hFc (fun u t H1 locs ht hvm hw hB hz1 hk1 hS => ?_)
  obtain ⟨q77, q78, q79, q80, hP1, hK1, hD1⟩ := hB
  rw [ht] at hP1
  have hK1 := va_K.moved hvm.symm hK1
  obtain ⟨hP, hD⟩ := va_join (wr := [(h0, .inr (12, [.ref q1, .ref q3, .ref q5, .int 0, .int 0, .int 0, .int 0, .int 0, .ref q7, .ref q9, .ref q11, .ref q13, .ref q15, .int 0, .int 0, .ref q17, .ref q19, .ref q21, .ref q23, .ref q25, .ref q27, .ref q29, .ref q31, .int 0, .int 0, .ref q33, .ref q35, .ref q37, .ref q39, .ref q41, .int 0, .ref q43, .int 0, .int 0, .int 0, .int 0, .ref q45, .int 0, .int 0])), (q1, .inl (cA2, 2000, .inl (fun _ => 0))), (q3, .inl (cA4, 5718, .inl (fun _ => 0))), (q43, .inl (cA44, 9, .inr (.inr (.inr (.inr f74)))))]) (w1 := [(q75, .inr (13, [.int 0, .int 0, .int 0, .int 0, .int 0, .int 0, .int 0, .int 0, .int 0, .int 0, .int 0, .int 0, .int 0, .int 0, .int 0, .int 0, .int 0, .int 0, .int 0, .ref q77, .ref q78, .ref q79, .int 0, .int 0, .int 0, .int 0, .int 0, .int 0, .int 0, .ref q80, .int 0, .int 0]))]) hP hD [4] [0, 1, 2, 3] rfl rfl (by decide) (by decide) hk1 hFc hP1 hD1
  have hK := (hK.sub (tys' := [(cA2, .byte), (cA4, .byte), (cA6, .byte), (cA8, .byte), (cA10, .int), (cA12, .int), (cA14, .int), (cA16, .long), (cA18, .int), (cA20, .int), (cA22, .int), (cA24, .int), (cA26, .int), (cA28, .int), (cA30, .byte), (cA32, .boolean), (cA34, .byte), (cA36, .byte), (cA38, .int), (cA40, .int), (cA42, .int), (cA44, .object "UnikernelHttpModel$Peer"), (cA46, .byte)]) [0, 1, 2, 3, 4, 5, 6, 7, 8, 9, 10, 11, 12, 13, 14, 15, 16, 17, 18, 19, 20, 21, 22] rfl).app hK1
  generalize H1 = H at hP hS ⊢
  have hP : va_P (dC, dI) cls [(h0, .inr (12, [.ref q1, .ref q3, .ref q5, .int 0, .int 0, .int 0, .int 0, .int 0, .ref q7, .ref q9, .ref q11, .ref q13, .ref q15, .int 0, .int 0, .ref q17, .ref q19, .ref q21, .ref q23, .ref q25, .ref q27, .ref q29, .ref q31, .int 0, .int 0, .ref q33, .ref q35, .ref q37, .ref q39, .ref q41, .int 0, .ref q43, .int 0, .int 0, .int 0, .int 0, .ref q45, .int 0, .int 0])), (q1, .inl (cA2, 2000, .inl (fun _ => 0))), (q3, .inl (cA4, 5718, .inl (fun _ => 0))), (q43, .inl (cA44, 9, .inr (.inr (.inr (.inr f74))))), (q75, .inr (13, [.int 0, .int 0, .int 0, .int 0, .int 0, .int 0, .int 0, .int 0, .int 0, .int 0, .int 0, .int 0, .int 0, .int 0, .int 0, .int 0, .int 0, .int 0, .int 0, .ref q77, .ref q78, .ref q79, .int 0, .int 0, .int 0, .int 0, .int 0, .int 0, .int 0, .ref q80, .int 0, .int 0]))] H := hP
  have hD : va_D A [(h0, .inr (12, [.ref q1, .ref q3, .ref q5, .int 0, .int 0, .int 0, .int 0, .int 0, .ref q7, .ref q9, .ref q11, .ref q13, .ref q15, .int 0, .int 0, .ref q17, .ref q19, .ref q21, .ref q23, .ref q25, .ref q27, .ref q29, .ref q31, .int 0, .int 0, .ref q33, .ref q35, .ref q37, .ref q39, .ref q41, .int 0, .ref q43, .int 0, .int 0, .int 0, .int 0, .ref q45, .int 0, .int 0])), (q1, .inl (cA2, 2000, .inl (fun _ => 0))), (q3, .inl (cA4, 5718, .inl (fun _ => 0))), (q43, .inl (cA44, 9, .inr (.inr (.inr (.inr f74))))), (q75, .inr (13, [.int 0, .int 0, .int 0, .int 0, .int 0, .int 0, .int 0, .int 0, .int 0, .int 0, .int 0, .int 0, .int 0, .int 0, .int 0, .int 0, .int 0, .int 0, .int 0, .ref q77, .ref q78, .ref q79, .int 0, .int 0, .int 0, .int 0, .int 0, .int 0, .int 0, .ref q80, .int 0, .int 0]))] := hD
  have hK : va_K (dC, dI) cls [(cA2, .byte), (cA4, .byte), (cA6, .byte), (cA8, .byte), (cA10, .int), (cA12, .int), (cA14, .int), (cA16, .long), (cA18, .int), (cA20, .int), (cA22, .int), (cA24, .int), (cA26, .int), (cA28, .int), (cA30, .byte), (cA32, .boolean), (cA34, .byte), (cA36, .byte), (cA38, .int), (cA40, .int), (cA42, .int), (cA44, .object "UnikernelHttpModel$Peer"), (cA46, .byte)] s := hK
  refine va_astq hx hb hK hP hD hS 3 21 4 13 rfl rfl rfl rfl (show ¬ ((4 : Int32) < 0 ∨ 9 ≤ (4 : Int32).toNatClampNeg) by decide) d_Mo_init_210 (fun H locs hP hD hS => ?_)
  have hP : va_P (dC, dI) cls [(h0, .inr (12, [.ref q1, .ref q3, .ref q5, .int 0, .int 0, .int 0, .int 0, .int 0, .ref q7, .ref q9, .ref q11, .ref q13, .ref q15, .int 0, .int 0, .ref q17, .ref q19, .ref q21, .ref q23, .ref q25, .ref q27, .ref q29, .ref q31, .int 0, .int 0, .ref q33, .ref q35, .ref q37, .ref q39, .ref q41, .int 0, .ref q43, .int 0, .int 0, .int 0, .int 0, .ref q45, .int 0, .int 0])), (q1, .inl (cA2, 2000, .inl (fun _ => 0))), (q3, .inl (cA4, 5718, .inl (fun _ => 0))), (q43, .inl (cA44, 9, .inr (.inr (.inr (.inr (va_up f74 (4 : Int32).toNatClampNeg (some q75))))))), (q75, .inr (13, [.int 0, .int 0, .int 0, .int 0, .int 0, .int 0, .int 0, .int 0, .int 0, .int 0, .int 0, .int 0, .int 0, .int 0, .int 0, .int 0, .int 0, .int 0, .int 0, .ref q77, .ref q78, .ref q79, .int 0, .int 0, .int 0, .int 0, .int 0, .int 0, .int 0, .ref q80, .int 0, .int 0]))] H := hP
  have hD : va_D A [(h0, .inr (12, [.ref q1, .ref q3, .ref q5, .int 0, .int 0, .int 0, .int 0, .int 0, .ref q7, .ref q9, .ref q11, .ref q13, .ref q15, .int 0, .int 0, .ref q17, .ref q19, .ref q21, .ref q23, .ref q25, .ref q27, .ref q29, .ref q31, .int 0, .int 0, .ref q33, .ref q35, .ref q37, .ref q39, .ref q41, .int 0, .ref q43, .int 0, .int 0, .int 0, .int 0, .ref q45, .int 0, .int 0])), (q1, .inl (cA2, 2000, .inl (fun _ => 0))), (q3, .inl (cA4, 5718, .inl (fun _ => 0))), (q43, .inl (cA44, 9, .inr (.inr (.inr (.inr (va_up f74 (4 : Int32).toNatClampNeg (some q75))))))), (q75, .inr (13, [.int 0, .int 0, .int 0, .int 0, .int 0, .int 0, .int 0, .int 0, .int 0, .int 0, .int 0, .int 0, .int 0, .int 0, .int 0, .int 0, .int 0, .int 0, .int 0, .ref q77, .ref q78, .ref q79, .int 0, .int 0, .int 0, .int 0, .int 0, .int 0, .int 0, .ref q80, .int 0, .int 0]))] := hD
  generalize va_up f74 (4 : Int32).toNatClampNeg (some q75) = f81 at hP hD
  have hP := hP.sub (ws' := [(h0, .inr (12, [.ref q1, .ref q3, .ref q5, .int 0, .int 0, .int 0, .int 0, .int 0, .ref q7, .ref q9, .ref q11, .ref q13, .ref q15, .int 0, .int 0, .ref q17, .ref q19, .ref q21, .ref q23, .ref q25, .ref q27, .ref q29, .ref q31, .int 0, .int 0, .ref q33, .ref q35, .ref q37, .ref q39, .ref q41, .int 0, .ref q43, .int 0, .int 0, .int 0, .int 0, .ref q45, .int 0, .int 0])), (q1, .inl (cA2, 2000, .inl (fun _ => 0))), (q3, .inl (cA4, 5718, .inl (fun _ => 0))), (q43, .inl (cA44, 9, .inr (.inr (.inr (.inr f81)))))]) [0, 1, 2, 3] rfl
  have hD := hD.sub (ws' := [(h0, .inr (12, [.ref q1, .ref q3, .ref q5, .int 0, .int 0, .int 0, .int 0, .int 0, .ref q7, .ref q9, .ref q11, .ref q13, .ref q15, .int 0, .int 0, .ref q17, .ref q19, .ref q21, .ref q23, .ref q25, .ref q27, .ref q29, .ref q31, .int 0, .int 0, .ref q33, .ref q35, .ref q37, .ref q39, .ref q41, .int 0, .ref q43, .int 0, .int 0, .int 0, .int 0, .ref q45, .int 0, .int 0])), (q1, .inl (cA2, 2000, .inl (fun _ => 0))), (q3, .inl (cA4, 5718, .inl (fun _ => 0))), (q43, .inl (cA44, 9, .inr (.inr (.inr (.inr f81)))))]) [0, 1, 2, 3] (by decide) rfl
  refine lv_iinc (v := 5) hx hb d_Mo_init_211 hl (k := 0) rfl (by decide) (by decide) rfl (fun ls hl => ?_)
  have hl : lv_has ls 2 [(1, .int 5), (0, .ref h0)] := hl
  refine lv_goto hx hb d_Mo_init_214 (tgt := 192) (by decide) ?_
  refine lv_iload_n hx hb d_Mo_init_192 rfl (lv_at hl 0 rfl) ?_
  refine lv_bipush (v := 8) hx hb d_Mo_init_193 (by decide) ?_
  refine lv_icmp_gt (tgt := 217) hx hb d_Mo_init_195 (by decide) (fun hc => absurd hc (by decide)) (fun _ => ?_)
  refine lv_aload_n hx hb d_Mo_init_198 rfl (lv_at hl 1 rfl) ?_
  refine va_get (D := (dC, dI)) (ci := 12) (v := .ref q43) (C := R_Mo) (T := F_Mo) (N := 39) hx hb (u_Mo hT) (fun _ h => h) hown hK hP 0 rfl rfl 31 (by decide) (ux_T_at hT tw_1624 rfl) (fun _ h9 => h9) rfl d_Mo_init_199 ?_
  refine lv_iload_n hx hb d_Mo_init_202 rfl (lv_at hl 0 rfl) ?_
  refine va_new (ci := 13) (fs := [.int 0, .int 0, .int 0, .int 0, .int 0, .int 0, .int 0, .int 0, .int 0, .int 0, .int 0, .int 0, .int 0, .int 0, .int 0, .int 0, .int 0, .int 0, .int 0, .null, .null, .null, .int 0, .int 0, .int 0, .int 0, .int 0, .int 0, .int 0, .null, .int 0, .int 0]) (C := R_Pe) (T := F_Pe) (N := 32) hx hb (u_Pe hT) (fun _ h => h) t_Pe k_Pe hown (ux_T_at hT tw_1486 rfl) (ux_T_at hT tw_1488 rfl) (ux_T_at hT tw_14 rfl) hK hP hD hS hA rfl z_Pe (Nat.le_of_ble_eq_true rfl) (Nat.le_of_ble_eq_true rfl) d_Mo_init_203 (fun q82 H hP hD hS => ?_)
  have hP : va_P (dC, dI) cls [(h0, .inr (12, [.ref q1, .ref q3, .ref q5, .int 0, .int 0, .int 0, .int 0, .int 0, .ref q7, .ref q9, .ref q11, .ref q13, .ref q15, .int 0, .int 0, .ref q17, .ref q19, .ref q21, .ref q23, .ref q25, .ref q27, .ref q29, .ref q31, .int 0, .int 0, .ref q33, .ref q35, .ref q37, .ref q39, .ref q41, .int 0, .ref q43, .int 0, .int 0, .int 0, .int 0, .ref q45, .int 0, .int 0])), (q1, .inl (cA2, 2000, .inl (fun _ => 0))), (q3, .inl (cA4, 5718, .inl (fun _ => 0))), (q43, .inl (cA44, 9, .inr (.inr (.inr (.inr f81))))), (q82, .inr (13, [.int 0, .int 0, .int 0, .int 0, .int 0, .int 0, .int 0, .int 0, .int 0, .int 0, .int 0, .int 0, .int 0, .int 0, .int 0, .int 0, .int 0, .int 0, .int 0, .null, .null, .null, .int 0, .int 0, .int 0, .int 0, .int 0, .int 0, .int 0, .null, .int 0, .int 0]))] H := hP
  have hD : va_D A [(h0, .inr (12, [.ref q1, .ref q3, .ref q5, .int 0, .int 0, .int 0, .int 0, .int 0, .ref q7, .ref q9, .ref q11, .ref q13, .ref q15, .int 0, .int 0, .ref q17, .ref q19, .ref q21, .ref q23, .ref q25, .ref q27, .ref q29, .ref q31, .int 0, .int 0, .ref q33, .ref q35, .ref q37, .ref q39, .ref q41, .int 0, .ref q43, .int 0, .int 0, .int 0, .int 0, .ref q45, .int 0, .int 0])), (q1, .inl (cA2, 2000, .inl (fun _ => 0))), (q3, .inl (cA4, 5718, .inl (fun _ => 0))), (q43, .inl (cA44, 9, .inr (.inr (.inr (.inr f81))))), (q82, .inr (13, [.int 0, .int 0, .int 0, .int 0, .int 0, .int 0, .int 0, .int 0, .int 0, .int 0, .int 0, .int 0, .int 0, .int 0, .int 0, .int 0, .int 0, .int 0, .int 0, .null, .null, .null, .int 0, .int 0, .int 0, .int 0, .int 0, .int 0, .int 0, .null, .int 0, .int 0]))] := hD
  refine lv_dup hx hb d_Mo_init_206 rfl ?_
  have hPc := hP.sub (ws' := [(q82, .inr (13, [.int 0, .int 0, .int 0, .int 0, .int 0, .int 0, .int 0, .int 0, .int 0, .int 0, .int 0, .int 0, .int 0, .int 0, .int 0, .int 0, .int 0, .int 0, .int 0, .null, .null, .null, .int 0, .int 0, .int 0, .int 0, .int 0, .int 0, .int 0, .null, .int 0, .int 0]))]) [4] rfl
  have hDc := hD.sub (ws' := [(q82, .inr (13, [.int 0, .int 0, .int 0, .int 0, .int 0, .int 0, .int 0, .int 0, .int 0, .int 0, .int 0, .int 0, .int 0, .int 0, .int 0, .int 0, .int 0, .int 0, .int 0, .null, .null, .null, .int 0, .int 0, .int 0, .int 0, .int 0, .int 0, .int 0, .null, .int 0, .int 0]))]) [4] (by decide) rfl
  have hKc := hK.sub (tys' := []) [] rfl
  have hFc := va_free (wc := [(q82, .inr (13, [.int 0, .int 0, .int 0, .int 0, .int 0, .int 0, .int 0, .int 0, .int 0, .int 0, .int 0, .int 0, .int 0, .int 0, .int 0, .int 0, .int 0, .int 0, .int 0, .null, .null, .null, .int 0, .int 0, .int 0, .int 0, .int 0, .int 0, .int 0, .null, .int 0, .int 0]))]) hD hS hA [4] rfl
  have hkc : 49 + 4 ≤ 68 := (Nat.le_of_ble_eq_true rfl)
  refine va_callv (va_runIN (As := []) (rest := [.ref q82, .int 5, .ref q43]) hfx (c_Pe_init l dC dI q82 H.size) ⟨(ux_cn 0 hT tw_1491 tw_1489 tw_14 rfl rfl (by decide +kernel) ⟨(Nat.le_of_ble_eq_true rfl), (Nat.le_of_ble_eq_true rfl)⟩), rfl, (ux_T_at hT tw_1490 rfl)⟩ (ux_pre [.ref q82] hT hPc hKc hDc) rfl rfl hl.1 rfl (lv_room (Nat.le_of_ble_eq_true rfl)) d_Mo_init_207 ⟨(Nat.le_of_ble_eq_true rfl), (Nat.le_of_ble_eq_true rfl)⟩) hS (fun q _ h => hFc q h) hFc (fun u t H1 locs ht hvm hw hB hz1 hk1 hS => ?_)
  obtain ⟨q84, q85, q86, q87, hP1, hK1, hD1⟩ := hB
  rw [ht] at hP1
  have hK1 := va_K.moved hvm.symm hK1
  obtain ⟨hP, hD⟩ := va_join (wr := [(h0, .inr (12, [.ref q1, .ref q3, .ref q5, .int 0, .int 0, .int 0, .int 0, .int 0, .ref q7, .ref q9, .ref q11, .ref q13, .ref q15, .int 0, .int 0, .ref q17, .ref q19, .ref q21, .ref q23, .ref q25, .ref q27, .ref q29, .ref q31, .int 0, .int 0, .ref q33, .ref q35, .ref q37, .ref q39, .ref q41, .int 0, .ref q43, .int 0, .int 0, .int 0, .int 0, .ref q45, .int 0, .int 0])), (q1, .inl (cA2, 2000, .inl (fun _ => 0))), (q3, .inl (cA4, 5718, .inl (fun _ => 0))), (q43, .inl (cA44, 9, .inr (.inr (.inr (.inr f81)))))]) (w1 := [(q82, .inr (13, [.int 0, .int 0, .int 0, .int 0, .int 0, .int 0, .int 0, .int 0, .int 0, .int 0, .int 0, .int 0, .int 0, .int 0, .int 0, .int 0, .int 0, .int 0, .int 0, .ref q84, .ref q85, .ref q86, .int 0, .int 0, .int 0, .int 0, .int 0, .int 0, .int 0, .ref q87, .int 0, .int 0]))]) hP hD [4] [0, 1, 2, 3] rfl rfl (by decide) (by decide) hk1 hFc hP1 hD1
  have hK := (hK.sub (tys' := [(cA2, .byte), (cA4, .byte), (cA6, .byte), (cA8, .byte), (cA10, .int), (cA12, .int), (cA14, .int), (cA16, .long), (cA18, .int), (cA20, .int), (cA22, .int), (cA24, .int), (cA26, .int), (cA28, .int), (cA30, .byte), (cA32, .boolean), (cA34, .byte), (cA36, .byte), (cA38, .int), (cA40, .int), (cA42, .int), (cA44, .object "UnikernelHttpModel$Peer"), (cA46, .byte)]) [0, 1, 2, 3, 4, 5, 6, 7, 8, 9, 10, 11, 12, 13, 14, 15, 16, 17, 18, 19, 20, 21, 22] rfl).app hK1
  generalize H1 = H at hP hS ⊢
  have hP : va_P (dC, dI) cls [(h0, .inr (12, [.ref q1, .ref q3, .ref q5, .int 0, .int 0, .int 0, .int 0, .int 0, .ref q7, .ref q9, .ref q11, .ref q13, .ref q15, .int 0, .int 0, .ref q17, .ref q19, .ref q21, .ref q23, .ref q25, .ref q27, .ref q29, .ref q31, .int 0, .int 0, .ref q33, .ref q35, .ref q37, .ref q39, .ref q41, .int 0, .ref q43, .int 0, .int 0, .int 0, .int 0, .ref q45, .int 0, .int 0])), (q1, .inl (cA2, 2000, .inl (fun _ => 0))), (q3, .inl (cA4, 5718, .inl (fun _ => 0))), (q43, .inl (cA44, 9, .inr (.inr (.inr (.inr f81))))), (q82, .inr (13, [.int 0, .int 0, .int 0, .int 0, .int 0, .int 0, .int 0, .int 0, .int 0, .int 0, .int 0, .int 0, .int 0, .int 0, .int 0, .int 0, .int 0, .int 0, .int 0, .ref q84, .ref q85, .ref q86, .int 0, .int 0, .int 0, .int 0, .int 0, .int 0, .int 0, .ref q87, .int 0, .int 0]))] H := hP
  have hD : va_D A [(h0, .inr (12, [.ref q1, .ref q3, .ref q5, .int 0, .int 0, .int 0, .int 0, .int 0, .ref q7, .ref q9, .ref q11, .ref q13, .ref q15, .int 0, .int 0, .ref q17, .ref q19, .ref q21, .ref q23, .ref q25, .ref q27, .ref q29, .ref q31, .int 0, .int 0, .ref q33, .ref q35, .ref q37, .ref q39, .ref q41, .int 0, .ref q43, .int 0, .int 0, .int 0, .int 0, .ref q45, .int 0, .int 0])), (q1, .inl (cA2, 2000, .inl (fun _ => 0))), (q3, .inl (cA4, 5718, .inl (fun _ => 0))), (q43, .inl (cA44, 9, .inr (.inr (.inr (.inr f81))))), (q82, .inr (13, [.int 0, .int 0, .int 0, .int 0, .int 0, .int 0, .int 0, .int 0, .int 0, .int 0, .int 0, .int 0, .int 0, .int 0, .int 0, .int 0, .int 0, .int 0, .int 0, .ref q84, .ref q85, .ref q86, .int 0, .int 0, .int 0, .int 0, .int 0, .int 0, .int 0, .ref q87, .int 0, .int 0]))] := hD
  have hK : va_K (dC, dI) cls [(cA2, .byte), (cA4, .byte), (cA6, .byte), (cA8, .byte), (cA10, .int), (cA12, .int), (cA14, .int), (cA16, .long), (cA18, .int), (cA20, .int), (cA22, .int), (cA24, .int), (cA26, .int), (cA28, .int), (cA30, .byte), (cA32, .boolean), (cA34, .byte), (cA36, .byte), (cA38, .int), (cA40, .int), (cA42, .int), (cA44, .object "UnikernelHttpModel$Peer"), (cA46, .byte)] s := hK
  refine va_astq hx hb hK hP hD hS 3 21 4 13 rfl rfl rfl rfl (show ¬ ((5 : Int32) < 0 ∨ 9 ≤ (5 : Int32).toNatClampNeg) by decide) d_Mo_init_210 (fun H locs hP hD hS => ?_)
  have hP : va_P (dC, dI) cls [(h0, .inr (12, [.ref q1, .ref q3, .ref q5, .int 0, .int 0, .int 0, .int 0, .int 0, .ref q7, .ref q9, .ref q11, .ref q13, .ref q15, .int 0, .int 0, .ref q17, .ref q19, .ref q21, .ref q23, .ref q25, .ref q27, .ref q29, .ref q31, .int 0, .int 0, .ref q33, .ref q35, .ref q37, .ref q39, .ref q41, .int 0, .ref q43, .int 0, .int 0, .int 0, .int 0, .ref q45, .int 0, .int 0])), (q1, .inl (cA2, 2000, .inl (fun _ => 0))), (q3, .inl (cA4, 5718, .inl (fun _ => 0))), (q43, .inl (cA44, 9, .inr (.inr (.inr (.inr (va_up f81 (5 : Int32).toNatClampNeg (some q82))))))), (q82, .inr (13, [.int 0, .int 0, .int 0, .int 0, .int 0, .int 0, .int 0, .int 0, .int 0, .int 0, .int 0, .int 0, .int 0, .int 0, .int 0, .int 0, .int 0, .int 0, .int 0, .ref q84, .ref q85, .ref q86, .int 0, .int 0, .int 0, .int 0, .int 0, .int 0, .int 0, .ref q87, .int 0, .int 0]))] H := hP
  have hD : va_D A [(h0, .inr (12, [.ref q1, .ref q3, .ref q5, .int 0, .int 0, .int 0, .int 0, .int 0, .ref q7, .ref q9, .ref q11, .ref q13, .ref q15, .int 0, .int 0, .ref q17, .ref q19, .ref q21, .ref q23, .ref q25, .ref q27, .ref q29, .ref q31, .int 0, .int 0, .ref q33, .ref q35, .ref q37, .ref q39, .ref q41, .int 0, .ref q43, .int 0, .int 0, .int 0, .int 0, .ref q45, .int 0, .int 0])), (q1, .inl (cA2, 2000, .inl (fun _ => 0))), (q3, .inl (cA4, 5718, .inl (fun _ => 0))), (q43, .inl (cA44, 9, .inr (.inr (.inr (.inr (va_up f81 (5 : Int32).toNatClampNeg (some q82))))))), (q82, .inr (13, [.int 0, .int 0, .int 0, .int 0, .int 0, .int 0, .int 0, .int 0, .int 0, .int 0, .int 0, .int 0, .int 0, .int 0, .int 0, .int 0, .int 0, .int 0, .int 0, .ref q84, .ref q85, .ref q86, .int 0, .int 0, .int 0, .int 0, .int 0, .int 0, .int 0, .ref q87, .int 0, .int 0]))] := hD
  generalize va_up f81 (5 : Int32).toNatClampNeg (some q82) = f88 at hP hD
  have hP := hP.sub (ws' := [(h0, .inr (12, [.ref q1, .ref q3, .ref q5, .int 0, .int 0, .int 0, .int 0, .int 0, .ref q7, .ref q9, .ref q11, .ref q13, .ref q15, .int 0, .int 0, .ref q17, .ref q19, .ref q21, .ref q23, .ref q25, .ref q27, .ref q29, .ref q31, .int 0, .int 0, .ref q33, .ref q35, .ref q37, .ref q39, .ref q41, .int 0, .ref q43, .int 0, .int 0, .int 0, .int 0, .ref q45, .int 0, .int 0])), (q1, .inl (cA2, 2000, .inl (fun _ => 0))), (q3, .inl (cA4, 5718, .inl (fun _ => 0))), (q43, .inl (cA44, 9, .inr (.inr (.inr (.inr f88)))))]) [0, 1, 2, 3] rfl
  have hD := hD.sub (ws' := [(h0, .inr (12, [.ref q1, .ref q3, .ref q5, .int 0, .int 0, .int 0, .int 0, .int 0, .ref q7, .ref q9, .ref q11, .ref q13, .ref q15, .int 0, .int 0, .ref q17, .ref q19, .ref q21, .ref q23, .ref q25, .ref q27, .ref q29, .ref q31, .int 0, .int 0, .ref q33, .ref q35, .ref q37, .ref q39, .ref q41, .int 0, .ref q43, .int 0, .int 0, .int 0, .int 0, .ref q45, .int 0, .int 0])), (q1, .inl (cA2, 2000, .inl (fun _ => 0))), (q3, .inl (cA4, 5718, .inl (fun _ => 0))), (q43, .inl (cA44, 9, .inr (.inr (.inr (.inr f88)))))]) [0, 1, 2, 3] (by decide) rfl
  refine lv_iinc (v := 6) hx hb d_Mo_init_211 hl (k := 0) rfl (by decide) (by decide) rfl (fun ls hl => ?_)
  have hl : lv_has ls 2 [(1, .int 6), (0, .ref h0)] := hl
  refine lv_goto hx hb d_Mo_init_214 (tgt := 192) (by decide) ?_
  refine lv_iload_n hx hb d_Mo_init_192 rfl (lv_at hl 0 rfl) ?_
  refine lv_bipush (v := 8) hx hb d_Mo_init_193 (by decide) ?_
  refine lv_icmp_gt (tgt := 217) hx hb d_Mo_init_195 (by decide) (fun hc => absurd hc (by decide)) (fun _ => ?_)
  refine lv_aload_n hx hb d_Mo_init_198 rfl (lv_at hl 1 rfl) ?_
  refine va_get (D := (dC, dI)) (ci := 12) (v := .ref q43) (C := R_Mo) (T := F_Mo) (N := 39) hx hb (u_Mo hT) (fun _ h => h) hown hK hP 0 rfl rfl 31 (by decide) (ux_T_at hT tw_1624 rfl) (fun _ h9 => h9) rfl d_Mo_init_199 ?_
  refine lv_iload_n hx hb d_Mo_init_202 rfl (lv_at hl 0 rfl) ?_
  refine va_new (ci := 13) (fs := [.int 0, .int 0, .int 0, .int 0, .int 0, .int 0, .int 0, .int 0, .int 0, .int 0, .int 0, .int 0, .int 0, .int 0, .int 0, .int 0, .int 0, .int 0, .int 0, .null, .null, .null, .int 0, .int 0, .int 0, .int 0, .int 0, .int 0, .int 0, .null, .int 0, .int 0]) (C := R_Pe) (T := F_Pe) (N := 32) hx hb (u_Pe hT) (fun _ h => h) t_Pe k_Pe hown (ux_T_at hT tw_1486 rfl) (ux_T_at hT tw_1488 rfl) (ux_T_at hT tw_14 rfl) hK hP hD hS hA rfl z_Pe (Nat.le_of_ble_eq_true rfl) (Nat.le_of_ble_eq_true rfl) d_Mo_init_203 (fun q89 H hP hD hS => ?_)
  have hP : va_P (dC, dI) cls [(h0, .inr (12, [.ref q1, .ref q3, .ref q5, .int 0, .int 0, .int 0, .int 0, .int 0, .ref q7, .ref q9, .ref q11, .ref q13, .ref q15, .int 0, .int 0, .ref q17, .ref q19, .ref q21, .ref q23, .ref q25, .ref q27, .ref q29, .ref q31, .int 0, .int 0, .ref q33, .ref q35, .ref q37, .ref q39, .ref q41, .int 0, .ref q43, .int 0, .int 0, .int 0, .int 0, .ref q45, .int 0, .int 0])), (q1, .inl (cA2, 2000, .inl (fun _ => 0))), (q3, .inl (cA4, 5718, .inl (fun _ => 0))), (q43, .inl (cA44, 9, .inr (.inr (.inr (.inr f88))))), (q89, .inr (13, [.int 0, .int 0, .int 0, .int 0, .int 0, .int 0, .int 0, .int 0, .int 0, .int 0, .int 0, .int 0, .int 0, .int 0, .int 0, .int 0, .int 0, .int 0, .int 0, .null, .null, .null, .int 0, .int 0, .int 0, .int 0, .int 0, .int 0, .int 0, .null, .int 0, .int 0]))] H := hP
  have hD : va_D A [(h0, .inr (12, [.ref q1, .ref q3, .ref q5, .int 0, .int 0, .int 0, .int 0, .int 0, .ref q7, .ref q9, .ref q11, .ref q13, .ref q15, .int 0, .int 0, .ref q17, .ref q19, .ref q21, .ref q23, .ref q25, .ref q27, .ref q29, .ref q31, .int 0, .int 0, .ref q33, .ref q35, .ref q37, .ref q39, .ref q41, .int 0, .ref q43, .int 0, .int 0, .int 0, .int 0, .ref q45, .int 0, .int 0])), (q1, .inl (cA2, 2000, .inl (fun _ => 0))), (q3, .inl (cA4, 5718, .inl (fun _ => 0))), (q43, .inl (cA44, 9, .inr (.inr (.inr (.inr f88))))), (q89, .inr (13, [.int 0, .int 0, .int 0, .int 0, .int 0, .int 0, .int 0, .int 0, .int 0, .int 0, .int 0, .int 0, .int 0, .int 0, .int 0, .int 0, .int 0, .int 0, .int 0, .null, .null, .null, .int 0, .int 0, .int 0, .int 0, .int 0, .int 0, .int 0, .null, .int 0, .int 0]))] := hD
  refine lv_dup hx hb d_Mo_init_206 rfl ?_
  have hPc := hP.sub (ws' := [(q89, .inr (13, [.int 0, .int 0, .int 0, .int 0, .int 0, .int 0, .int 0, .int 0, .int 0, .int 0, .int 0, .int 0, .int 0, .int 0, .int 0, .int 0, .int 0, .int 0, .int 0, .null, .null, .null, .int 0, .int 0, .int 0, .int 0, .int 0, .int 0, .int 0, .null, .int 0, .int 0]))]) [4] rfl
  have hDc := hD.sub (ws' := [(q89, .inr (13, [.int 0, .int 0, .int 0, .int 0, .int 0, .int 0, .int 0, .int 0, .int 0, .int 0, .int 0, .int 0, .int 0, .int 0, .int 0, .int 0, .int 0, .int 0, .int 0, .null, .null, .null, .int 0, .int 0, .int 0, .int 0, .int 0, .int 0, .int 0, .null, .int 0, .int 0]))]) [4] (by decide) rfl
  have hKc := hK.sub (tys' := []) [] rfl
  have hFc := va_free (wc := [(q89, .inr (13, [.int 0, .int 0, .int 0, .int 0, .int 0, .int 0, .int 0, .int 0, .int 0, .int 0, .int 0, .int 0, .int 0, .int 0, .int 0, .int 0, .int 0, .int 0, .int 0, .null, .null, .null, .int 0, .int 0, .int 0, .int 0, .int 0, .int 0, .int 0, .null, .int 0, .int 0]))]) hD hS hA [4] rfl
  have hkc : 54 + 4 ≤ 68 := (Nat.le_of_ble_eq_true rfl)
  refine va_callv (va_runIN (As := []) (rest := [.ref q89, .int 6, .ref q43]) hfx (c_Pe_init l dC dI q89 H.size) ⟨(ux_cn 0 hT tw_1491 tw_1489 tw_14 rfl rfl (by decide +kernel) ⟨(Nat.le_of_ble_eq_true rfl), (Nat.le_of_ble_eq_true rfl)⟩), rfl, (ux_T_at hT tw_1490 rfl)⟩ (ux_pre [.ref q89] hT hPc hKc hDc) rfl rfl hl.1 rfl (lv_room (Nat.le_of_ble_eq_true rfl)) d_Mo_init_207 ⟨(Nat.le_of_ble_eq_true rfl), (Nat.le_of_ble_eq_true rfl)⟩) hS (fun q _ h => hFc q h) hFc (fun u t H1 locs ht hvm hw hB hz1 hk1 hS => ?_)
  obtain ⟨q91, q92, q93, q94, hP1, hK1, hD1⟩ := hB
  rw [ht] at hP1
  have hK1 := va_K.moved hvm.symm hK1
  obtain ⟨hP, hD⟩ := va_join (wr := [(h0, .inr (12, [.ref q1, .ref q3, .ref q5, .int 0, .int 0, .int 0, .int 0, .int 0, .ref q7, .ref q9, .ref q11, .ref q13, .ref q15, .int 0, .int 0, .ref q17, .ref q19, .ref q21, .ref q23, .ref q25, .ref q27, .ref q29, .ref q31, .int 0, .int 0, .ref q33, .ref q35, .ref q37, .ref q39, .ref q41, .int 0, .ref q43, .int 0, .int 0, .int 0, .int 0, .ref q45, .int 0, .int 0])), (q1, .inl (cA2, 2000, .inl (fun _ => 0))), (q3, .inl (cA4, 5718, .inl (fun _ => 0))), (q43, .inl (cA44, 9, .inr (.inr (.inr (.inr f88)))))]) (w1 := [(q89, .inr (13, [.int 0, .int 0, .int 0, .int 0, .int 0, .int 0, .int 0, .int 0, .int 0, .int 0, .int 0, .int 0, .int 0, .int 0, .int 0, .int 0, .int 0, .int 0, .int 0, .ref q91, .ref q92, .ref q93, .int 0, .int 0, .int 0, .int 0, .int 0, .int 0, .int 0, .ref q94, .int 0, .int 0]))]) hP hD [4] [0, 1, 2, 3] rfl rfl (by decide) (by decide) hk1 hFc hP1 hD1
  have hK := (hK.sub (tys' := [(cA2, .byte), (cA4, .byte), (cA6, .byte), (cA8, .byte), (cA10, .int), (cA12, .int), (cA14, .int), (cA16, .long), (cA18, .int), (cA20, .int), (cA22, .int), (cA24, .int), (cA26, .int), (cA28, .int), (cA30, .byte), (cA32, .boolean), (cA34, .byte), (cA36, .byte), (cA38, .int), (cA40, .int), (cA42, .int), (cA44, .object "UnikernelHttpModel$Peer"), (cA46, .byte)]) [0, 1, 2, 3, 4, 5, 6, 7, 8, 9, 10, 11, 12, 13, 14, 15, 16, 17, 18, 19, 20, 21, 22] rfl).app hK1
  generalize H1 = H at hP hS ⊢
  have hP : va_P (dC, dI) cls [(h0, .inr (12, [.ref q1, .ref q3, .ref q5, .int 0, .int 0, .int 0, .int 0, .int 0, .ref q7, .ref q9, .ref q11, .ref q13, .ref q15, .int 0, .int 0, .ref q17, .ref q19, .ref q21, .ref q23, .ref q25, .ref q27, .ref q29, .ref q31, .int 0, .int 0, .ref q33, .ref q35, .ref q37, .ref q39, .ref q41, .int 0, .ref q43, .int 0, .int 0, .int 0, .int 0, .ref q45, .int 0, .int 0])), (q1, .inl (cA2, 2000, .inl (fun _ => 0))), (q3, .inl (cA4, 5718, .inl (fun _ => 0))), (q43, .inl (cA44, 9, .inr (.inr (.inr (.inr f88))))), (q89, .inr (13, [.int 0, .int 0, .int 0, .int 0, .int 0, .int 0, .int 0, .int 0, .int 0, .int 0, .int 0, .int 0, .int 0, .int 0, .int 0, .int 0, .int 0, .int 0, .int 0, .ref q91, .ref q92, .ref q93, .int 0, .int 0, .int 0, .int 0, .int 0, .int 0, .int 0, .ref q94, .int 0, .int 0]))] H := hP
  have hD : va_D A [(h0, .inr (12, [.ref q1, .ref q3, .ref q5, .int 0, .int 0, .int 0, .int 0, .int 0, .ref q7, .ref q9, .ref q11, .ref q13, .ref q15, .int 0, .int 0, .ref q17, .ref q19, .ref q21, .ref q23, .ref q25, .ref q27, .ref q29, .ref q31, .int 0, .int 0, .ref q33, .ref q35, .ref q37, .ref q39, .ref q41, .int 0, .ref q43, .int 0, .int 0, .int 0, .int 0, .ref q45, .int 0, .int 0])), (q1, .inl (cA2, 2000, .inl (fun _ => 0))), (q3, .inl (cA4, 5718, .inl (fun _ => 0))), (q43, .inl (cA44, 9, .inr (.inr (.inr (.inr f88))))), (q89, .inr (13, [.int 0, .int 0, .int 0, .int 0, .int 0, .int 0, .int 0, .int 0, .int 0, .int 0, .int 0, .int 0, .int 0, .int 0, .int 0, .int 0, .int 0, .int 0, .int 0, .ref q91, .ref q92, .ref q93, .int 0, .int 0, .int 0, .int 0, .int 0, .int 0, .int 0, .ref q94, .int 0, .int 0]))] := hD
  have hK : va_K (dC, dI) cls [(cA2, .byte), (cA4, .byte), (cA6, .byte), (cA8, .byte), (cA10, .int), (cA12, .int), (cA14, .int), (cA16, .long), (cA18, .int), (cA20, .int), (cA22, .int), (cA24, .int), (cA26, .int), (cA28, .int), (cA30, .byte), (cA32, .boolean), (cA34, .byte), (cA36, .byte), (cA38, .int), (cA40, .int), (cA42, .int), (cA44, .object "UnikernelHttpModel$Peer"), (cA46, .byte)] s := hK
  refine va_astq hx hb hK hP hD hS 3 21 4 13 rfl rfl rfl rfl (show ¬ ((6 : Int32) < 0 ∨ 9 ≤ (6 : Int32).toNatClampNeg) by decide) d_Mo_init_210 (fun H locs hP hD hS => ?_)
  have hP : va_P (dC, dI) cls [(h0, .inr (12, [.ref q1, .ref q3, .ref q5, .int 0, .int 0, .int 0, .int 0, .int 0, .ref q7, .ref q9, .ref q11, .ref q13, .ref q15, .int 0, .int 0, .ref q17, .ref q19, .ref q21, .ref q23, .ref q25, .ref q27, .ref q29, .ref q31, .int 0, .int 0, .ref q33, .ref q35, .ref q37, .ref q39, .ref q41, .int 0, .ref q43, .int 0, .int 0, .int 0, .int 0, .ref q45, .int 0, .int 0])), (q1, .inl (cA2, 2000, .inl (fun _ => 0))), (q3, .inl (cA4, 5718, .inl (fun _ => 0))), (q43, .inl (cA44, 9, .inr (.inr (.inr (.inr (va_up f88 (6 : Int32).toNatClampNeg (some q89))))))), (q89, .inr (13, [.int 0, .int 0, .int 0, .int 0, .int 0, .int 0, .int 0, .int 0, .int 0, .int 0, .int 0, .int 0, .int 0, .int 0, .int 0, .int 0, .int 0, .int 0, .int 0, .ref q91, .ref q92, .ref q93, .int 0, .int 0, .int 0, .int 0, .int 0, .int 0, .int 0, .ref q94, .int 0, .int 0]))] H := hP
  have hD : va_D A [(h0, .inr (12, [.ref q1, .ref q3, .ref q5, .int 0, .int 0, .int 0, .int 0, .int 0, .ref q7, .ref q9, .ref q11, .ref q13, .ref q15, .int 0, .int 0, .ref q17, .ref q19, .ref q21, .ref q23, .ref q25, .ref q27, .ref q29, .ref q31, .int 0, .int 0, .ref q33, .ref q35, .ref q37, .ref q39, .ref q41, .int 0, .ref q43, .int 0, .int 0, .int 0, .int 0, .ref q45, .int 0, .int 0])), (q1, .inl (cA2, 2000, .inl (fun _ => 0))), (q3, .inl (cA4, 5718, .inl (fun _ => 0))), (q43, .inl (cA44, 9, .inr (.inr (.inr (.inr (va_up f88 (6 : Int32).toNatClampNeg (some q89))))))), (q89, .inr (13, [.int 0, .int 0, .int 0, .int 0, .int 0, .int 0, .int 0, .int 0, .int 0, .int 0, .int 0, .int 0, .int 0, .int 0, .int 0, .int 0, .int 0, .int 0, .int 0, .ref q91, .ref q92, .ref q93, .int 0, .int 0, .int 0, .int 0, .int 0, .int 0, .int 0, .ref q94, .int 0, .int 0]))] := hD
  generalize va_up f88 (6 : Int32).toNatClampNeg (some q89) = f95 at hP hD
  have hP := hP.sub (ws' := [(h0, .inr (12, [.ref q1, .ref q3, .ref q5, .int 0, .int 0, .int 0, .int 0, .int 0, .ref q7, .ref q9, .ref q11, .ref q13, .ref q15, .int 0, .int 0, .ref q17, .ref q19, .ref q21, .ref q23, .ref q25, .ref q27, .ref q29, .ref q31, .int 0, .int 0, .ref q33, .ref q35, .ref q37, .ref q39, .ref q41, .int 0, .ref q43, .int 0, .int 0, .int 0, .int 0, .ref q45, .int 0, .int 0])), (q1, .inl (cA2, 2000, .inl (fun _ => 0))), (q3, .inl (cA4, 5718, .inl (fun _ => 0))), (q43, .inl (cA44, 9, .inr (.inr (.inr (.inr f95)))))]) [0, 1, 2, 3] rfl
  have hD := hD.sub (ws' := [(h0, .inr (12, [.ref q1, .ref q3, .ref q5, .int 0, .int 0, .int 0, .int 0, .int 0, .ref q7, .ref q9, .ref q11, .ref q13, .ref q15, .int 0, .int 0, .ref q17, .ref q19, .ref q21, .ref q23, .ref q25, .ref q27, .ref q29, .ref q31, .int 0, .int 0, .ref q33, .ref q35, .ref q37, .ref q39, .ref q41, .int 0, .ref q43, .int 0, .int 0, .int 0, .int 0, .ref q45, .int 0, .int 0])), (q1, .inl (cA2, 2000, .inl (fun _ => 0))), (q3, .inl (cA4, 5718, .inl (fun _ => 0))), (q43, .inl (cA44, 9, .inr (.inr (.inr (.inr f95)))))]) [0, 1, 2, 3] (by decide) rfl
  refine lv_iinc (v := 7) hx hb d_Mo_init_211 hl (k := 0) rfl (by decide) (by decide) rfl (fun ls hl => ?_)
  have hl : lv_has ls 2 [(1, .int 7), (0, .ref h0)] := hl
  refine lv_goto hx hb d_Mo_init_214 (tgt := 192) (by decide) ?_
  refine lv_iload_n hx hb d_Mo_init_192 rfl (lv_at hl 0 rfl) ?_
  refine lv_bipush (v := 8) hx hb d_Mo_init_193 (by decide) ?_
  refine lv_icmp_gt (tgt := 217) hx hb d_Mo_init_195 (by decide) (fun hc => absurd hc (by decide)) (fun _ => ?_)
  refine lv_aload_n hx hb d_Mo_init_198 rfl (lv_at hl 1 rfl) ?_
  refine va_get (D := (dC, dI)) (ci := 12) (v := .ref q43) (C := R_Mo) (T := F_Mo) (N := 39) hx hb (u_Mo hT) (fun _ h => h) hown hK hP 0 rfl rfl 31 (by decide) (ux_T_at hT tw_1624 rfl) (fun _ h9 => h9) rfl d_Mo_init_199 ?_
  refine lv_iload_n hx hb d_Mo_init_202 rfl (lv_at hl 0 rfl) ?_
  refine va_new (ci := 13) (fs := [.int 0, .int 0, .int 0, .int 0, .int 0, .int 0, .int 0, .int 0, .int 0, .int 0, .int 0, .int 0, .int 0, .int 0, .int 0, .int 0, .int 0, .int 0, .int 0, .null, .null, .null, .int 0, .int 0, .int 0, .int 0, .int 0, .int 0, .int 0, .null, .int 0, .int 0]) (C := R_Pe) (T := F_Pe) (N := 32) hx hb (u_Pe hT) (fun _ h => h) t_Pe k_Pe hown (ux_T_at hT tw_1486 rfl) (ux_T_at hT tw_1488 rfl) (ux_T_at hT tw_14 rfl) hK hP hD hS hA rfl z_Pe (Nat.le_of_ble_eq_true rfl) (Nat.le_of_ble_eq_true rfl) d_Mo_init_203 (fun q96 H hP hD hS => ?_)
  have hP : va_P (dC, dI) cls [(h0, .inr (12, [.ref q1, .ref q3, .ref q5, .int 0, .int 0, .int 0, .int 0, .int 0, .ref q7, .ref q9, .ref q11, .ref q13, .ref q15, .int 0, .int 0, .ref q17, .ref q19, .ref q21, .ref q23, .ref q25, .ref q27, .ref q29, .ref q31, .int 0, .int 0, .ref q33, .ref q35, .ref q37, .ref q39, .ref q41, .int 0, .ref q43, .int 0, .int 0, .int 0, .int 0, .ref q45, .int 0, .int 0])), (q1, .inl (cA2, 2000, .inl (fun _ => 0))), (q3, .inl (cA4, 5718, .inl (fun _ => 0))), (q43, .inl (cA44, 9, .inr (.inr (.inr (.inr f95))))), (q96, .inr (13, [.int 0, .int 0, .int 0, .int 0, .int 0, .int 0, .int 0, .int 0, .int 0, .int 0, .int 0, .int 0, .int 0, .int 0, .int 0, .int 0, .int 0, .int 0, .int 0, .null, .null, .null, .int 0, .int 0, .int 0, .int 0, .int 0, .int 0, .int 0, .null, .int 0, .int 0]))] H := hP
  have hD : va_D A [(h0, .inr (12, [.ref q1, .ref q3, .ref q5, .int 0, .int 0, .int 0, .int 0, .int 0, .ref q7, .ref q9, .ref q11, .ref q13, .ref q15, .int 0, .int 0, .ref q17, .ref q19, .ref q21, .ref q23, .ref q25, .ref q27, .ref q29, .ref q31, .int 0, .int 0, .ref q33, .ref q35, .ref q37, .ref q39, .ref q41, .int 0, .ref q43, .int 0, .int 0, .int 0, .int 0, .ref q45, .int 0, .int 0])), (q1, .inl (cA2, 2000, .inl (fun _ => 0))), (q3, .inl (cA4, 5718, .inl (fun _ => 0))), (q43, .inl (cA44, 9, .inr (.inr (.inr (.inr f95))))), (q96, .inr (13, [.int 0, .int 0, .int 0, .int 0, .int 0, .int 0, .int 0, .int 0, .int 0, .int 0, .int 0, .int 0, .int 0, .int 0, .int 0, .int 0, .int 0, .int 0, .int 0, .null, .null, .null, .int 0, .int 0, .int 0, .int 0, .int 0, .int 0, .int 0, .null, .int 0, .int 0]))] := hD
  refine lv_dup hx hb d_Mo_init_206 rfl ?_
  have hPc := hP.sub (ws' := [(q96, .inr (13, [.int 0, .int 0, .int 0, .int 0, .int 0, .int 0, .int 0, .int 0, .int 0, .int 0, .int 0, .int 0, .int 0, .int 0, .int 0, .int 0, .int 0, .int 0, .int 0, .null, .null, .null, .int 0, .int 0, .int 0, .int 0, .int 0, .int 0, .int 0, .null, .int 0, .int 0]))]) [4] rfl
  have hDc := hD.sub (ws' := [(q96, .inr (13, [.int 0, .int 0, .int 0, .int 0, .int 0, .int 0, .int 0, .int 0, .int 0, .int 0, .int 0, .int 0, .int 0, .int 0, .int 0, .int 0, .int 0, .int 0, .int 0, .null, .null, .null, .int 0, .int 0, .int 0, .int 0, .int 0, .int 0, .int 0, .null, .int 0, .int 0]))]) [4] (by decide) rfl
  have hKc := hK.sub (tys' := []) [] rfl
  have hFc := va_free (wc := [(q96, .inr (13, [.int 0, .int 0, .int 0, .int 0, .int 0, .int 0, .int 0, .int 0, .int 0, .int 0, .int 0, .int 0, .int 0, .int 0, .int 0, .int 0, .int 0, .int 0, .int 0, .null, .null, .null, .int 0, .int 0, .int 0, .int 0, .int 0, .int 0, .int 0, .null, .int 0, .int 0]))]) hD hS hA [4] rfl
  have hkc : 59 + 4 ≤ 68 := (Nat.le_of_ble_eq_true rfl)
  refine va_callv (va_runIN (As := []) (rest := [.ref q96, .int 7, .ref q43]) hfx (c_Pe_init l dC dI q96 H.size) ⟨(ux_cn 0 hT tw_1491 tw_1489 tw_14 rfl rfl (by decide +kernel) ⟨(Nat.le_of_ble_eq_true rfl), (Nat.le_of_ble_eq_true rfl)⟩), rfl, (ux_T_at hT tw_1490 rfl)⟩ (ux_pre [.ref q96] hT hPc hKc hDc) rfl rfl hl.1 rfl (lv_room (Nat.le_of_ble_eq_true rfl)) d_Mo_init_207 ⟨(Nat.le_of_ble_eq_true rfl), (Nat.le_of_ble_eq_true rfl)⟩) hS (fun q _ h => hFc q h) hFc (fun u t H1 locs ht hvm hw hB hz1 hk1 hS => ?_)
  obtain ⟨q98, q99, q100, q101, hP1, hK1, hD1⟩ := hB
  rw [ht] at hP1
  have hK1 := va_K.moved hvm.symm hK1
  obtain ⟨hP, hD⟩ := va_join (wr := [(h0, .inr (12, [.ref q1, .ref q3, .ref q5, .int 0, .int 0, .int 0, .int 0, .int 0, .ref q7, .ref q9, .ref q11, .ref q13, .ref q15, .int 0, .int 0, .ref q17, .ref q19, .ref q21, .ref q23, .ref q25, .ref q27, .ref q29, .ref q31, .int 0, .int 0, .ref q33, .ref q35, .ref q37, .ref q39, .ref q41, .int 0, .ref q43, .int 0, .int 0, .int 0, .int 0, .ref q45, .int 0, .int 0])), (q1, .inl (cA2, 2000, .inl (fun _ => 0))), (q3, .inl (cA4, 5718, .inl (fun _ => 0))), (q43, .inl (cA44, 9, .inr (.inr (.inr (.inr f95)))))]) (w1 := [(q96, .inr (13, [.int 0, .int 0, .int 0, .int 0, .int 0, .int 0, .int 0, .int 0, .int 0, .int 0, .int 0, .int 0, .int 0, .int 0, .int 0, .int 0, .int 0, .int 0, .int 0, .ref q98, .ref q99, .ref q100, .int 0, .int 0, .int 0, .int 0, .int 0, .int 0, .int 0, .ref q101, .int 0, .int 0]))]) hP hD [4] [0, 1, 2, 3] rfl rfl (by decide) (by decide) hk1 hFc hP1 hD1
  have hK := (hK.sub (tys' := [(cA2, .byte), (cA4, .byte), (cA6, .byte), (cA8, .byte), (cA10, .int), (cA12, .int), (cA14, .int), (cA16, .long), (cA18, .int), (cA20, .int), (cA22, .int), (cA24, .int), (cA26, .int), (cA28, .int), (cA30, .byte), (cA32, .boolean), (cA34, .byte), (cA36, .byte), (cA38, .int), (cA40, .int), (cA42, .int), (cA44, .object "UnikernelHttpModel$Peer"), (cA46, .byte)]) [0, 1, 2, 3, 4, 5, 6, 7, 8, 9, 10, 11, 12, 13, 14, 15, 16, 17, 18, 19, 20, 21, 22] rfl).app hK1
  generalize H1 = H at hP hS ⊢
  have hP : va_P (dC, dI) cls [(h0, .inr (12, [.ref q1, .ref q3, .ref q5, .int 0, .int 0, .int 0, .int 0, .int 0, .ref q7, .ref q9, .ref q11, .ref q13, .ref q15, .int 0, .int 0, .ref q17, .ref q19, .ref q21, .ref q23, .ref q25, .ref q27, .ref q29, .ref q31, .int 0, .int 0, .ref q33, .ref q35, .ref q37, .ref q39, .ref q41, .int 0, .ref q43, .int 0, .int 0, .int 0, .int 0, .ref q45, .int 0, .int 0])), (q1, .inl (cA2, 2000, .inl (fun _ => 0))), (q3, .inl (cA4, 5718, .inl (fun _ => 0))), (q43, .inl (cA44, 9, .inr (.inr (.inr (.inr f95))))), (q96, .inr (13, [.int 0, .int 0, .int 0, .int 0, .int 0, .int 0, .int 0, .int 0, .int 0, .int 0, .int 0, .int 0, .int 0, .int 0, .int 0, .int 0, .int 0, .int 0, .int 0, .ref q98, .ref q99, .ref q100, .int 0, .int 0, .int 0, .int 0, .int 0, .int 0, .int 0, .ref q101, .int 0, .int 0]))] H := hP
  have hD : va_D A [(h0, .inr (12, [.ref q1, .ref q3, .ref q5, .int 0, .int 0, .int 0, .int 0, .int 0, .ref q7, .ref q9, .ref q11, .ref q13, .ref q15, .int 0, .int 0, .ref q17, .ref q19, .ref q21, .ref q23, .ref q25, .ref q27, .ref q29, .ref q31, .int 0, .int 0, .ref q33, .ref q35, .ref q37, .ref q39, .ref q41, .int 0, .ref q43, .int 0, .int 0, .int 0, .int 0, .ref q45, .int 0, .int 0])), (q1, .inl (cA2, 2000, .inl (fun _ => 0))), (q3, .inl (cA4, 5718, .inl (fun _ => 0))), (q43, .inl (cA44, 9, .inr (.inr (.inr (.inr f95))))), (q96, .inr (13, [.int 0, .int 0, .int 0, .int 0, .int 0, .int 0, .int 0, .int 0, .int 0, .int 0, .int 0, .int 0, .int 0, .int 0, .int 0, .int 0, .int 0, .int 0, .int 0, .ref q98, .ref q99, .ref q100, .int 0, .int 0, .int 0, .int 0, .int 0, .int 0, .int 0, .ref q101, .int 0, .int 0]))] := hD
  have hK : va_K (dC, dI) cls [(cA2, .byte), (cA4, .byte), (cA6, .byte), (cA8, .byte), (cA10, .int), (cA12, .int), (cA14, .int), (cA16, .long), (cA18, .int), (cA20, .int), (cA22, .int), (cA24, .int), (cA26, .int), (cA28, .int), (cA30, .byte), (cA32, .boolean), (cA34, .byte), (cA36, .byte), (cA38, .int), (cA40, .int), (cA42, .int), (cA44, .object "UnikernelHttpModel$Peer"), (cA46, .byte)] s := hK
  refine va_astq hx hb hK hP hD hS 3 21 4 13 rfl rfl rfl rfl (show ¬ ((7 : Int32) < 0 ∨ 9 ≤ (7 : Int32).toNatClampNeg) by decide) d_Mo_init_210 (fun H locs hP hD hS => ?_)
  have hP : va_P (dC, dI) cls [(h0, .inr (12, [.ref q1, .ref q3, .ref q5, .int 0, .int 0, .int 0, .int 0, .int 0, .ref q7, .ref q9, .ref q11, .ref q13, .ref q15, .int 0, .int 0, .ref q17, .ref q19, .ref q21, .ref q23, .ref q25, .ref q27, .ref q29, .ref q31, .int 0, .int 0, .ref q33, .ref q35, .ref q37, .ref q39, .ref q41, .int 0, .ref q43, .int 0, .int 0, .int 0, .int 0, .ref q45, .int 0, .int 0])), (q1, .inl (cA2, 2000, .inl (fun _ => 0))), (q3, .inl (cA4, 5718, .inl (fun _ => 0))), (q43, .inl (cA44, 9, .inr (.inr (.inr (.inr (va_up f95 (7 : Int32).toNatClampNeg (some q96))))))), (q96, .inr (13, [.int 0, .int 0, .int 0, .int 0, .int 0, .int 0, .int 0, .int 0, .int 0, .int 0, .int 0, .int 0, .int 0, .int 0, .int 0, .int 0, .int 0, .int 0, .int 0, .ref q98, .ref q99, .ref q100, .int 0, .int 0, .int 0, .int 0, .int 0, .int 0, .int 0, .ref q101, .int 0, .int 0]))] H := hP
  have hD : va_D A [(h0, .inr (12, [.ref q1, .ref q3, .ref q5, .int 0, .int 0, .int 0, .int 0, .int 0, .ref q7, .ref q9, .ref q11, .ref q13, .ref q15, .int 0, .int 0, .ref q17, .ref q19, .ref q21, .ref q23, .ref q25, .ref q27, .ref q29, .ref q31, .int 0, .int 0, .ref q33, .ref q35, .ref q37, .ref q39, .ref q41, .int 0, .ref q43, .int 0, .int 0, .int 0, .int 0, .ref q45, .int 0, .int 0])), (q1, .inl (cA2, 2000, .inl (fun _ => 0))), (q3, .inl (cA4, 5718, .inl (fun _ => 0))), (q43, .inl (cA44, 9, .inr (.inr (.inr (.inr (va_up f95 (7 : Int32).toNatClampNeg (some q96))))))), (q96, .inr (13, [.int 0, .int 0, .int 0, .int 0, .int 0, .int 0, .int 0, .int 0, .int 0, .int 0, .int 0, .int 0, .int 0, .int 0, .int 0, .int 0, .int 0, .int 0, .int 0, .ref q98, .ref q99, .ref q100, .int 0, .int 0, .int 0, .int 0, .int 0, .int 0, .int 0, .ref q101, .int 0, .int 0]))] := hD
  generalize va_up f95 (7 : Int32).toNatClampNeg (some q96) = f102 at hP hD
  have hP := hP.sub (ws' := [(h0, .inr (12, [.ref q1, .ref q3, .ref q5, .int 0, .int 0, .int 0, .int 0, .int 0, .ref q7, .ref q9, .ref q11, .ref q13, .ref q15, .int 0, .int 0, .ref q17, .ref q19, .ref q21, .ref q23, .ref q25, .ref q27, .ref q29, .ref q31, .int 0, .int 0, .ref q33, .ref q35, .ref q37, .ref q39, .ref q41, .int 0, .ref q43, .int 0, .int 0, .int 0, .int 0, .ref q45, .int 0, .int 0])), (q1, .inl (cA2, 2000, .inl (fun _ => 0))), (q3, .inl (cA4, 5718, .inl (fun _ => 0))), (q43, .inl (cA44, 9, .inr (.inr (.inr (.inr f102)))))]) [0, 1, 2, 3] rfl
  have hD := hD.sub (ws' := [(h0, .inr (12, [.ref q1, .ref q3, .ref q5, .int 0, .int 0, .int 0, .int 0, .int 0, .ref q7, .ref q9, .ref q11, .ref q13, .ref q15, .int 0, .int 0, .ref q17, .ref q19, .ref q21, .ref q23, .ref q25, .ref q27, .ref q29, .ref q31, .int 0, .int 0, .ref q33, .ref q35, .ref q37, .ref q39, .ref q41, .int 0, .ref q43, .int 0, .int 0, .int 0, .int 0, .ref q45, .int 0, .int 0])), (q1, .inl (cA2, 2000, .inl (fun _ => 0))), (q3, .inl (cA4, 5718, .inl (fun _ => 0))), (q43, .inl (cA44, 9, .inr (.inr (.inr (.inr f102)))))]) [0, 1, 2, 3] (by decide) rfl
  refine lv_iinc (v := 8) hx hb d_Mo_init_211 hl (k := 0) rfl (by decide) (by decide) rfl (fun ls hl => ?_)
  have hl : lv_has ls 2 [(1, .int 8), (0, .ref h0)] := hl
  refine lv_goto hx hb d_Mo_init_214 (tgt := 192) (by decide) ?_
  refine lv_iload_n hx hb d_Mo_init_192 rfl (lv_at hl 0 rfl) ?_
  refine lv_bipush (v := 8) hx hb d_Mo_init_193 (by decide) ?_
  refine lv_icmp_gt (tgt := 217) hx hb d_Mo_init_195 (by decide) (fun hc => absurd hc (by decide)) (fun _ => ?_)
  refine lv_aload_n hx hb d_Mo_init_198 rfl (lv_at hl 1 rfl) ?_
  refine va_get (D := (dC, dI)) (ci := 12) (v := .ref q43) (C := R_Mo) (T := F_Mo) (N := 39) hx hb (u_Mo hT) (fun _ h => h) hown hK hP 0 rfl rfl 31 (by decide) (ux_T_at hT tw_1624 rfl) (fun _ h9 => h9) rfl d_Mo_init_199 ?_
  refine lv_iload_n hx hb d_Mo_init_202 rfl (lv_at hl 0 rfl) ?_
  refine va_new (ci := 13) (fs := [.int 0, .int 0, .int 0, .int 0, .int 0, .int 0, .int 0, .int 0, .int 0, .int 0, .int 0, .int 0, .int 0, .int 0, .int 0, .int 0, .int 0, .int 0, .int 0, .null, .null, .null, .int 0, .int 0, .int 0, .int 0, .int 0, .int 0, .int 0, .null, .int 0, .int 0]) (C := R_Pe) (T := F_Pe) (N := 32) hx hb (u_Pe hT) (fun _ h => h) t_Pe k_Pe hown (ux_T_at hT tw_1486 rfl) (ux_T_at hT tw_1488 rfl) (ux_T_at hT tw_14 rfl) hK hP hD hS hA rfl z_Pe (Nat.le_of_ble_eq_true rfl) (Nat.le_of_ble_eq_true rfl) d_Mo_init_203 (fun q103 H hP hD hS => ?_)
  have hP : va_P (dC, dI) cls [(h0, .inr (12, [.ref q1, .ref q3, .ref q5, .int 0, .int 0, .int 0, .int 0, .int 0, .ref q7, .ref q9, .ref q11, .ref q13, .ref q15, .int 0, .int 0, .ref q17, .ref q19, .ref q21, .ref q23, .ref q25, .ref q27, .ref q29, .ref q31, .int 0, .int 0, .ref q33, .ref q35, .ref q37, .ref q39, .ref q41, .int 0, .ref q43, .int 0, .int 0, .int 0, .int 0, .ref q45, .int 0, .int 0])), (q1, .inl (cA2, 2000, .inl (fun _ => 0))), (q3, .inl (cA4, 5718, .inl (fun _ => 0))), (q43, .inl (cA44, 9, .inr (.inr (.inr (.inr f102))))), (q103, .inr (13, [.int 0, .int 0, .int 0, .int 0, .int 0, .int 0, .int 0, .int 0, .int 0, .int 0, .int 0, .int 0, .int 0, .int 0, .int 0, .int 0, .int 0, .int 0, .int 0, .null, .null, .null, .int 0, .int 0, .int 0, .int 0, .int 0, .int 0, .int 0, .null, .int 0, .int 0]))] H := hP
  have hD : va_D A [(h0, .inr (12, [.ref q1, .ref q3, .ref q5, .int 0, .int 0, .int 0, .int 0, .int 0, .ref q7, .ref q9, .ref q11, .ref q13, .ref q15, .int 0, .int 0, .ref q17, .ref q19, .ref q21, .ref q23, .ref q25, .ref q27, .ref q29, .ref q31, .int 0, .int 0, .ref q33, .ref q35, .ref q37, .ref q39, .ref q41, .int 0, .ref q43, .int 0, .int 0, .int 0, .int 0, .ref q45, .int 0, .int 0])), (q1, .inl (cA2, 2000, .inl (fun _ => 0))), (q3, .inl (cA4, 5718, .inl (fun _ => 0))), (q43, .inl (cA44, 9, .inr (.inr (.inr (.inr f102))))), (q103, .inr (13, [.int 0, .int 0, .int 0, .int 0, .int 0, .int 0, .int 0, .int 0, .int 0, .int 0, .int 0, .int 0, .int 0, .int 0, .int 0, .int 0, .int 0, .int 0, .int 0, .null, .null, .null, .int 0, .int 0, .int 0, .int 0, .int 0, .int 0, .int 0, .null, .int 0, .int 0]))] := hD
  refine lv_dup hx hb d_Mo_init_206 rfl ?_
  have hPc := hP.sub (ws' := [(q103, .inr (13, [.int 0, .int 0, .int 0, .int 0, .int 0, .int 0, .int 0, .int 0, .int 0, .int 0, .int 0, .int 0, .int 0, .int 0, .int 0, .int 0, .int 0, .int 0, .int 0, .null, .null, .null, .int 0, .int 0, .int 0, .int 0, .int 0, .int 0, .int 0, .null, .int 0, .int 0]))]) [4] rfl
  have hDc := hD.sub (ws' := [(q103, .inr (13, [.int 0, .int 0, .int 0, .int 0, .int 0, .int 0, .int 0, .int 0, .int 0, .int 0, .int 0, .int 0, .int 0, .int 0, .int 0, .int 0, .int 0, .int 0, .int 0, .null, .null, .null, .int 0, .int 0, .int 0, .int 0, .int 0, .int 0, .int 0, .null, .int 0, .int 0]))]) [4] (by decide) rfl
  have hKc := hK.sub (tys' := []) [] rfl
  have hFc := va_free (wc := [(q103, .inr (13, [.int 0, .int 0, .int 0, .int 0, .int 0, .int 0, .int 0, .int 0, .int 0, .int 0, .int 0, .int 0, .int 0, .int 0, .int 0, .int 0, .int 0, .int 0, .int 0, .null, .null, .null, .int 0, .int 0, .int 0, .int 0, .int 0, .int 0, .int 0, .null, .int 0, .int 0]))]) hD hS hA [4] rfl
  have hkc : 64 + 4 ≤ 68 := (Nat.le_of_ble_eq_true rfl)
  refine va_callv (va_runIN (As := []) (rest := [.ref q103, .int 8, .ref q43]) hfx (c_Pe_init l dC dI q103 H.size) ⟨(ux_cn 0 hT tw_1491 tw_1489 tw_14 rfl rfl (by decide +kernel) ⟨(Nat.le_of_ble_eq_true rfl), (Nat.le_of_ble_eq_true rfl)⟩), rfl, (ux_T_at hT tw_1490 rfl)⟩ (ux_pre [.ref q103] hT hPc hKc hDc) rfl rfl hl.1 rfl (lv_room (Nat.le_of_ble_eq_true rfl)) d_Mo_init_207 ⟨(Nat.le_of_ble_eq_true rfl), (Nat.le_of_ble_eq_true rfl)⟩) hS (fun q _ h => hFc q h) hFc (fun u t H1 locs ht hvm hw hB hz1 hk1 hS => ?_)
  obtain ⟨q105, q106, q107, q108, hP1, hK1, hD1⟩ := hB
  rw [ht] at hP1
  have hK1 := va_K.moved hvm.symm hK1
  obtain ⟨hP, hD⟩ := va_join (wr := [(h0, .inr (12, [.ref q1, .ref q3, .ref q5, .int 0, .int 0, .int 0, .int 0, .int 0, .ref q7, .ref q9, .ref q11, .ref q13, .ref q15, .int 0, .int 0, .ref q17, .ref q19, .ref q21, .ref q23, .ref q25, .ref q27, .ref q29, .ref q31, .int 0, .int 0, .ref q33, .ref q35, .ref q37, .ref q39, .ref q41, .int 0, .ref q43, .int 0, .int 0, .int 0, .int 0, .ref q45, .int 0, .int 0])), (q1, .inl (cA2, 2000, .inl (fun _ => 0))), (q3, .inl (cA4, 5718, .inl (fun _ => 0))), (q43, .inl (cA44, 9, .inr (.inr (.inr (.inr f102)))))]) (w1 := [(q103, .inr (13, [.int 0, .int 0, .int 0, .int 0, .int 0, .int 0, .int 0, .int 0, .int 0, .int 0, .int 0, .int 0, .int 0, .int 0, .int 0, .int 0, .int 0, .int 0, .int 0, .ref q105, .ref q106, .ref q107, .int 0, .int 0, .int 0, .int 0, .int 0, .int 0, .int 0, .ref q108, .int 0, .int 0]))]) hP hD [4] [0, 1, 2, 3] rfl rfl (by decide) (by decide) hk1 hFc hP1 hD1
  have hK := (hK.sub (tys' := [(cA2, .byte), (cA4, .byte), (cA6, .byte), (cA8, .byte), (cA10, .int), (cA12, .int), (cA14, .int), (cA16, .long), (cA18, .int), (cA20, .int), (cA22, .int), (cA24, .int), (cA26, .int), (cA28, .int), (cA30, .byte), (cA32, .boolean), (cA34, .byte), (cA36, .byte), (cA38, .int), (cA40, .int), (cA42, .int), (cA44, .object "UnikernelHttpModel$Peer"), (cA46, .byte)]) [0, 1, 2, 3, 4, 5, 6, 7, 8, 9, 10, 11, 12, 13, 14, 15, 16, 17, 18, 19, 20, 21, 22] rfl).app hK1
  generalize H1 = H at hP hS ⊢
  have hP : va_P (dC, dI) cls [(h0, .inr (12, [.ref q1, .ref q3, .ref q5, .int 0, .int 0, .int 0, .int 0, .int 0, .ref q7, .ref q9, .ref q11, .ref q13, .ref q15, .int 0, .int 0, .ref q17, .ref q19, .ref q21, .ref q23, .ref q25, .ref q27, .ref q29, .ref q31, .int 0, .int 0, .ref q33, .ref q35, .ref q37, .ref q39, .ref q41, .int 0, .ref q43, .int 0, .int 0, .int 0, .int 0, .ref q45, .int 0, .int 0])), (q1, .inl (cA2, 2000, .inl (fun _ => 0))), (q3, .inl (cA4, 5718, .inl (fun _ => 0))), (q43, .inl (cA44, 9, .inr (.inr (.inr (.inr f102))))), (q103, .inr (13, [.int 0, .int 0, .int 0, .int 0, .int 0, .int 0, .int 0, .int 0, .int 0, .int 0, .int 0, .int 0, .int 0, .int 0, .int 0, .int 0, .int 0, .int 0, .int 0, .ref q105, .ref q106, .ref q107, .int 0, .int 0, .int 0, .int 0, .int 0, .int 0, .int 0, .ref q108, .int 0, .int 0]))] H := hP
  have hD : va_D A [(h0, .inr (12, [.ref q1, .ref q3, .ref q5, .int 0, .int 0, .int 0, .int 0, .int 0, .ref q7, .ref q9, .ref q11, .ref q13, .ref q15, .int 0, .int 0, .ref q17, .ref q19, .ref q21, .ref q23, .ref q25, .ref q27, .ref q29, .ref q31, .int 0, .int 0, .ref q33, .ref q35, .ref q37, .ref q39, .ref q41, .int 0, .ref q43, .int 0, .int 0, .int 0, .int 0, .ref q45, .int 0, .int 0])), (q1, .inl (cA2, 2000, .inl (fun _ => 0))), (q3, .inl (cA4, 5718, .inl (fun _ => 0))), (q43, .inl (cA44, 9, .inr (.inr (.inr (.inr f102))))), (q103, .inr (13, [.int 0, .int 0, .int 0, .int 0, .int 0, .int 0, .int 0, .int 0, .int 0, .int 0, .int 0, .int 0, .int 0, .int 0, .int 0, .int 0, .int 0, .int 0, .int 0, .ref q105, .ref q106, .ref q107, .int 0, .int 0, .int 0, .int 0, .int 0, .int 0, .int 0, .ref q108, .int 0, .int 0]))] := hD
  have hK : va_K (dC, dI) cls [(cA2, .byte), (cA4, .byte), (cA6, .byte), (cA8, .byte), (cA10, .int), (cA12, .int), (cA14, .int), (cA16, .long), (cA18, .int), (cA20, .int), (cA22, .int), (cA24, .int), (cA26, .int), (cA28, .int), (cA30, .byte), (cA32, .boolean), (cA34, .byte), (cA36, .byte), (cA38, .int), (cA40, .int), (cA42, .int), (cA44, .object "UnikernelHttpModel$Peer"), (cA46, .byte)] s := hK
  refine va_astq hx hb hK hP hD hS 3 21 4 13 rfl rfl rfl rfl (show ¬ ((8 : Int32) < 0 ∨ 9 ≤ (8 : Int32).toNatClampNeg) by decide) d_Mo_init_210 (fun H locs hP hD hS => ?_)
  have hP : va_P (dC, dI) cls [(h0, .inr (12, [.ref q1, .ref q3, .ref q5, .int 0, .int 0, .int 0, .int 0, .int 0, .ref q7, .ref q9, .ref q11, .ref q13, .ref q15, .int 0, .int 0, .ref q17, .ref q19, .ref q21, .ref q23, .ref q25, .ref q27, .ref q29, .ref q31, .int 0, .int 0, .ref q33, .ref q35, .ref q37, .ref q39, .ref q41, .int 0, .ref q43, .int 0, .int 0, .int 0, .int 0, .ref q45, .int 0, .int 0])), (q1, .inl (cA2, 2000, .inl (fun _ => 0))), (q3, .inl (cA4, 5718, .inl (fun _ => 0))), (q43, .inl (cA44, 9, .inr (.inr (.inr (.inr (va_up f102 (8 : Int32).toNatClampNeg (some q103))))))), (q103, .inr (13, [.int 0, .int 0, .int 0, .int 0, .int 0, .int 0, .int 0, .int 0, .int 0, .int 0, .int 0, .int 0, .int 0, .int 0, .int 0, .int 0, .int 0, .int 0, .int 0, .ref q105, .ref q106, .ref q107, .int 0, .int 0, .int 0, .int 0, .int 0, .int 0, .int 0, .ref q108, .int 0, .int 0]))] H := hP
  have hD : va_D A [(h0, .inr (12, [.ref q1, .ref q3, .ref q5, .int 0, .int 0, .int 0, .int 0, .int 0, .ref q7, .ref q9, .ref q11, .ref q13, .ref q15, .int 0, .int 0, .ref q17, .ref q19, .ref q21, .ref q23, .ref q25, .ref q27, .ref q29, .ref q31, .int 0, .int 0, .ref q33, .ref q35, .ref q37, .ref q39, .ref q41, .int 0, .ref q43, .int 0, .int 0, .int 0, .int 0, .ref q45, .int 0, .int 0])), (q1, .inl (cA2, 2000, .inl (fun _ => 0))), (q3, .inl (cA4, 5718, .inl (fun _ => 0))), (q43, .inl (cA44, 9, .inr (.inr (.inr (.inr (va_up f102 (8 : Int32).toNatClampNeg (some q103))))))), (q103, .inr (13, [.int 0, .int 0, .int 0, .int 0, .int 0, .int 0, .int 0, .int 0, .int 0, .int 0, .int 0, .int 0, .int 0, .int 0, .int 0, .int 0, .int 0, .int 0, .int 0, .ref q105, .ref q106, .ref q107, .int 0, .int 0, .int 0, .int 0, .int 0, .int 0, .int 0, .ref q108, .int 0, .int 0]))] := hD
  generalize va_up f102 (8 : Int32).toNatClampNeg (some q103) = f109 at hP hD
  have hP := hP.sub (ws' := [(h0, .inr (12, [.ref q1, .ref q3, .ref q5, .int 0, .int 0, .int 0, .int 0, .int 0, .ref q7, .ref q9, .ref q11, .ref q13, .ref q15, .int 0, .int 0, .ref q17, .ref q19, .ref q21, .ref q23, .ref q25, .ref q27, .ref q29, .ref q31, .int 0, .int 0, .ref q33, .ref q35, .ref q37, .ref q39, .ref q41, .int 0, .ref q43, .int 0, .int 0, .int 0, .int 0, .ref q45, .int 0, .int 0])), (q1, .inl (cA2, 2000, .inl (fun _ => 0))), (q3, .inl (cA4, 5718, .inl (fun _ => 0))), (q43, .inl (cA44, 9, .inr (.inr (.inr (.inr f109)))))]) [0, 1, 2, 3] rfl
  have hD := hD.sub (ws' := [(h0, .inr (12, [.ref q1, .ref q3, .ref q5, .int 0, .int 0, .int 0, .int 0, .int 0, .ref q7, .ref q9, .ref q11, .ref q13, .ref q15, .int 0, .int 0, .ref q17, .ref q19, .ref q21, .ref q23, .ref q25, .ref q27, .ref q29, .ref q31, .int 0, .int 0, .ref q33, .ref q35, .ref q37, .ref q39, .ref q41, .int 0, .ref q43, .int 0, .int 0, .int 0, .int 0, .ref q45, .int 0, .int 0])), (q1, .inl (cA2, 2000, .inl (fun _ => 0))), (q3, .inl (cA4, 5718, .inl (fun _ => 0))), (q43, .inl (cA44, 9, .inr (.inr (.inr (.inr f109)))))]) [0, 1, 2, 3] (by decide) rfl
  refine lv_iinc (v := 9) hx hb d_Mo_init_211 hl (k := 0) rfl (by decide) (by decide) rfl (fun ls hl => ?_)
  have hl : lv_has ls 2 [(1, .int 9), (0, .ref h0)] := hl
  refine lv_goto hx hb d_Mo_init_214 (tgt := 192) (by decide) ?_
  refine lv_iload_n hx hb d_Mo_init_192 rfl (lv_at hl 0 rfl) ?_
  refine lv_bipush (v := 8) hx hb d_Mo_init_193 (by decide) ?_
  refine lv_icmp_gt (tgt := 217) hx hb d_Mo_init_195 (by decide) (fun _ => ?_) (fun hc => absurd (by decide) hc)
  have hP9 := hP.sub (ws' := [(h0, .inr (12, [.ref q1, .ref q3, .ref q5, .int 0, .int 0, .int 0, .int 0, .int 0, .ref q7, .ref q9, .ref q11, .ref q13, .ref q15, .int 0, .int 0, .ref q17, .ref q19, .ref q21, .ref q23, .ref q25, .ref q27, .ref q29, .ref q31, .int 0, .int 0, .ref q33, .ref q35, .ref q37, .ref q39, .ref q41, .int 0, .ref q43, .int 0, .int 0, .int 0, .int 0, .ref q45, .int 0, .int 0])), (q1, .inl (cA2, 2000, .inl (fun _ => 0))), (q3, .inl (cA4, 5718, .inl (fun _ => 0)))]) [0, 1, 2] rfl
  have hD9 := hD.sub (ws' := [(h0, .inr (12, [.ref q1, .ref q3, .ref q5, .int 0, .int 0, .int 0, .int 0, .int 0, .ref q7, .ref q9, .ref q11, .ref q13, .ref q15, .int 0, .int 0, .ref q17, .ref q19, .ref q21, .ref q23, .ref q25, .ref q27, .ref q29, .ref q31, .int 0, .int 0, .ref q33, .ref q35, .ref q37, .ref q39, .ref q41, .int 0, .ref q43, .int 0, .int 0, .int 0, .int 0, .ref q45, .int 0, .int 0])), (q1, .inl (cA2, 2000, .inl (fun _ => 0))), (q3, .inl (cA4, 5718, .inl (fun _ => 0)))]) [0, 1, 2] (by decide) rfl
  have hK9 := hK.sub (tys' := [(cA2, .byte), (cA4, .byte)]) [0, 1] rfl
  refine W.widen (k := 68) (n := 291723) (Nat.le_of_ble_eq_true rfl) (Nat.le_of_ble_eq_true rfl) ?_
  exact W.vret hx hb hr (fun t ht hW => ⟨⟨(), rfl, trivial, q1, q3, q5, q7, q9, q11, q13, q15, q17, q19, q21, q23, q25, q27, q29, q31, q33, q35, q37, q39, q41, q43, q45, cA2, cA4, by rw [ht]; exact hP9, va_K.moved hW.alike hK9, hD9⟩, hS.F ht⟩) hS.2.2 d_Mo_init_217
end
section
/-! Which words the rows behind use, by their places. -/
theorem tw_80 : (Jvm.Cond.fieldLink "UnikernelHttp$Wire" (24 : Nat) "UnikernelHttp$Wire" "sent" "I") ∈ lw_tbl := ux_in 80 ux_t1 rfl
theorem tw_143 : (Jvm.Cond.fieldLink "UnikernelHttp$Gatherings" (18 : Nat) "UnikernelHttp$Gatherings" "held" "I") ∈ lw_tbl := ux_in 143 ux_t1 rfl
theorem tw_373 : (Jvm.Cond.fieldLink "UnikernelHttp$Tcp" (26 : Nat) "UnikernelHttp$Tcp" "held" "I") ∈ lw_tbl := ux_in 133 ux_t2 rfl
theorem tw_1392 : (Jvm.Cond.constant "UnikernelHttp$Gatherings" (25 : Nat) (2147483647 : Int32)) ∈ lw_tbl := ux_in 192 ux_t6 rfl
abbrev b_U_putFour : ByteArray := prog_1_method_23_code
abbrev y_U_putFour : MethodName := ⟨"UnikernelHttp", "putFour", "([BII)V"⟩
theorem d_U_putFour_0 : decode b_U_putFour 0 = .ok (.iload_n 1, 1) := by decide +kernel
theorem d_U_putFour_1 : decode b_U_putFour 1 = .ok (.ifCond .lt 46, 3) := by decide +kernel
theorem d_U_putFour_4 : decode b_U_putFour 4 = .ok (.iload_n 1, 1) := by decide +kernel
theorem d_U_putFour_5 : decode b_U_putFour 5 = .ok (.aload_n 0, 1) := by decide +kernel
theorem d_U_putFour_6 : decode b_U_putFour 6 = .ok (.arraylength, 1) := by decide +kernel
theorem d_U_putFour_7 : decode b_U_putFour 7 = .ok (.iconst 3, 1) := by decide +kernel
theorem d_U_putFour_8 : decode b_U_putFour 8 = .ok (.isub, 1) := by decide +kernel
theorem d_U_putFour_9 : decode b_U_putFour 9 = .ok (.if_icmp .ge 38, 3) := by decide +kernel
theorem d_U_putFour_12 : decode b_U_putFour 12 = .ok (.aload_n 0, 1) := by decide +kernel
theorem d_U_putFour_13 : decode b_U_putFour 13 = .ok (.iload_n 1, 1) := by decide +kernel
theorem d_U_putFour_14 : decode b_U_putFour 14 = .ok (.iload_n 2, 1) := by decide +kernel
theorem d_U_putFour_15 : decode b_U_putFour 15 = .ok (.bipush 24, 2) := by decide +kernel
theorem d_U_putFour_17 : decode b_U_putFour 17 = .ok (.ishr, 1) := by decide +kernel
theorem d_U_putFour_18 : decode b_U_putFour 18 = .ok (.i2b, 1) := by decide +kernel
theorem d_U_putFour_19 : decode b_U_putFour 19 = .ok (.bastore, 1) := by decide +kernel
theorem d_U_putFour_20 : decode b_U_putFour 20 = .ok (.aload_n 0, 1) := by decide +kernel
theorem d_U_putFour_21 : decode b_U_putFour 21 = .ok (.iload_n 1, 1) := by decide +kernel
theorem d_U_putFour_22 : decode b_U_putFour 22 = .ok (.iconst 1, 1) := by decide +kernel
theorem d_U_putFour_23 : decode b_U_putFour 23 = .ok (.iadd, 1) := by decide +kernel
theorem d_U_putFour_24 : decode b_U_putFour 24 = .ok (.iload_n 2, 1) := by decide +kernel
theorem d_U_putFour_25 : decode b_U_putFour 25 = .ok (.bipush 16, 2) := by decide +kernel
theorem d_U_putFour_27 : decode b_U_putFour 27 = .ok (.ishr, 1) := by decide +kernel
theorem d_U_putFour_28 : decode b_U_putFour 28 = .ok (.i2b, 1) := by decide +kernel
theorem d_U_putFour_29 : decode b_U_putFour 29 = .ok (.bastore, 1) := by decide +kernel
theorem d_U_putFour_30 : decode b_U_putFour 30 = .ok (.aload_n 0, 1) := by decide +kernel
theorem d_U_putFour_31 : decode b_U_putFour 31 = .ok (.iload_n 1, 1) := by decide +kernel
theorem d_U_putFour_32 : decode b_U_putFour 32 = .ok (.iconst 2, 1) := by decide +kernel
theorem d_U_putFour_33 : decode b_U_putFour 33 = .ok (.iadd, 1) := by decide +kernel
theorem d_U_putFour_34 : decode b_U_putFour 34 = .ok (.iload_n 2, 1) := by decide +kernel
theorem d_U_putFour_35 : decode b_U_putFour 35 = .ok (.bipush 8, 2) := by decide +kernel
theorem d_U_putFour_37 : decode b_U_putFour 37 = .ok (.ishr, 1) := by decide +kernel
theorem d_U_putFour_38 : decode b_U_putFour 38 = .ok (.i2b, 1) := by decide +kernel
theorem d_U_putFour_39 : decode b_U_putFour 39 = .ok (.bastore, 1) := by decide +kernel
theorem d_U_putFour_40 : decode b_U_putFour 40 = .ok (.aload_n 0, 1) := by decide +kernel
theorem d_U_putFour_41 : decode b_U_putFour 41 = .ok (.iload_n 1, 1) := by decide +kernel
theorem d_U_putFour_42 : decode b_U_putFour 42 = .ok (.iconst 3, 1) := by decide +kernel
theorem d_U_putFour_43 : decode b_U_putFour 43 = .ok (.iadd, 1) := by decide +kernel
theorem d_U_putFour_44 : decode b_U_putFour 44 = .ok (.iload_n 2, 1) := by decide +kernel
theorem d_U_putFour_45 : decode b_U_putFour 45 = .ok (.i2b, 1) := by decide +kernel
theorem d_U_putFour_46 : decode b_U_putFour 46 = .ok (.bastore, 1) := by decide +kernel
theorem d_U_putFour_47 : decode b_U_putFour 47 = .ok (.return_, 1) := by decide +kernel
abbrev b_U_isForMe : ByteArray := prog_1_method_12_code
abbrev y_U_isForMe : MethodName := ⟨"UnikernelHttp", "isForMe", "(I)Z"⟩
theorem d_U_isForMe_0 : decode b_U_isForMe 0 = .ok (.iload_n 1, 1) := by decide +kernel
theorem d_U_isForMe_1 : decode b_U_isForMe 1 = .ok (.bipush 14, 2) := by decide +kernel
theorem d_U_isForMe_3 : decode b_U_isForMe 3 = .ok (.if_icmp .ge 5, 3) := by decide +kernel
theorem d_U_isForMe_6 : decode b_U_isForMe 6 = .ok (.iconst 0, 1) := by decide +kernel
theorem d_U_isForMe_7 : decode b_U_isForMe 7 = .ok (.ireturn, 1) := by decide +kernel
abbrev b_Gs_due : ByteArray := prog_4_method_2_code
abbrev y_Gs_due : MethodName := ⟨"UnikernelHttp$Gatherings", "due", "()I"⟩
theorem d_Gs_due_0 : decode b_Gs_due 0 = .ok (.aload_n 0, 1) := by decide +kernel
theorem d_Gs_due_1 : decode b_Gs_due 1 = .ok (.getfield 18, 3) := by decide +kernel
theorem d_Gs_due_4 : decode b_Gs_due 4 = .ok (.ifCond .le 19, 3) := by decide +kernel
theorem d_Gs_due_23 : decode b_Gs_due 23 = .ok (.ldc 25, 2) := by decide +kernel
theorem d_Gs_due_25 : decode b_Gs_due 25 = .ok (.ireturn, 1) := by decide +kernel
abbrev b_Tc_firstDue : ByteArray := prog_11_method_3_code
abbrev y_Tc_firstDue : MethodName := ⟨"UnikernelHttp$Tcp", "firstDue", "()LUnikernelHttp$Connection;"⟩
theorem d_Tc_firstDue_0 : decode b_Tc_firstDue 0 = .ok (.aconst_null, 1) := by decide +kernel
theorem d_Tc_firstDue_1 : decode b_Tc_firstDue 1 = .ok (.astore_n 1, 1) := by decide +kernel
theorem d_Tc_firstDue_2 : decode b_Tc_firstDue 2 = .ok (.iconst 0, 1) := by decide +kernel
theorem d_Tc_firstDue_3 : decode b_Tc_firstDue 3 = .ok (.istore_n 2, 1) := by decide +kernel
theorem d_Tc_firstDue_4 : decode b_Tc_firstDue 4 = .ok (.iload_n 2, 1) := by decide +kernel
theorem d_Tc_firstDue_5 : decode b_Tc_firstDue 5 = .ok (.aload_n 0, 1) := by decide +kernel
theorem d_Tc_firstDue_6 : decode b_Tc_firstDue 6 = .ok (.getfield 26, 3) := by decide +kernel
theorem d_Tc_firstDue_9 : decode b_Tc_firstDue 9 = .ok (.if_icmp .ge 36, 3) := by decide +kernel
theorem d_Tc_firstDue_45 : decode b_Tc_firstDue 45 = .ok (.aload_n 1, 1) := by decide +kernel
theorem d_Tc_firstDue_46 : decode b_Tc_firstDue 46 = .ok (.areturn, 1) := by decide +kernel
abbrev b_Tc_find : ByteArray := prog_11_method_2_code
abbrev y_Tc_find : MethodName := ⟨"UnikernelHttp$Tcp", "find", "(II)LUnikernelHttp$Connection;"⟩
theorem d_Tc_find_0 : decode b_Tc_find 0 = .ok (.iconst 0, 1) := by decide +kernel
theorem d_Tc_find_1 : decode b_Tc_find 1 = .ok (.istore_n 3, 1) := by decide +kernel
theorem d_Tc_find_2 : decode b_Tc_find 2 = .ok (.iload_n 3, 1) := by decide +kernel
theorem d_Tc_find_3 : decode b_Tc_find 3 = .ok (.aload_n 0, 1) := by decide +kernel
theorem d_Tc_find_4 : decode b_Tc_find 4 = .ok (.getfield 26, 3) := by decide +kernel
theorem d_Tc_find_7 : decode b_Tc_find 7 = .ok (.if_icmp .ge 42, 3) := by decide +kernel
theorem d_Tc_find_49 : decode b_Tc_find 49 = .ok (.aconst_null, 1) := by decide +kernel
theorem d_Tc_find_50 : decode b_Tc_find 50 = .ok (.areturn, 1) := by decide +kernel
abbrev b_Wi_keeps : ByteArray := prog_12_method_3_code
abbrev y_Wi_keeps : MethodName := ⟨"UnikernelHttp$Wire", "keeps", "(I)Z"⟩
theorem d_Wi_keeps_0 : decode b_Wi_keeps 0 = .ok (.iload_n 1, 1) := by decide +kernel
theorem d_Wi_keeps_1 : decode b_Wi_keeps 1 = .ok (.ifCond .lt 26, 3) := by decide +kernel
theorem d_Wi_keeps_4 : decode b_Wi_keeps 4 = .ok (.iload_n 1, 1) := by decide +kernel
theorem d_Wi_keeps_5 : decode b_Wi_keeps 5 = .ok (.aload_n 0, 1) := by decide +kernel
theorem d_Wi_keeps_6 : decode b_Wi_keeps 6 = .ok (.getfield 24, 3) := by decide +kernel
theorem d_Wi_keeps_9 : decode b_Wi_keeps 9 = .ok (.if_icmp .ge 18, 3) := by decide +kernel
theorem d_Wi_keeps_27 : decode b_Wi_keeps 27 = .ok (.iconst 0, 1) := by decide +kernel
theorem d_Wi_keeps_28 : decode b_Wi_keeps 28 = .ok (.ireturn, 1) := by decide +kernel
theorem ux_l0 : (0 : Int32).toInt = 0 := by decide
set_option maxHeartbeats 4000000 in
set_option maxRecDepth 100000 in
theorem c_U_putFour_0 (l : Launch) (dC : Nat → ClassId) (dI : Nat → Nat → Nat) (row : Nat) (cB : ClassId) (v : Int32) (f : Nat → Int32) (sz : Nat) : Met l y_U_putFour [Cond.code y_U_putFour b_U_putFour 3 (none)] ({ frames := 20, cells := 0, slots := 0, locals := 300 }) (ux_Pc [.ref row, .int 0, .int v] (dC, dI) cls [(row, .inl (cB, 2000, .inl f))] [(cB, .byte)] sz) (va_Qv (fun _ : Unit => True) (fun (_ : Unit) (t : State) => ∃ (f2 : Nat → Int32), ux_B (dC, dI) cls (va_A [(row, .inl (cB, 2000, .inl f))] sz) [(row, .inl (cB, 2000, .inl f2))] [(cB, .byte)] t) (va_A [(row, .inl (cB, 2000, .inl f))] sz)) 0 0 (va_A [(row, .inl (cB, 2000, .inl f))] sz) := by
  refine Met.ofW (cc := b_U_putFour) (maxL := 3) (ret := none) (by decide) rfl ?_
  intro p e s m args below meth c s₁ B hml hv
  obtain ⟨rfl, hsz, hP, hK, hD0, hT⟩ := hv
  have hx := B.exec
  have hb := B.bytes
  have hr := B.returns
  have hown : s.vm.findClass "UnikernelHttp" = some m.cls := findClass_of_methodNamed B.named
  have hlocks := B.notSynchronized
  subst hsz
  have hD := hD0.self (sz := s.heap.size)
  have hns := ux_ns hP
  generalize hAe : va_A [(row, .inl (cB, 2000, .inl f))] s.heap.size = A at hD hns ⊢
  have hA : ∀ q : Nat, s.heap.size ≤ q → A q := fun q h => by rw [← hAe]; exact Or.inr h
  have hS : va_S A s.heap s.heap [] := va_S.rf
  have hl := lv_entry ([.ref row, .int 0, .int v]) (n := 3) (Nat.le_of_ble_eq_true rfl)
  rw [lg_entry_eq]
  generalize (lg_sl ([.ref row, .int 0, .int v]) ++ List.replicate (3 - (lg_sl ([.ref row, .int 0, .int v])).length) Slot.unset).toArray = ls at hl ⊢
  have hl : lv_has ls 3 [(0, .ref row), (1, .int 0), (2, .int v)] := hl
  have hfx : CallFix p m c b_U_putFour 3 s ([.ref row, .int 0, .int v] : List Value).toArray [] "UnikernelHttp" := ⟨hx, hb, hml, hown, fun _ h => by cases h⟩
  refine lv_iload_n hx hb d_U_putFour_0 rfl (lv_at hl 1 rfl) ?_
  refine lv_if_lt (tgt := 47) hx hb d_U_putFour_1 (by decide) (fun hc => absurd hc (by decide)) (fun _ => ?_)
  refine lv_iload_n hx hb d_U_putFour_4 rfl (lv_at hl 1 rfl) ?_
  refine lv_aload_n hx hb d_U_putFour_5 rfl (lv_at hl 0 rfl) ?_
  refine va_alen (v := 2000) hx hb hK hP 0 0 rfl rfl (show Int32.ofNat 2000 = 2000 by decide) d_U_putFour_6 ?_
  refine lv_iconst (v := 3) hx hb d_U_putFour_7 (by decide) ?_
  refine lv_isub hx hb d_U_putFour_8 ?_
  refine lv_topi (fun x1 ex1 => ?_)
  obtain rfl : x1 = 1997 := ex1.trans (by decide)
  refine lv_icmp_ge (tgt := 47) hx hb d_U_putFour_9 (by decide) (fun hc => absurd hc (by decide)) (fun _ => ?_)
  refine lv_aload_n hx hb d_U_putFour_12 rfl (lv_at hl 0 rfl) ?_
  refine lv_iload_n hx hb d_U_putFour_13 rfl (lv_at hl 1 rfl) ?_
  refine lv_iload_n hx hb d_U_putFour_14 rfl (lv_at hl 2 rfl) ?_
  refine lv_bipush (v := 24) hx hb d_U_putFour_15 (by decide) ?_
  refine lv_ishr hx hb d_U_putFour_17 ?_
  refine lv_topi (fun x2 ex2 => ?_)
  refine lv_i2b hx hb d_U_putFour_18 rfl ?_
  refine lv_topi (fun x3 ex3 => ?_)
  refine va_bast hx hb hK hP hD hS 0 0 rfl rfl (i := 0) (show ¬ ((0 : Int32) < 0 ∨ 2000 ≤ (0 : Int32).toNatClampNeg) by decide) d_U_putFour_19 (fun H locs hP hD hS => ?_)
  have hP : va_P (dC, dI) cls [(row, .inl (cB, 2000, .inl (upd f (0 : Int32).toNatClampNeg (vp_nar .byte x3))))] H := hP
  have hD : va_D A [(row, .inl (cB, 2000, .inl (upd f (0 : Int32).toNatClampNeg (vp_nar .byte x3))))] := hD
  generalize upd f (0 : Int32).toNatClampNeg (vp_nar .byte x3) = f4 at hP hD
  refine lv_aload_n hx hb d_U_putFour_20 rfl (lv_at hl 0 rfl) ?_
  refine lv_iload_n hx hb d_U_putFour_21 rfl (lv_at hl 1 rfl) ?_
  refine lv_iconst (v := 1) hx hb d_U_putFour_22 (by decide) ?_
  refine lv_iadd hx hb d_U_putFour_23 ?_
  refine lv_topi (fun x5 ex5 => ?_)
  obtain rfl : x5 = 1 := ex5.trans (by decide)
  refine lv_iload_n hx hb d_U_putFour_24 rfl (lv_at hl 2 rfl) ?_
  refine lv_bipush (v := 16) hx hb d_U_putFour_25 (by decide) ?_
  refine lv_ishr hx hb d_U_putFour_27 ?_
  refine lv_topi (fun x6 ex6 => ?_)
  refine lv_i2b hx hb d_U_putFour_28 rfl ?_
  refine lv_topi (fun x7 ex7 => ?_)
  refine va_bast hx hb hK hP hD hS 0 0 rfl rfl (i := 1) (show ¬ ((1 : Int32) < 0 ∨ 2000 ≤ (1 : Int32).toNatClampNeg) by decide) d_U_putFour_29 (fun H locs hP hD hS => ?_)
  have hP : va_P (dC, dI) cls [(row, .inl (cB, 2000, .inl (upd f4 (1 : Int32).toNatClampNeg (vp_nar .byte x7))))] H := hP
  have hD : va_D A [(row, .inl (cB, 2000, .inl (upd f4 (1 : Int32).toNatClampNeg (vp_nar .byte x7))))] := hD
  generalize upd f4 (1 : Int32).toNatClampNeg (vp_nar .byte x7) = f8 at hP hD
  refine lv_aload_n hx hb d_U_putFour_30 rfl (lv_at hl 0 rfl) ?_
  refine lv_iload_n hx hb d_U_putFour_31 rfl (lv_at hl 1 rfl) ?_
  refine lv_iconst (v := 2) hx hb d_U_putFour_32 (by decide) ?_
  refine lv_iadd hx hb d_U_putFour_33 ?_
  refine lv_topi (fun x9 ex9 => ?_)
  obtain rfl : x9 = 2 := ex9.trans (by decide)
  refine lv_iload_n hx hb d_U_putFour_34 rfl (lv_at hl 2 rfl) ?_
  refine lv_bipush (v := 8) hx hb d_U_putFour_35 (by decide) ?_
  refine lv_ishr hx hb d_U_putFour_37 ?_
  refine lv_topi (fun x10 ex10 => ?_)
  refine lv_i2b hx hb d_U_putFour_38 rfl ?_
  refine lv_topi (fun x11 ex11 => ?_)
  refine va_bast hx hb hK hP hD hS 0 0 rfl rfl (i := 2) (show ¬ ((2 : Int32) < 0 ∨ 2000 ≤ (2 : Int32).toNatClampNeg) by decide) d_U_putFour_39 (fun H locs hP hD hS => ?_)
  have hP : va_P (dC, dI) cls [(row, .inl (cB, 2000, .inl (upd f8 (2 : Int32).toNatClampNeg (vp_nar .byte x11))))] H := hP
  have hD : va_D A [(row, .inl (cB, 2000, .inl (upd f8 (2 : Int32).toNatClampNeg (vp_nar .byte x11))))] := hD
  generalize upd f8 (2 : Int32).toNatClampNeg (vp_nar .byte x11) = f12 at hP hD
  refine lv_aload_n hx hb d_U_putFour_40 rfl (lv_at hl 0 rfl) ?_
  refine lv_iload_n hx hb d_U_putFour_41 rfl (lv_at hl 1 rfl) ?_
  refine lv_iconst (v := 3) hx hb d_U_putFour_42 (by decide) ?_
  refine lv_iadd hx hb d_U_putFour_43 ?_
  refine lv_topi (fun x13 ex13 => ?_)
  obtain rfl : x13 = 3 := ex13.trans (by decide)
  refine lv_iload_n hx hb d_U_putFour_44 rfl (lv_at hl 2 rfl) ?_
  refine lv_i2b hx hb d_U_putFour_45 rfl ?_
  refine lv_topi (fun x14 ex14 => ?_)
  refine va_bast hx hb hK hP hD hS 0 0 rfl rfl (i := 3) (show ¬ ((3 : Int32) < 0 ∨ 2000 ≤ (3 : Int32).toNatClampNeg) by decide) d_U_putFour_46 (fun H locs hP hD hS => ?_)
  have hP : va_P (dC, dI) cls [(row, .inl (cB, 2000, .inl (upd f12 (3 : Int32).toNatClampNeg (vp_nar .byte x14))))] H := hP
  have hD : va_D A [(row, .inl (cB, 2000, .inl (upd f12 (3 : Int32).toNatClampNeg (vp_nar .byte x14))))] := hD
  generalize upd f12 (3 : Int32).toNatClampNeg (vp_nar .byte x14) = f15 at hP hD
  have hP9 := hP.sub (ws' := [(row, .inl (cB, 2000, .inl f15))]) [0] rfl
  have hD9 := hD.sub (ws' := [(row, .inl (cB, 2000, .inl f15))]) [0] (by decide) rfl
  have hK9 := hK.sub (tys' := [(cB, .byte)]) [0] rfl
  refine W.widen (k := 0) (n := 0) (Nat.le_of_ble_eq_true rfl) (Nat.le_of_ble_eq_true rfl) ?_
  exact W.vret hx hb hr (fun t ht hW => ⟨⟨(), rfl, trivial, f15, by rw [ht]; exact hP9, va_K.moved hW.alike hK9, hD9⟩, hS.F ht⟩) hS.2.2 d_U_putFour_47
set_option maxHeartbeats 4000000 in
set_option maxRecDepth 100000 in
theorem c_U_putFour_4 (l : Launch) (dC : Nat → ClassId) (dI : Nat → Nat → Nat) (row : Nat) (cB : ClassId) (v : Int32) (f : Nat → Int32) (sz : Nat) : Met l y_U_putFour [Cond.code y_U_putFour b_U_putFour 3 (none)] ({ frames := 20, cells := 0, slots := 0, locals := 300 }) (ux_Pc [.ref row, .int 4, .int v] (dC, dI) cls [(row, .inl (cB, 2000, .inl f))] [(cB, .byte)] sz) (va_Qv (fun _ : Unit => True) (fun (_ : Unit) (t : State) => ∃ (f2 : Nat → Int32), ux_B (dC, dI) cls (va_A [(row, .inl (cB, 2000, .inl f))] sz) [(row, .inl (cB, 2000, .inl f2))] [(cB, .byte)] t) (va_A [(row, .inl (cB, 2000, .inl f))] sz)) 0 0 (va_A [(row, .inl (cB, 2000, .inl f))] sz) := by
  refine Met.ofW (cc := b_U_putFour) (maxL := 3) (ret := none) (by decide) rfl ?_
  intro p e s m args below meth c s₁ B hml hv
  obtain ⟨rfl, hsz, hP, hK, hD0, hT⟩ := hv
  have hx := B.exec
  have hb := B.bytes
  have hr := B.returns
  have hown : s.vm.findClass "UnikernelHttp" = some m.cls := findClass_of_methodNamed B.named
  have hlocks := B.notSynchronized
  subst hsz
  have hD := hD0.self (sz := s.heap.size)
  have hns := ux_ns hP
  generalize hAe : va_A [(row, .inl (cB, 2000, .inl f))] s.heap.size = A at hD hns ⊢
  have hA : ∀ q : Nat, s.heap.size ≤ q → A q := fun q h => by rw [← hAe]; exact Or.inr h
  have hS : va_S A s.heap s.heap [] := va_S.rf
  have hl := lv_entry ([.ref row, .int 4, .int v]) (n := 3) (Nat.le_of_ble_eq_true rfl)
  rw [lg_entry_eq]
  generalize (lg_sl ([.ref row, .int 4, .int v]) ++ List.replicate (3 - (lg_sl ([.ref row, .int 4, .int v])).length) Slot.unset).toArray = ls at hl ⊢
  have hl : lv_has ls 3 [(0, .ref row), (1, .int 4), (2, .int v)] := hl
  have hfx : CallFix p m c b_U_putFour 3 s ([.ref row, .int 4, .int v] : List Value).toArray [] "UnikernelHttp" := ⟨hx, hb, hml, hown, fun _ h => by cases h⟩
  refine lv_iload_n hx hb d_U_putFour_0 rfl (lv_at hl 1 rfl) ?_
  refine lv_if_lt (tgt := 47) hx hb d_U_putFour_1 (by decide) (fun hc => absurd hc (by decide)) (fun _ => ?_)
  refine lv_iload_n hx hb d_U_putFour_4 rfl (lv_at hl 1 rfl) ?_
  refine lv_aload_n hx hb d_U_putFour_5 rfl (lv_at hl 0 rfl) ?_
  refine va_alen (v := 2000) hx hb hK hP 0 0 rfl rfl (show Int32.ofNat 2000 = 2000 by decide) d_U_putFour_6 ?_
  refine lv_iconst (v := 3) hx hb d_U_putFour_7 (by decide) ?_
  refine lv_isub hx hb d_U_putFour_8 ?_
  refine lv_topi (fun x1 ex1 => ?_)
  obtain rfl : x1 = 1997 := ex1.trans (by decide)
  refine lv_icmp_ge (tgt := 47) hx hb d_U_putFour_9 (by decide) (fun hc => absurd hc (by decide)) (fun _ => ?_)
  refine lv_aload_n hx hb d_U_putFour_12 rfl (lv_at hl 0 rfl) ?_
  refine lv_iload_n hx hb d_U_putFour_13 rfl (lv_at hl 1 rfl) ?_
  refine lv_iload_n hx hb d_U_putFour_14 rfl (lv_at hl 2 rfl) ?_
  refine lv_bipush (v := 24) hx hb d_U_putFour_15 (by decide) ?_
  refine lv_ishr hx hb d_U_putFour_17 ?_
  refine lv_topi (fun x2 ex2 => ?_)
  refine lv_i2b hx hb d_U_putFour_18 rfl ?_
  refine lv_topi (fun x3 ex3 => ?_)
  refine va_bast hx hb hK hP hD hS 0 0 rfl rfl (i := 4) (show ¬ ((4 : Int32) < 0 ∨ 2000 ≤ (4 : Int32).toNatClampNeg) by decide) d_U_putFour_19 (fun H locs hP hD hS => ?_)
  have hP : va_P (dC, dI) cls [(row, .inl (cB, 2000, .inl (upd f (4 : Int32).toNatClampNeg (vp_nar .byte x3))))] H := hP
  have hD : va_D A [(row, .inl (cB, 2000, .inl (upd f (4 : Int32).toNatClampNeg (vp_nar .byte x3))))] := hD
  generalize upd f (4 : Int32).toNatClampNeg (vp_nar .byte x3) = f4 at hP hD
  refine lv_aload_n hx hb d_U_putFour_20 rfl (lv_at hl 0 rfl) ?_
  refine lv_iload_n hx hb d_U_putFour_21 rfl (lv_at hl 1 rfl) ?_
  refine lv_iconst (v := 1) hx hb d_U_putFour_22 (by decide) ?_
  refine lv_iadd hx hb d_U_putFour_23 ?_
  refine lv_topi (fun x5 ex5 => ?_)
  obtain rfl : x5 = 5 := ex5.trans (by decide)
  refine lv_iload_n hx hb d_U_putFour_24 rfl (lv_at hl 2 rfl) ?_
  refine lv_bipush (v := 16) hx hb d_U_putFour_25 (by decide) ?_
  refine lv_ishr hx hb d_U_putFour_27 ?_
  refine lv_topi (fun x6 ex6 => ?_)
  refine lv_i2b hx hb d_U_putFour_28 rfl ?_
  refine lv_topi (fun x7 ex7 => ?_)
  refine va_bast hx hb hK hP hD hS 0 0 rfl rfl (i := 5) (show ¬ ((5 : Int32) < 0 ∨ 2000 ≤ (5 : Int32).toNatClampNeg) by decide) d_U_putFour_29 (fun H locs hP hD hS => ?_)
  have hP : va_P (dC, dI) cls [(row, .inl (cB, 2000, .inl (upd f4 (5 : Int32).toNatClampNeg (vp_nar .byte x7))))] H := hP
  have hD : va_D A [(row, .inl (cB, 2000, .inl (upd f4 (5 : Int32).toNatClampNeg (vp_nar .byte x7))))] := hD
  generalize upd f4 (5 : Int32).toNatClampNeg (vp_nar .byte x7) = f8 at hP hD
  refine lv_aload_n hx hb d_U_putFour_30 rfl (lv_at hl 0 rfl) ?_
  refine lv_iload_n hx hb d_U_putFour_31 rfl (lv_at hl 1 rfl) ?_
  refine lv_iconst (v := 2) hx hb d_U_putFour_32 (by decide) ?_
  refine lv_iadd hx hb d_U_putFour_33 ?_
  refine lv_topi (fun x9 ex9 => ?_)
  obtain rfl : x9 = 6 := ex9.trans (by decide)
  refine lv_iload_n hx hb d_U_putFour_34 rfl (lv_at hl 2 rfl) ?_
  refine lv_bipush (v := 8) hx hb d_U_putFour_35 (by decide) ?_
  refine lv_ishr hx hb d_U_putFour_37 ?_
  refine lv_topi (fun x10 ex10 => ?_)
  refine lv_i2b hx hb d_U_putFour_38 rfl ?_
  refine lv_topi (fun x11 ex11 => ?_)
  refine va_bast hx hb hK hP hD hS 0 0 rfl rfl (i := 6) (show ¬ ((6 : Int32) < 0 ∨ 2000 ≤ (6 : Int32).toNatClampNeg) by decide) d_U_putFour_39 (fun H locs hP hD hS => ?_)
  have hP : va_P (dC, dI) cls [(row, .inl (cB, 2000, .inl (upd f8 (6 : Int32).toNatClampNeg (vp_nar .byte x11))))] H := hP
  have hD : va_D A [(row, .inl (cB, 2000, .inl (upd f8 (6 : Int32).toNatClampNeg (vp_nar .byte x11))))] := hD
  generalize upd f8 (6 : Int32).toNatClampNeg (vp_nar .byte x11) = f12 at hP hD
  refine lv_aload_n hx hb d_U_putFour_40 rfl (lv_at hl 0 rfl) ?_
  refine lv_iload_n hx hb d_U_putFour_41 rfl (lv_at hl 1 rfl) ?_
  refine lv_iconst (v := 3) hx hb d_U_putFour_42 (by decide) ?_
  refine lv_iadd hx hb d_U_putFour_43 ?_
  refine lv_topi (fun x13 ex13 => ?_)
  obtain rfl : x13 = 7 := ex13.trans (by decide)
  refine lv_iload_n hx hb d_U_putFour_44 rfl (lv_at hl 2 rfl) ?_
  refine lv_i2b hx hb d_U_putFour_45 rfl ?_
  refine lv_topi (fun x14 ex14 => ?_)
  refine va_bast hx hb hK hP hD hS 0 0 rfl rfl (i := 7) (show ¬ ((7 : Int32) < 0 ∨ 2000 ≤ (7 : Int32).toNatClampNeg) by decide) d_U_putFour_46 (fun H locs hP hD hS => ?_)
  have hP : va_P (dC, dI) cls [(row, .inl (cB, 2000, .inl (upd f12 (7 : Int32).toNatClampNeg (vp_nar .byte x14))))] H := hP
  have hD : va_D A [(row, .inl (cB, 2000, .inl (upd f12 (7 : Int32).toNatClampNeg (vp_nar .byte x14))))] := hD
  generalize upd f12 (7 : Int32).toNatClampNeg (vp_nar .byte x14) = f15 at hP hD
  have hP9 := hP.sub (ws' := [(row, .inl (cB, 2000, .inl f15))]) [0] rfl
  have hD9 := hD.sub (ws' := [(row, .inl (cB, 2000, .inl f15))]) [0] (by decide) rfl
  have hK9 := hK.sub (tys' := [(cB, .byte)]) [0] rfl
  refine W.widen (k := 0) (n := 0) (Nat.le_of_ble_eq_true rfl) (Nat.le_of_ble_eq_true rfl) ?_
  exact W.vret hx hb hr (fun t ht hW => ⟨⟨(), rfl, trivial, f15, by rw [ht]; exact hP9, va_K.moved hW.alike hK9, hD9⟩, hS.F ht⟩) hS.2.2 d_U_putFour_47
set_option maxHeartbeats 4000000 in
set_option maxRecDepth 100000 in
theorem c_U_putFour_8 (l : Launch) (dC : Nat → ClassId) (dI : Nat → Nat → Nat) (row : Nat) (cB : ClassId) (v : Int32) (f : Nat → Int32) (sz : Nat) : Met l y_U_putFour [Cond.code y_U_putFour b_U_putFour 3 (none)] ({ frames := 20, cells := 0, slots := 0, locals := 300 }) (ux_Pc [.ref row, .int 8, .int v] (dC, dI) cls [(row, .inl (cB, 2000, .inl f))] [(cB, .byte)] sz) (va_Qv (fun _ : Unit => True) (fun (_ : Unit) (t : State) => ∃ (f2 : Nat → Int32), ux_B (dC, dI) cls (va_A [(row, .inl (cB, 2000, .inl f))] sz) [(row, .inl (cB, 2000, .inl f2))] [(cB, .byte)] t) (va_A [(row, .inl (cB, 2000, .inl f))] sz)) 0 0 (va_A [(row, .inl (cB, 2000, .inl f))] sz) := by
  refine Met.ofW (cc := b_U_putFour) (maxL := 3) (ret := none) (by decide) rfl ?_
  intro p e s m args below meth c s₁ B hml hv
  obtain ⟨rfl, hsz, hP, hK, hD0, hT⟩ := hv
  have hx := B.exec
  have hb := B.bytes
  have hr := B.returns
  have hown : s.vm.findClass "UnikernelHttp" = some m.cls := findClass_of_methodNamed B.named
  have hlocks := B.notSynchronized
  subst hsz
  have hD := hD0.self (sz := s.heap.size)
  have hns := ux_ns hP
  generalize hAe : va_A [(row, .inl (cB, 2000, .inl f))] s.heap.size = A at hD hns ⊢
  have hA : ∀ q : Nat, s.heap.size ≤ q → A q := fun q h => by rw [← hAe]; exact Or.inr h
  have hS : va_S A s.heap s.heap [] := va_S.rf
  have hl := lv_entry ([.ref row, .int 8, .int v]) (n := 3) (Nat.le_of_ble_eq_true rfl)
  rw [lg_entry_eq]
  generalize (lg_sl ([.ref row, .int 8, .int v]) ++ List.replicate (3 - (lg_sl ([.ref row, .int 8, .int v])).length) Slot.unset).toArray = ls at hl ⊢
  have hl : lv_has ls 3 [(0, .ref row), (1, .int 8), (2, .int v)] := hl
  have hfx : CallFix p m c b_U_putFour 3 s ([.ref row, .int 8, .int v] : List Value).toArray [] "UnikernelHttp" := ⟨hx, hb, hml, hown, fun _ h => by cases h⟩
  refine lv_iload_n hx hb d_U_putFour_0 rfl (lv_at hl 1 rfl) ?_
  refine lv_if_lt (tgt := 47) hx hb d_U_putFour_1 (by decide) (fun hc => absurd hc (by decide)) (fun _ => ?_)
  refine lv_iload_n hx hb d_U_putFour_4 rfl (lv_at hl 1 rfl) ?_
  refine lv_aload_n hx hb d_U_putFour_5 rfl (lv_at hl 0 rfl) ?_
  refine va_alen (v := 2000) hx hb hK hP 0 0 rfl rfl (show Int32.ofNat 2000 = 2000 by decide) d_U_putFour_6 ?_
  refine lv_iconst (v := 3) hx hb d_U_putFour_7 (by decide) ?_
  refine lv_isub hx hb d_U_putFour_8 ?_
  refine lv_topi (fun x1 ex1 => ?_)
  obtain rfl : x1 = 1997 := ex1.trans (by decide)
  refine lv_icmp_ge (tgt := 47) hx hb d_U_putFour_9 (by decide) (fun hc => absurd hc (by decide)) (fun _ => ?_)
  refine lv_aload_n hx hb d_U_putFour_12 rfl (lv_at hl 0 rfl) ?_
  refine lv_iload_n hx hb d_U_putFour_13 rfl (lv_at hl 1 rfl) ?_
  refine lv_iload_n hx hb d_U_putFour_14 rfl (lv_at hl 2 rfl) ?_
  refine lv_bipush (v := 24) hx hb d_U_putFour_15 (by decide) ?_
  refine lv_ishr hx hb d_U_putFour_17 ?_
  refine lv_topi (fun x2 ex2 => ?_)
  refine lv_i2b hx hb d_U_putFour_18 rfl ?_
  refine lv_topi (fun x3 ex3 => ?_)
  refine va_bast hx hb hK hP hD hS 0 0 rfl rfl (i := 8) (show ¬ ((8 : Int32) < 0 ∨ 2000 ≤ (8 : Int32).toNatClampNeg) by decide) d_U_putFour_19 (fun H locs hP hD hS => ?_)
  have hP : va_P (dC, dI) cls [(row, .inl (cB, 2000, .inl (upd f (8 : Int32).toNatClampNeg (vp_nar .byte x3))))] H := hP
  have hD : va_D A [(row, .inl (cB, 2000, .inl (upd f (8 : Int32).toNatClampNeg (vp_nar .byte x3))))] := hD
  generalize upd f (8 : Int32).toNatClampNeg (vp_nar .byte x3) = f4 at hP hD
  refine lv_aload_n hx hb d_U_putFour_20 rfl (lv_at hl 0 rfl) ?_
  refine lv_iload_n hx hb d_U_putFour_21 rfl (lv_at hl 1 rfl) ?_
  refine lv_iconst (v := 1) hx hb d_U_putFour_22 (by decide) ?_
  refine lv_iadd hx hb d_U_putFour_23 ?_
  refine lv_topi (fun x5 ex5 => ?_)
  obtain rfl : x5 = 9 := ex5.trans (by decide)
  refine lv_iload_n hx hb d_U_putFour_24 rfl (lv_at hl 2 rfl) ?_
  refine lv_bipush (v := 16) hx hb d_U_putFour_25 (by decide) ?_
  refine lv_ishr hx hb d_U_putFour_27 ?_
  refine lv_topi (fun x6 ex6 => ?_)
  refine lv_i2b hx hb d_U_putFour_28 rfl ?_
  refine lv_topi (fun x7 ex7 => ?_)
  refine va_bast hx hb hK hP hD hS 0 0 rfl rfl (i := 9) (show ¬ ((9 : Int32) < 0 ∨ 2000 ≤ (9 : Int32).toNatClampNeg) by decide) d_U_putFour_29 (fun H locs hP hD hS => ?_)
  have hP : va_P (dC, dI) cls [(row, .inl (cB, 2000, .inl (upd f4 (9 : Int32).toNatClampNeg (vp_nar .byte x7))))] H := hP
  have hD : va_D A [(row, .inl (cB, 2000, .inl (upd f4 (9 : Int32).toNatClampNeg (vp_nar .byte x7))))] := hD
  generalize upd f4 (9 : Int32).toNatClampNeg (vp_nar .byte x7) = f8 at hP hD
  refine lv_aload_n hx hb d_U_putFour_30 rfl (lv_at hl 0 rfl) ?_
  refine lv_iload_n hx hb d_U_putFour_31 rfl (lv_at hl 1 rfl) ?_
  refine lv_iconst (v := 2) hx hb d_U_putFour_32 (by decide) ?_
  refine lv_iadd hx hb d_U_putFour_33 ?_
  refine lv_topi (fun x9 ex9 => ?_)
  obtain rfl : x9 = 10 := ex9.trans (by decide)
  refine lv_iload_n hx hb d_U_putFour_34 rfl (lv_at hl 2 rfl) ?_
  refine lv_bipush (v := 8) hx hb d_U_putFour_35 (by decide) ?_
  refine lv_ishr hx hb d_U_putFour_37 ?_
  refine lv_topi (fun x10 ex10 => ?_)
  refine lv_i2b hx hb d_U_putFour_38 rfl ?_
  refine lv_topi (fun x11 ex11 => ?_)
  refine va_bast hx hb hK hP hD hS 0 0 rfl rfl (i := 10) (show ¬ ((10 : Int32) < 0 ∨ 2000 ≤ (10 : Int32).toNatClampNeg) by decide) d_U_putFour_39 (fun H locs hP hD hS => ?_)
  have hP : va_P (dC, dI) cls [(row, .inl (cB, 2000, .inl (upd f8 (10 : Int32).toNatClampNeg (vp_nar .byte x11))))] H := hP
  have hD : va_D A [(row, .inl (cB, 2000, .inl (upd f8 (10 : Int32).toNatClampNeg (vp_nar .byte x11))))] := hD
  generalize upd f8 (10 : Int32).toNatClampNeg (vp_nar .byte x11) = f12 at hP hD
  refine lv_aload_n hx hb d_U_putFour_40 rfl (lv_at hl 0 rfl) ?_
  refine lv_iload_n hx hb d_U_putFour_41 rfl (lv_at hl 1 rfl) ?_
  refine lv_iconst (v := 3) hx hb d_U_putFour_42 (by decide) ?_
  refine lv_iadd hx hb d_U_putFour_43 ?_
  refine lv_topi (fun x13 ex13 => ?_)
  obtain rfl : x13 = 11 := ex13.trans (by decide)
  refine lv_iload_n hx hb d_U_putFour_44 rfl (lv_at hl 2 rfl) ?_
  refine lv_i2b hx hb d_U_putFour_45 rfl ?_
  refine lv_topi (fun x14 ex14 => ?_)
  refine va_bast hx hb hK hP hD hS 0 0 rfl rfl (i := 11) (show ¬ ((11 : Int32) < 0 ∨ 2000 ≤ (11 : Int32).toNatClampNeg) by decide) d_U_putFour_46 (fun H locs hP hD hS => ?_)
  have hP : va_P (dC, dI) cls [(row, .inl (cB, 2000, .inl (upd f12 (11 : Int32).toNatClampNeg (vp_nar .byte x14))))] H := hP
  have hD : va_D A [(row, .inl (cB, 2000, .inl (upd f12 (11 : Int32).toNatClampNeg (vp_nar .byte x14))))] := hD
  generalize upd f12 (11 : Int32).toNatClampNeg (vp_nar .byte x14) = f15 at hP hD
  have hP9 := hP.sub (ws' := [(row, .inl (cB, 2000, .inl f15))]) [0] rfl
  have hD9 := hD.sub (ws' := [(row, .inl (cB, 2000, .inl f15))]) [0] (by decide) rfl
  have hK9 := hK.sub (tys' := [(cB, .byte)]) [0] rfl
  refine W.widen (k := 0) (n := 0) (Nat.le_of_ble_eq_true rfl) (Nat.le_of_ble_eq_true rfl) ?_
  exact W.vret hx hb hr (fun t ht hW => ⟨⟨(), rfl, trivial, f15, by rw [ht]; exact hP9, va_K.moved hW.alike hK9, hD9⟩, hS.F ht⟩) hS.2.2 d_U_putFour_47
set_option maxHeartbeats 4000000 in
set_option maxRecDepth 100000 in
theorem c_U_putFour_12 (l : Launch) (dC : Nat → ClassId) (dI : Nat → Nat → Nat) (row : Nat) (cB : ClassId) (v : Int32) (f : Nat → Int32) (sz : Nat) : Met l y_U_putFour [Cond.code y_U_putFour b_U_putFour 3 (none)] ({ frames := 20, cells := 0, slots := 0, locals := 300 }) (ux_Pc [.ref row, .int 12, .int v] (dC, dI) cls [(row, .inl (cB, 2000, .inl f))] [(cB, .byte)] sz) (va_Qv (fun _ : Unit => True) (fun (_ : Unit) (t : State) => ∃ (f2 : Nat → Int32), ux_B (dC, dI) cls (va_A [(row, .inl (cB, 2000, .inl f))] sz) [(row, .inl (cB, 2000, .inl f2))] [(cB, .byte)] t) (va_A [(row, .inl (cB, 2000, .inl f))] sz)) 0 0 (va_A [(row, .inl (cB, 2000, .inl f))] sz) := by
  refine Met.ofW (cc := b_U_putFour) (maxL := 3) (ret := none) (by decide) rfl ?_
  intro p e s m args below meth c s₁ B hml hv
  obtain ⟨rfl, hsz, hP, hK, hD0, hT⟩ := hv
  have hx := B.exec
  have hb := B.bytes
  have hr := B.returns
  have hown : s.vm.findClass "UnikernelHttp" = some m.cls := findClass_of_methodNamed B.named
  have hlocks := B.notSynchronized
  subst hsz
  have hD := hD0.self (sz := s.heap.size)
  have hns := ux_ns hP
  generalize hAe : va_A [(row, .inl (cB, 2000, .inl f))] s.heap.size = A at hD hns ⊢
  have hA : ∀ q : Nat, s.heap.size ≤ q → A q := fun q h => by rw [← hAe]; exact Or.inr h
  have hS : va_S A s.heap s.heap [] := va_S.rf
  have hl := lv_entry ([.ref row, .int 12, .int v]) (n := 3) (Nat.le_of_ble_eq_true rfl)
  rw [lg_entry_eq]
  generalize (lg_sl ([.ref row, .int 12, .int v]) ++ List.replicate (3 - (lg_sl ([.ref row, .int 12, .int v])).length) Slot.unset).toArray = ls at hl ⊢
  have hl : lv_has ls 3 [(0, .ref row), (1, .int 12), (2, .int v)] := hl
  have hfx : CallFix p m c b_U_putFour 3 s ([.ref row, .int 12, .int v] : List Value).toArray [] "UnikernelHttp" := ⟨hx, hb, hml, hown, fun _ h => by cases h⟩
  refine lv_iload_n hx hb d_U_putFour_0 rfl (lv_at hl 1 rfl) ?_
  refine lv_if_lt (tgt := 47) hx hb d_U_putFour_1 (by decide) (fun hc => absurd hc (by decide)) (fun _ => ?_)
  refine lv_iload_n hx hb d_U_putFour_4 rfl (lv_at hl 1 rfl) ?_
  refine lv_aload_n hx hb d_U_putFour_5 rfl (lv_at hl 0 rfl) ?_
  refine va_alen (v := 2000) hx hb hK hP 0 0 rfl rfl (show Int32.ofNat 2000 = 2000 by decide) d_U_putFour_6 ?_
  refine lv_iconst (v := 3) hx hb d_U_putFour_7 (by decide) ?_
  refine lv_isub hx hb d_U_putFour_8 ?_
  refine lv_topi (fun x1 ex1 => ?_)
  obtain rfl : x1 = 1997 := ex1.trans (by decide)
  refine lv_icmp_ge (tgt := 47) hx hb d_U_putFour_9 (by decide) (fun hc => absurd hc (by decide)) (fun _ => ?_)
  refine lv_aload_n hx hb d_U_putFour_12 rfl (lv_at hl 0 rfl) ?_
  refine lv_iload_n hx hb d_U_putFour_13 rfl (lv_at hl 1 rfl) ?_
  refine lv_iload_n hx hb d_U_putFour_14 rfl (lv_at hl 2 rfl) ?_
  refine lv_bipush (v := 24) hx hb d_U_putFour_15 (by decide) ?_
  refine lv_ishr hx hb d_U_putFour_17 ?_
  refine lv_topi (fun x2 ex2 => ?_)
  refine lv_i2b hx hb d_U_putFour_18 rfl ?_
  refine lv_topi (fun x3 ex3 => ?_)
  refine va_bast hx hb hK hP hD hS 0 0 rfl rfl (i := 12) (show ¬ ((12 : Int32) < 0 ∨ 2000 ≤ (12 : Int32).toNatClampNeg) by decide) d_U_putFour_19 (fun H locs hP hD hS => ?_)
  have hP : va_P (dC, dI) cls [(row, .inl (cB, 2000, .inl (upd f (12 : Int32).toNatClampNeg (vp_nar .byte x3))))] H := hP
  have hD : va_D A [(row, .inl (cB, 2000, .inl (upd f (12 : Int32).toNatClampNeg (vp_nar .byte x3))))] := hD
  generalize upd f (12 : Int32).toNatClampNeg (vp_nar .byte x3) = f4 at hP hD
  refine lv_aload_n hx hb d_U_putFour_20 rfl (lv_at hl 0 rfl) ?_
  refine lv_iload_n hx hb d_U_putFour_21 rfl (lv_at hl 1 rfl) ?_
  refine lv_iconst (v := 1) hx hb d_U_putFour_22 (by decide) ?_
  refine lv_iadd hx hb d_U_putFour_23 ?_
  refine lv_topi (fun x5 ex5 => ?_)
  obtain rfl : x5 = 13 := ex5.trans (by decide)
  refine lv_iload_n hx hb d_U_putFour_24 rfl (lv_at hl 2 rfl) ?_
  refine lv_bipush (v := 16) hx hb d_U_putFour_25 (by decide) ?_
  refine lv_ishr hx hb d_U_putFour_27 ?_
  refine lv_topi (fun x6 ex6 => ?_)
  refine lv_i2b hx hb d_U_putFour_28 rfl ?_
  refine lv_topi (fun x7 ex7 => ?_)
  refine va_bast hx hb hK hP hD hS 0 0 rfl rfl (i := 13) (show ¬ ((13 : Int32) < 0 ∨ 2000 ≤ (13 : Int32).toNatClampNeg) by decide) d_U_putFour_29 (fun H locs hP hD hS => ?_)
  have hP : va_P (dC, dI) cls [(row, .inl (cB, 2000, .inl (upd f4 (13 : Int32).toNatClampNeg (vp_nar .byte x7))))] H := hP
  have hD : va_D A [(row, .inl (cB, 2000, .inl (upd f4 (13 : Int32).toNatClampNeg (vp_nar .byte x7))))] := hD
  generalize upd f4 (13 : Int32).toNatClampNeg (vp_nar .byte x7) = f8 at hP hD
  refine lv_aload_n hx hb d_U_putFour_30 rfl (lv_at hl 0 rfl) ?_
  refine lv_iload_n hx hb d_U_putFour_31 rfl (lv_at hl 1 rfl) ?_
  refine lv_iconst (v := 2) hx hb d_U_putFour_32 (by decide) ?_
  refine lv_iadd hx hb d_U_putFour_33 ?_
  refine lv_topi (fun x9 ex9 => ?_)
  obtain rfl : x9 = 14 := ex9.trans (by decide)
  refine lv_iload_n hx hb d_U_putFour_34 rfl (lv_at hl 2 rfl) ?_
  refine lv_bipush (v := 8) hx hb d_U_putFour_35 (by decide) ?_
  refine lv_ishr hx hb d_U_putFour_37 ?_
  refine lv_topi (fun x10 ex10 => ?_)
  refine lv_i2b hx hb d_U_putFour_38 rfl ?_
  refine lv_topi (fun x11 ex11 => ?_)
  refine va_bast hx hb hK hP hD hS 0 0 rfl rfl (i := 14) (show ¬ ((14 : Int32) < 0 ∨ 2000 ≤ (14 : Int32).toNatClampNeg) by decide) d_U_putFour_39 (fun H locs hP hD hS => ?_)
  have hP : va_P (dC, dI) cls [(row, .inl (cB, 2000, .inl (upd f8 (14 : Int32).toNatClampNeg (vp_nar .byte x11))))] H := hP
  have hD : va_D A [(row, .inl (cB, 2000, .inl (upd f8 (14 : Int32).toNatClampNeg (vp_nar .byte x11))))] := hD
  generalize upd f8 (14 : Int32).toNatClampNeg (vp_nar .byte x11) = f12 at hP hD
  refine lv_aload_n hx hb d_U_putFour_40 rfl (lv_at hl 0 rfl) ?_
  refine lv_iload_n hx hb d_U_putFour_41 rfl (lv_at hl 1 rfl) ?_
  refine lv_iconst (v := 3) hx hb d_U_putFour_42 (by decide) ?_
  refine lv_iadd hx hb d_U_putFour_43 ?_
  refine lv_topi (fun x13 ex13 => ?_)
  obtain rfl : x13 = 15 := ex13.trans (by decide)
  refine lv_iload_n hx hb d_U_putFour_44 rfl (lv_at hl 2 rfl) ?_
  refine lv_i2b hx hb d_U_putFour_45 rfl ?_
  refine lv_topi (fun x14 ex14 => ?_)
  refine va_bast hx hb hK hP hD hS 0 0 rfl rfl (i := 15) (show ¬ ((15 : Int32) < 0 ∨ 2000 ≤ (15 : Int32).toNatClampNeg) by decide) d_U_putFour_46 (fun H locs hP hD hS => ?_)
  have hP : va_P (dC, dI) cls [(row, .inl (cB, 2000, .inl (upd f12 (15 : Int32).toNatClampNeg (vp_nar .byte x14))))] H := hP
  have hD : va_D A [(row, .inl (cB, 2000, .inl (upd f12 (15 : Int32).toNatClampNeg (vp_nar .byte x14))))] := hD
  generalize upd f12 (15 : Int32).toNatClampNeg (vp_nar .byte x14) = f15 at hP hD
  have hP9 := hP.sub (ws' := [(row, .inl (cB, 2000, .inl f15))]) [0] rfl
  have hD9 := hD.sub (ws' := [(row, .inl (cB, 2000, .inl f15))]) [0] (by decide) rfl
  have hK9 := hK.sub (tys' := [(cB, .byte)]) [0] rfl
  refine W.widen (k := 0) (n := 0) (Nat.le_of_ble_eq_true rfl) (Nat.le_of_ble_eq_true rfl) ?_
  exact W.vret hx hb hr (fun t ht hW => ⟨⟨(), rfl, trivial, f15, by rw [ht]; exact hP9, va_K.moved hW.alike hK9, hD9⟩, hS.F ht⟩) hS.2.2 d_U_putFour_47
set_option maxHeartbeats 4000000 in
set_option maxRecDepth 100000 in
theorem c_U_putFour_16 (l : Launch) (dC : Nat → ClassId) (dI : Nat → Nat → Nat) (row : Nat) (cB : ClassId) (v : Int32) (f : Nat → Int32) (sz : Nat) : Met l y_U_putFour [Cond.code y_U_putFour b_U_putFour 3 (none)] ({ frames := 20, cells := 0, slots := 0, locals := 300 }) (ux_Pc [.ref row, .int 16, .int v] (dC, dI) cls [(row, .inl (cB, 2000, .inl f))] [(cB, .byte)] sz) (va_Qv (fun _ : Unit => True) (fun (_ : Unit) (t : State) => ∃ (f2 : Nat → Int32), ux_B (dC, dI) cls (va_A [(row, .inl (cB, 2000, .inl f))] sz) [(row, .inl (cB, 2000, .inl f2))] [(cB, .byte)] t) (va_A [(row, .inl (cB, 2000, .inl f))] sz)) 0 0 (va_A [(row, .inl (cB, 2000, .inl f))] sz) := by
  refine Met.ofW (cc := b_U_putFour) (maxL := 3) (ret := none) (by decide) rfl ?_
  intro p e s m args below meth c s₁ B hml hv
  obtain ⟨rfl, hsz, hP, hK, hD0, hT⟩ := hv
  have hx := B.exec
  have hb := B.bytes
  have hr := B.returns
  have hown : s.vm.findClass "UnikernelHttp" = some m.cls := findClass_of_methodNamed B.named
  have hlocks := B.notSynchronized
  subst hsz
  have hD := hD0.self (sz := s.heap.size)
  have hns := ux_ns hP
  generalize hAe : va_A [(row, .inl (cB, 2000, .inl f))] s.heap.size = A at hD hns ⊢
  have hA : ∀ q : Nat, s.heap.size ≤ q → A q := fun q h => by rw [← hAe]; exact Or.inr h
  have hS : va_S A s.heap s.heap [] := va_S.rf
  have hl := lv_entry ([.ref row, .int 16, .int v]) (n := 3) (Nat.le_of_ble_eq_true rfl)
  rw [lg_entry_eq]
  generalize (lg_sl ([.ref row, .int 16, .int v]) ++ List.replicate (3 - (lg_sl ([.ref row, .int 16, .int v])).length) Slot.unset).toArray = ls at hl ⊢
  have hl : lv_has ls 3 [(0, .ref row), (1, .int 16), (2, .int v)] := hl
  have hfx : CallFix p m c b_U_putFour 3 s ([.ref row, .int 16, .int v] : List Value).toArray [] "UnikernelHttp" := ⟨hx, hb, hml, hown, fun _ h => by cases h⟩
  refine lv_iload_n hx hb d_U_putFour_0 rfl (lv_at hl 1 rfl) ?_
  refine lv_if_lt (tgt := 47) hx hb d_U_putFour_1 (by decide) (fun hc => absurd hc (by decide)) (fun _ => ?_)
  refine lv_iload_n hx hb d_U_putFour_4 rfl (lv_at hl 1 rfl) ?_
  refine lv_aload_n hx hb d_U_putFour_5 rfl (lv_at hl 0 rfl) ?_
  refine va_alen (v := 2000) hx hb hK hP 0 0 rfl rfl (show Int32.ofNat 2000 = 2000 by decide) d_U_putFour_6 ?_
  refine lv_iconst (v := 3) hx hb d_U_putFour_7 (by decide) ?_
  refine lv_isub hx hb d_U_putFour_8 ?_
  refine lv_topi (fun x1 ex1 => ?_)
  obtain rfl : x1 = 1997 := ex1.trans (by decide)
  refine lv_icmp_ge (tgt := 47) hx hb d_U_putFour_9 (by decide) (fun hc => absurd hc (by decide)) (fun _ => ?_)
  refine lv_aload_n hx hb d_U_putFour_12 rfl (lv_at hl 0 rfl) ?_
  refine lv_iload_n hx hb d_U_putFour_13 rfl (lv_at hl 1 rfl) ?_
  refine lv_iload_n hx hb d_U_putFour_14 rfl (lv_at hl 2 rfl) ?_
  refine lv_bipush (v := 24) hx hb d_U_putFour_15 (by decide) ?_
  refine lv_ishr hx hb d_U_putFour_17 ?_
  refine lv_topi (fun x2 ex2 => ?_)
  refine lv_i2b hx hb d_U_putFour_18 rfl ?_
  refine lv_topi (fun x3 ex3 => ?_)
  refine va_bast hx hb hK hP hD hS 0 0 rfl rfl (i := 16) (show ¬ ((16 : Int32) < 0 ∨ 2000 ≤ (16 : Int32).toNatClampNeg) by decide) d_U_putFour_19 (fun H locs hP hD hS => ?_)
  have hP : va_P (dC, dI) cls [(row, .inl (cB, 2000, .inl (upd f (16 : Int32).toNatClampNeg (vp_nar .byte x3))))] H := hP
  have hD : va_D A [(row, .inl (cB, 2000, .inl (upd f (16 : Int32).toNatClampNeg (vp_nar .byte x3))))] := hD
  generalize upd f (16 : Int32).toNatClampNeg (vp_nar .byte x3) = f4 at hP hD
  refine lv_aload_n hx hb d_U_putFour_20 rfl (lv_at hl 0 rfl) ?_
  refine lv_iload_n hx hb d_U_putFour_21 rfl (lv_at hl 1 rfl) ?_
  refine lv_iconst (v := 1) hx hb d_U_putFour_22 (by decide) ?_
  refine lv_iadd hx hb d_U_putFour_23 ?_
  refine lv_topi (fun x5 ex5 => ?_)
  obtain rfl : x5 = 17 := ex5.trans (by decide)
  refine lv_iload_n hx hb d_U_putFour_24 rfl (lv_at hl 2 rfl) ?_
  refine lv_bipush (v := 16) hx hb d_U_putFour_25 (by decide) ?_
  refine lv_ishr hx hb d_U_putFour_27 ?_
  refine lv_topi (fun x6 ex6 => ?_)
  refine lv_i2b hx hb d_U_putFour_28 rfl ?_
  refine lv_topi (fun x7 ex7 => ?_)
  refine va_bast hx hb hK hP hD hS 0 0 rfl rfl (i := 17) (show ¬ ((17 : Int32) < 0 ∨ 2000 ≤ (17 : Int32).toNatClampNeg) by decide) d_U_putFour_29 (fun H locs hP hD hS => ?_)
  have hP : va_P (dC, dI) cls [(row, .inl (cB, 2000, .inl (upd f4 (17 : Int32).toNatClampNeg (vp_nar .byte x7))))] H := hP
  have hD : va_D A [(row, .inl (cB, 2000, .inl (upd f4 (17 : Int32).toNatClampNeg (vp_nar .byte x7))))] := hD
  generalize upd f4 (17 : Int32).toNatClampNeg (vp_nar .byte x7) = f8 at hP hD
  refine lv_aload_n hx hb d_U_putFour_30 rfl (lv_at hl 0 rfl) ?_
  refine lv_iload_n hx hb d_U_putFour_31 rfl (lv_at hl 1 rfl) ?_
  refine lv_iconst (v := 2) hx hb d_U_putFour_32 (by decide) ?_
  refine lv_iadd hx hb d_U_putFour_33 ?_
  refine lv_topi (fun x9 ex9 => ?_)
  obtain rfl : x9 = 18 := ex9.trans (by decide)
  refine lv_iload_n hx hb d_U_putFour_34 rfl (lv_at hl 2 rfl) ?_
  refine lv_bipush (v := 8) hx hb d_U_putFour_35 (by decide) ?_
  refine lv_ishr hx hb d_U_putFour_37 ?_
  refine lv_topi (fun x10 ex10 => ?_)
  refine lv_i2b hx hb d_U_putFour_38 rfl ?_
  refine lv_topi (fun x11 ex11 => ?_)
  refine va_bast hx hb hK hP hD hS 0 0 rfl rfl (i := 18) (show ¬ ((18 : Int32) < 0 ∨ 2000 ≤ (18 : Int32).toNatClampNeg) by decide) d_U_putFour_39 (fun H locs hP hD hS => ?_)
  have hP : va_P (dC, dI) cls [(row, .inl (cB, 2000, .inl (upd f8 (18 : Int32).toNatClampNeg (vp_nar .byte x11))))] H := hP
  have hD : va_D A [(row, .inl (cB, 2000, .inl (upd f8 (18 : Int32).toNatClampNeg (vp_nar .byte x11))))] := hD
  generalize upd f8 (18 : Int32).toNatClampNeg (vp_nar .byte x11) = f12 at hP hD
  refine lv_aload_n hx hb d_U_putFour_40 rfl (lv_at hl 0 rfl) ?_
  refine lv_iload_n hx hb d_U_putFour_41 rfl (lv_at hl 1 rfl) ?_
  refine lv_iconst (v := 3) hx hb d_U_putFour_42 (by decide) ?_
  refine lv_iadd hx hb d_U_putFour_43 ?_
  refine lv_topi (fun x13 ex13 => ?_)
  obtain rfl : x13 = 19 := ex13.trans (by decide)
  refine lv_iload_n hx hb d_U_putFour_44 rfl (lv_at hl 2 rfl) ?_
  refine lv_i2b hx hb d_U_putFour_45 rfl ?_
  refine lv_topi (fun x14 ex14 => ?_)
  refine va_bast hx hb hK hP hD hS 0 0 rfl rfl (i := 19) (show ¬ ((19 : Int32) < 0 ∨ 2000 ≤ (19 : Int32).toNatClampNeg) by decide) d_U_putFour_46 (fun H locs hP hD hS => ?_)
  have hP : va_P (dC, dI) cls [(row, .inl (cB, 2000, .inl (upd f12 (19 : Int32).toNatClampNeg (vp_nar .byte x14))))] H := hP
  have hD : va_D A [(row, .inl (cB, 2000, .inl (upd f12 (19 : Int32).toNatClampNeg (vp_nar .byte x14))))] := hD
  generalize upd f12 (19 : Int32).toNatClampNeg (vp_nar .byte x14) = f15 at hP hD
  have hP9 := hP.sub (ws' := [(row, .inl (cB, 2000, .inl f15))]) [0] rfl
  have hD9 := hD.sub (ws' := [(row, .inl (cB, 2000, .inl f15))]) [0] (by decide) rfl
  have hK9 := hK.sub (tys' := [(cB, .byte)]) [0] rfl
  refine W.widen (k := 0) (n := 0) (Nat.le_of_ble_eq_true rfl) (Nat.le_of_ble_eq_true rfl) ?_
  exact W.vret hx hb hr (fun t ht hW => ⟨⟨(), rfl, trivial, f15, by rw [ht]; exact hP9, va_K.moved hW.alike hK9, hD9⟩, hS.F ht⟩) hS.2.2 d_U_putFour_47
set_option maxHeartbeats 4000000 in
set_option maxRecDepth 100000 in
theorem c_U_isForMe (l : Launch) (dC : Nat → ClassId) (dI : Nat → Nat → Nat) (h0 : Nat) (row : Nat) (nb : Nat) (wi : Nat) (ga : Nat) (sg : Nat) (tc : Nat) (st : Nat) (hp : Nat) (ec : Nat) (sz : Nat) : Met l y_U_isForMe [Cond.code y_U_isForMe b_U_isForMe 4 (some .boolean)] ({ frames := 20, cells := 0, slots := 0, locals := 300 }) (ux_Pc [.ref h0, .int 0] (dC, dI) cls [(h0, .inr (0, [.ref row, .int 0, .int 0, .ref nb, .ref wi, .ref ga, .ref sg, .ref tc, .ref st, .ref hp, .ref ec, .ref row, .int 0, .int 0]))] [] sz) (va_Qi (fun (r : Int32) (_ : Unit) => r = 0) (fun (_ : Unit) (t : State) => ux_B (dC, dI) cls (va_A [(h0, .inr (0, [.ref row, .int 0, .int 0, .ref nb, .ref wi, .ref ga, .ref sg, .ref tc, .ref st, .ref hp, .ref ec, .ref row, .int 0, .int 0]))] sz) [(h0, .inr (0, [.ref row, .int 0, .int 0, .ref nb, .ref wi, .ref ga, .ref sg, .ref tc, .ref st, .ref hp, .ref ec, .ref row, .int 0, .int 0]))] [] t) (va_A [(h0, .inr (0, [.ref row, .int 0, .int 0, .ref nb, .ref wi, .ref ga, .ref sg, .ref tc, .ref st, .ref hp, .ref ec, .ref row, .int 0, .int 0]))] sz)) 0 0 (va_A [(h0, .inr (0, [.ref row, .int 0, .int 0, .ref nb, .ref wi, .ref ga, .ref sg, .ref tc, .ref st, .ref hp, .ref ec, .ref row, .int 0, .int 0]))] sz) := by
  refine Met.ofW (cc := b_U_isForMe) (maxL := 4) (ret := some .boolean) (by decide) rfl ?_
  intro p e s m args below meth c s₁ B hml hv
  obtain ⟨rfl, hsz, hP, hK, hD0, hT⟩ := hv
  have hx := B.exec
  have hb := B.bytes
  have hr := B.returns
  have hown : s.vm.findClass "UnikernelHttp" = some m.cls := findClass_of_methodNamed B.named
  have hlocks := B.notSynchronized
  subst hsz
  have hD := hD0.self (sz := s.heap.size)
  have hns := ux_ns hP
  generalize hAe : va_A [(h0, .inr (0, [.ref row, .int 0, .int 0, .ref nb, .ref wi, .ref ga, .ref sg, .ref tc, .ref st, .ref hp, .ref ec, .ref row, .int 0, .int 0]))] s.heap.size = A at hD hns ⊢
  have hA : ∀ q : Nat, s.heap.size ≤ q → A q := fun q h => by rw [← hAe]; exact Or.inr h
  have hS : va_S A s.heap s.heap [] := va_S.rf
  have hl := lv_entry ([.ref h0, .int 0]) (n := 4) (Nat.le_of_ble_eq_true rfl)
  rw [lg_entry_eq]
  generalize (lg_sl ([.ref h0, .int 0]) ++ List.replicate (4 - (lg_sl ([.ref h0, .int 0])).length) Slot.unset).toArray = ls at hl ⊢
  have hl : lv_has ls 4 [(0, .ref h0), (1, .int 0)] := hl
  have hfx : CallFix p m c b_U_isForMe 4 s ([.ref h0, .int 0] : List Value).toArray [] "UnikernelHttp" := ⟨hx, hb, hml, hown, fun _ h => by cases h⟩
  refine lv_iload_n hx hb d_U_isForMe_0 rfl (lv_at hl 1 rfl) ?_
  refine lv_bipush (v := 14) hx hb d_U_isForMe_1 (by decide) ?_
  refine lv_icmp_ge (tgt := 8) hx hb d_U_isForMe_3 (by decide) (fun hc => absurd hc (by decide)) (fun _ => ?_)
  refine lv_iconst (v := 0) hx hb d_U_isForMe_6 (by decide) ?_
  have hP9 := hP.sub (ws' := [(h0, .inr (0, [.ref row, .int 0, .int 0, .ref nb, .ref wi, .ref ga, .ref sg, .ref tc, .ref st, .ref hp, .ref ec, .ref row, .int 0, .int 0]))]) [0] rfl
  have hD9 := hD.sub (ws' := [(h0, .inr (0, [.ref row, .int 0, .int 0, .ref nb, .ref wi, .ref ga, .ref sg, .ref tc, .ref st, .ref hp, .ref ec, .ref row, .int 0, .int 0]))]) [0] (by decide) rfl
  have hK9 := hK.sub (tys' := []) [] rfl
  refine W.widen (k := 0) (n := 0) (Nat.le_of_ble_eq_true rfl) (Nat.le_of_ble_eq_true rfl) ?_
  exact W.zret (v := 0) hx hb hr (by decide) (fun t ht hW => ⟨⟨_, (), rfl, rfl, by rw [ht]; exact hP9, va_K.moved hW.alike hK9, hD9⟩, hS.F ht⟩) hS.2.2 d_U_isForMe_7
set_option maxHeartbeats 4000000 in
set_option maxRecDepth 100000 in
theorem c_Gs_due (l : Launch) (dC : Nat → ClassId) (dI : Nat → Nat → Nat) (ga : Nat) (g1 : Nat) (sz : Nat) : Met l y_Gs_due [Cond.code y_Gs_due b_Gs_due 1 (some .int)] ({ frames := 20, cells := 0, slots := 0, locals := 300 }) (ux_Pc [.ref ga] (dC, dI) cls [(ga, .inr (3, [.ref g1, .int 0]))] [] sz) (va_Qi (fun (r : Int32) (_ : Unit) => r = 2147483647) (fun (_ : Unit) (t : State) => ux_B (dC, dI) cls (va_A [(ga, .inr (3, [.ref g1, .int 0]))] sz) [(ga, .inr (3, [.ref g1, .int 0]))] [] t) (va_A [(ga, .inr (3, [.ref g1, .int 0]))] sz)) 0 0 (va_A [(ga, .inr (3, [.ref g1, .int 0]))] sz) := by
  refine Met.ofW (cc := b_Gs_due) (maxL := 1) (ret := some .int) (by decide) rfl ?_
  intro p e s m args below meth c s₁ B hml hv
  obtain ⟨rfl, hsz, hP, hK, hD0, hT⟩ := hv
  have hx := B.exec
  have hb := B.bytes
  have hr := B.returns
  have hown : s.vm.findClass "UnikernelHttp$Gatherings" = some m.cls := findClass_of_methodNamed B.named
  have hlocks := B.notSynchronized
  subst hsz
  have hD := hD0.self (sz := s.heap.size)
  have hns := ux_ns hP
  generalize hAe : va_A [(ga, .inr (3, [.ref g1, .int 0]))] s.heap.size = A at hD hns ⊢
  have hA : ∀ q : Nat, s.heap.size ≤ q → A q := fun q h => by rw [← hAe]; exact Or.inr h
  have hS : va_S A s.heap s.heap [] := va_S.rf
  have hl := lv_entry ([.ref ga]) (n := 1) (Nat.le_of_ble_eq_true rfl)
  rw [lg_entry_eq]
  generalize (lg_sl ([.ref ga]) ++ List.replicate (1 - (lg_sl ([.ref ga])).length) Slot.unset).toArray = ls at hl ⊢
  have hl : lv_has ls 1 [(0, .ref ga)] := hl
  have hfx : CallFix p m c b_Gs_due 1 s ([.ref ga] : List Value).toArray [] "UnikernelHttp$Gatherings" := ⟨hx, hb, hml, hown, fun _ h => by cases h⟩
  refine lv_aload_n hx hb d_Gs_due_0 rfl (lv_at hl 0 rfl) ?_
  refine va_get (D := (dC, dI)) (ci := 3) (v := .int 0) (C := R_Gs) (T := F_Gs) (N := 2) hx hb (u_Gs hT) (fun _ h => h) hown hK hP 0 rfl rfl 1 (by decide) (ux_T_at hT tw_143 rfl) (fun _ h9 => h9) rfl d_Gs_due_1 ?_
  refine lv_if_le (tgt := 23) hx hb d_Gs_due_4 (by decide) (fun _ => ?_) (fun hc => absurd (by decide) hc)
  refine lv_ldc (own := "UnikernelHttp$Gatherings") (v := 2147483647) hx hb hown (ux_T_at hT tw_1392 rfl) d_Gs_due_23 ?_
  have hP9 := hP.sub (ws' := [(ga, .inr (3, [.ref g1, .int 0]))]) [0] rfl
  have hD9 := hD.sub (ws' := [(ga, .inr (3, [.ref g1, .int 0]))]) [0] (by decide) rfl
  have hK9 := hK.sub (tys' := []) [] rfl
  refine W.widen (k := 0) (n := 0) (Nat.le_of_ble_eq_true rfl) (Nat.le_of_ble_eq_true rfl) ?_
  exact W.iret (v := 2147483647) hx hb hr (fun t ht hW => ⟨⟨_, (), rfl, rfl, by rw [ht]; exact hP9, va_K.moved hW.alike hK9, hD9⟩, hS.F ht⟩) hS.2.2 d_Gs_due_25
set_option maxHeartbeats 4000000 in
set_option maxRecDepth 100000 in
theorem c_Tc_firstDue (l : Launch) (dC : Nat → ClassId) (dI : Nat → Nat → Nat) (tc : Nat) (t1 : Nat) (t2 : Nat) (wi : Nat) (sz : Nat) : Met l y_Tc_firstDue [Cond.code y_Tc_firstDue b_Tc_firstDue 3 (some (.object "UnikernelHttp$Connection"))] ({ frames := 20, cells := 0, slots := 0, locals := 300 }) (ux_Pc [.ref tc] (dC, dI) cls [(tc, .inr (6, [.ref t1, .ref t2, .ref wi, .int 0, .int 0]))] [] sz) (va_Qq (fun (r : Option Nat) (_ : Unit) => r = none) (fun (_ : Unit) (t : State) => ux_B (dC, dI) cls (va_A [(tc, .inr (6, [.ref t1, .ref t2, .ref wi, .int 0, .int 0]))] sz) [(tc, .inr (6, [.ref t1, .ref t2, .ref wi, .int 0, .int 0]))] [] t) (va_A [(tc, .inr (6, [.ref t1, .ref t2, .ref wi, .int 0, .int 0]))] sz)) 0 0 (va_A [(tc, .inr (6, [.ref t1, .ref t2, .ref wi, .int 0, .int 0]))] sz) := by
  refine Met.ofW (cc := b_Tc_firstDue) (maxL := 3) (ret := some (.object "UnikernelHttp$Connection")) (by decide) rfl ?_
  intro p e s m args below meth c s₁ B hml hv
  obtain ⟨rfl, hsz, hP, hK, hD0, hT⟩ := hv
  have hx := B.exec
  have hb := B.bytes
  have hr := B.returns
  have hown : s.vm.findClass "UnikernelHttp$Tcp" = some m.cls := findClass_of_methodNamed B.named
  have hlocks := B.notSynchronized
  subst hsz
  have hD := hD0.self (sz := s.heap.size)
  have hns := ux_ns hP
  generalize hAe : va_A [(tc, .inr (6, [.ref t1, .ref t2, .ref wi, .int 0, .int 0]))] s.heap.size = A at hD hns ⊢
  have hA : ∀ q : Nat, s.heap.size ≤ q → A q := fun q h => by rw [← hAe]; exact Or.inr h
  have hS : va_S A s.heap s.heap [] := va_S.rf
  have hl := lv_entry ([.ref tc]) (n := 3) (Nat.le_of_ble_eq_true rfl)
  rw [lg_entry_eq]
  generalize (lg_sl ([.ref tc]) ++ List.replicate (3 - (lg_sl ([.ref tc])).length) Slot.unset).toArray = ls at hl ⊢
  have hl : lv_has ls 3 [(0, .ref tc)] := hl
  have hfx : CallFix p m c b_Tc_firstDue 3 s ([.ref tc] : List Value).toArray [] "UnikernelHttp$Tcp" := ⟨hx, hb, hml, hown, fun _ h => by cases h⟩
  refine lv_null hx hb d_Tc_firstDue_0 ?_
  refine lv_astore_nN hx hb d_Tc_firstDue_1 rfl hl (by decide) rfl (fun ls hl => ?_)
  have hl : lv_has ls 3 [(1, .null), (0, .ref tc)] := hl
  refine lv_iconst (v := 0) hx hb d_Tc_firstDue_2 (by decide) ?_
  refine lv_istore_n hx hb d_Tc_firstDue_3 rfl hl (by decide) rfl (fun ls hl => ?_)
  have hl : lv_has ls 3 [(2, .int 0), (1, .null), (0, .ref tc)] := hl
  refine lv_iload_n hx hb d_Tc_firstDue_4 rfl (lv_at hl 0 rfl) ?_
  refine lv_aload_n hx hb d_Tc_firstDue_5 rfl (lv_at hl 2 rfl) ?_
  refine va_get (D := (dC, dI)) (ci := 6) (v := .int 0) (C := R_Tc) (T := F_Tc) (N := 5) hx hb (u_Tc hT) (fun _ h => h) hown hK hP 0 rfl rfl 3 (by decide) (ux_T_at hT tw_373 rfl) (fun _ h9 => h9) rfl d_Tc_firstDue_6 ?_
  refine lv_icmp_ge (tgt := 45) hx hb d_Tc_firstDue_9 (by decide) (fun _ => ?_) (fun hc => absurd (by decide) hc)
  refine lv_aload_nN hx hb d_Tc_firstDue_45 rfl (lv_at hl 1 rfl) ?_
  have hP9 := hP.sub (ws' := [(tc, .inr (6, [.ref t1, .ref t2, .ref wi, .int 0, .int 0]))]) [0] rfl
  have hD9 := hD.sub (ws' := [(tc, .inr (6, [.ref t1, .ref t2, .ref wi, .int 0, .int 0]))]) [0] (by decide) rfl
  have hK9 := hK.sub (tys' := []) [] rfl
  refine W.widen (k := 0) (n := 0) (Nat.le_of_ble_eq_true rfl) (Nat.le_of_ble_eq_true rfl) ?_
  exact W.aret hx hb hr (by first | exact Or.inl ⟨_, rfl⟩ | exact Or.inr ⟨_, rfl⟩) (Or.inl rfl) (fun t ht hW => ⟨⟨none, (), rfl, rfl, by rw [ht]; exact hP9, va_K.moved hW.alike hK9, hD9⟩, hS.F ht⟩) hS.2.2 d_Tc_firstDue_46
set_option maxHeartbeats 4000000 in
set_option maxRecDepth 100000 in
theorem c_Tc_find (l : Launch) (dC : Nat → ClassId) (dI : Nat → Nat → Nat) (tc : Nat) (t1 : Nat) (t2 : Nat) (wi : Nat) (a : Int32) (b : Int32) (sz : Nat) : Met l y_Tc_find [Cond.code y_Tc_find b_Tc_find 4 (some (.object "UnikernelHttp$Connection"))] ({ frames := 20, cells := 0, slots := 0, locals := 300 }) (ux_Pc [.ref tc, .int a, .int b] (dC, dI) cls [(tc, .inr (6, [.ref t1, .ref t2, .ref wi, .int 0, .int 0]))] [] sz) (va_Qq (fun (r : Option Nat) (_ : Unit) => r = none) (fun (_ : Unit) (t : State) => ux_B (dC, dI) cls (va_A [(tc, .inr (6, [.ref t1, .ref t2, .ref wi, .int 0, .int 0]))] sz) [(tc, .inr (6, [.ref t1, .ref t2, .ref wi, .int 0, .int 0]))] [] t) (va_A [(tc, .inr (6, [.ref t1, .ref t2, .ref wi, .int 0, .int 0]))] sz)) 0 0 (va_A [(tc, .inr (6, [.ref t1, .ref t2, .ref wi, .int 0, .int 0]))] sz) := by
  refine Met.ofW (cc := b_Tc_find) (maxL := 4) (ret := some (.object "UnikernelHttp$Connection")) (by decide) rfl ?_
  intro p e s m args below meth c s₁ B hml hv
  obtain ⟨rfl, hsz, hP, hK, hD0, hT⟩ := hv
  have hx := B.exec
  have hb := B.bytes
  have hr := B.returns
  have hown : s.vm.findClass "UnikernelHttp$Tcp" = some m.cls := findClass_of_methodNamed B.named
  have hlocks := B.notSynchronized
  subst hsz
  have hD := hD0.self (sz := s.heap.size)
  have hns := ux_ns hP
  generalize hAe : va_A [(tc, .inr (6, [.ref t1, .ref t2, .ref wi, .int 0, .int 0]))] s.heap.size = A at hD hns ⊢
  have hA : ∀ q : Nat, s.heap.size ≤ q → A q := fun q h => by rw [← hAe]; exact Or.inr h
  have hS : va_S A s.heap s.heap [] := va_S.rf
  have hl := lv_entry ([.ref tc, .int a, .int b]) (n := 4) (Nat.le_of_ble_eq_true rfl)
  rw [lg_entry_eq]
  generalize (lg_sl ([.ref tc, .int a, .int b]) ++ List.replicate (4 - (lg_sl ([.ref tc, .int a, .int b])).length) Slot.unset).toArray = ls at hl ⊢
  have hl : lv_has ls 4 [(0, .ref tc), (1, .int a), (2, .int b)] := hl
  have hfx : CallFix p m c b_Tc_find 4 s ([.ref tc, .int a, .int b] : List Value).toArray [] "UnikernelHttp$Tcp" := ⟨hx, hb, hml, hown, fun _ h => by cases h⟩
  refine lv_iconst (v := 0) hx hb d_Tc_find_0 (by decide) ?_
  refine lv_istore_n hx hb d_Tc_find_1 rfl hl (by decide) rfl (fun ls hl => ?_)
  have hl : lv_has ls 4 [(3, .int 0), (0, .ref tc), (1, .int a), (2, .int b)] := hl
  refine lv_iload_n hx hb d_Tc_find_2 rfl (lv_at hl 0 rfl) ?_
  refine lv_aload_n hx hb d_Tc_find_3 rfl (lv_at hl 1 rfl) ?_
  refine va_get (D := (dC, dI)) (ci := 6) (v := .int 0) (C := R_Tc) (T := F_Tc) (N := 5) hx hb (u_Tc hT) (fun _ h => h) hown hK hP 0 rfl rfl 3 (by decide) (ux_T_at hT tw_373 rfl) (fun _ h9 => h9) rfl d_Tc_find_4 ?_
  refine lv_icmp_ge (tgt := 49) hx hb d_Tc_find_7 (by decide) (fun _ => ?_) (fun hc => absurd (by decide) hc)
  refine lv_null hx hb d_Tc_find_49 ?_
  have hP9 := hP.sub (ws' := [(tc, .inr (6, [.ref t1, .ref t2, .ref wi, .int 0, .int 0]))]) [0] rfl
  have hD9 := hD.sub (ws' := [(tc, .inr (6, [.ref t1, .ref t2, .ref wi, .int 0, .int 0]))]) [0] (by decide) rfl
  have hK9 := hK.sub (tys' := []) [] rfl
  refine W.widen (k := 0) (n := 0) (Nat.le_of_ble_eq_true rfl) (Nat.le_of_ble_eq_true rfl) ?_
  exact W.aret hx hb hr (by first | exact Or.inl ⟨_, rfl⟩ | exact Or.inr ⟨_, rfl⟩) (Or.inl rfl) (fun t ht hW => ⟨⟨none, (), rfl, rfl, by rw [ht]; exact hP9, va_K.moved hW.alike hK9, hD9⟩, hS.F ht⟩) hS.2.2 d_Tc_find_50
set_option maxHeartbeats 4000000 in
set_option maxRecDepth 100000 in
theorem c_Wi_keeps (l : Launch) (dC : Nat → ClassId) (dI : Nat → Nat → Nat) (wi : Nat) (nb : Nat) (w1 : Nat) (w2 : Nat) (k : Int32) (sz : Nat) : Met l y_Wi_keeps [Cond.code y_Wi_keeps b_Wi_keeps 2 (some .boolean)] ({ frames := 20, cells := 0, slots := 0, locals := 300 }) (ux_Pc [.ref wi, .int k] (dC, dI) cls [(wi, .inr (2, [.ref nb, .ref w1, .ref w2, .int 0, .int 0]))] [] sz) (va_Qi (fun (r : Int32) (_ : Unit) => r = 0) (fun (_ : Unit) (t : State) => ux_B (dC, dI) cls (va_A [(wi, .inr (2, [.ref nb, .ref w1, .ref w2, .int 0, .int 0]))] sz) [(wi, .inr (2, [.ref nb, .ref w1, .ref w2, .int 0, .int 0]))] [] t) (va_A [(wi, .inr (2, [.ref nb, .ref w1, .ref w2, .int 0, .int 0]))] sz)) 0 0 (va_A [(wi, .inr (2, [.ref nb, .ref w1, .ref w2, .int 0, .int 0]))] sz) := by
  refine Met.ofW (cc := b_Wi_keeps) (maxL := 2) (ret := some .boolean) (by decide) rfl ?_
  intro p e s m args below meth c s₁ B hml hv
  obtain ⟨rfl, hsz, hP, hK, hD0, hT⟩ := hv
  have hx := B.exec
  have hb := B.bytes
  have hr := B.returns
  have hown : s.vm.findClass "UnikernelHttp$Wire" = some m.cls := findClass_of_methodNamed B.named
  have hlocks := B.notSynchronized
  subst hsz
  have hD := hD0.self (sz := s.heap.size)
  have hns := ux_ns hP
  generalize hAe : va_A [(wi, .inr (2, [.ref nb, .ref w1, .ref w2, .int 0, .int 0]))] s.heap.size = A at hD hns ⊢
  have hA : ∀ q : Nat, s.heap.size ≤ q → A q := fun q h => by rw [← hAe]; exact Or.inr h
  have hS : va_S A s.heap s.heap [] := va_S.rf
  have hl := lv_entry ([.ref wi, .int k]) (n := 2) (Nat.le_of_ble_eq_true rfl)
  rw [lg_entry_eq]
  generalize (lg_sl ([.ref wi, .int k]) ++ List.replicate (2 - (lg_sl ([.ref wi, .int k])).length) Slot.unset).toArray = ls at hl ⊢
  have hl : lv_has ls 2 [(0, .ref wi), (1, .int k)] := hl
  have hfx : CallFix p m c b_Wi_keeps 2 s ([.ref wi, .int k] : List Value).toArray [] "UnikernelHttp$Wire" := ⟨hx, hb, hml, hown, fun _ h => by cases h⟩
  refine lv_iload_n hx hb d_Wi_keeps_0 rfl (lv_at hl 1 rfl) ?_
  refine lv_if_lt (tgt := 27) hx hb d_Wi_keeps_1 (by decide) (fun hc1 => ?_) (fun hc1 => ?_)
  · refine lv_iconst (v := 0) hx hb d_Wi_keeps_27 (by decide) ?_
    have hP9 := hP.sub (ws' := [(wi, .inr (2, [.ref nb, .ref w1, .ref w2, .int 0, .int 0]))]) [0] rfl
    have hD9 := hD.sub (ws' := [(wi, .inr (2, [.ref nb, .ref w1, .ref w2, .int 0, .int 0]))]) [0] (by decide) rfl
    have hK9 := hK.sub (tys' := []) [] rfl
    refine W.widen (k := 0) (n := 0) (Nat.le_of_ble_eq_true rfl) (Nat.le_of_ble_eq_true rfl) ?_
    exact W.zret (v := 0) hx hb hr (by decide) (fun t ht hW => ⟨⟨_, (), rfl, rfl, by rw [ht]; exact hP9, va_K.moved hW.alike hK9, hD9⟩, hS.F ht⟩) hS.2.2 d_Wi_keeps_28
  · refine lv_iload_n hx hb d_Wi_keeps_4 rfl (lv_at hl 1 rfl) ?_
    refine lv_aload_n hx hb d_Wi_keeps_5 rfl (lv_at hl 0 rfl) ?_
    refine va_get (D := (dC, dI)) (ci := 2) (v := .int 0) (C := R_Wi) (T := F_Wi) (N := 5) hx hb (u_Wi hT) (fun _ h => h) hown hK hP 0 rfl rfl 3 (by decide) (ux_T_at hT tw_80 rfl) (fun _ h9 => h9) rfl d_Wi_keeps_6 ?_
    refine lv_icmp_ge (tgt := 27) hx hb d_Wi_keeps_9 (by decide) (fun _ => ?_) (fun hc2 => by exfalso; simp only [Int32.lt_iff_toInt_lt, Int32.le_iff_toInt_le, ← Int32.toInt_inj, ux_l0] at hc2 hc1; omega)
    refine lv_iconst (v := 0) hx hb d_Wi_keeps_27 (by decide) ?_
    have hP9 := hP.sub (ws' := [(wi, .inr (2, [.ref nb, .ref w1, .ref w2, .int 0, .int 0]))]) [0] rfl
    have hD9 := hD.sub (ws' := [(wi, .inr (2, [.ref nb, .ref w1, .ref w2, .int 0, .int 0]))]) [0] (by decide) rfl
    have hK9 := hK.sub (tys' := []) [] rfl
    refine W.widen (k := 0) (n := 0) (Nat.le_of_ble_eq_true rfl) (Nat.le_of_ble_eq_true rfl) ?_
    exact W.zret (v := 0) hx hb hr (by decide) (fun t ht hW => ⟨⟨_, (), rfl, rfl, by rw [ht]; exact hP9, va_K.moved hW.alike hK9, hD9⟩, hS.F ht⟩) hS.2.2 d_Wi_keeps_28
end
section
/-! Which words the rows behind use, by their places. -/
theorem tw_1 : (Jvm.Cond.initialized "UnikernelHttp") ∈ lw_tbl := ux_in 1 ux_t1 rfl
theorem tw_15 : (Jvm.Cond.initialized "java/lang/Throwable") ∈ lw_tbl := ux_in 15 ux_t1 rfl
theorem tw_19 : (Jvm.Cond.initialized "java/lang/IllegalArgumentException") ∈ lw_tbl := ux_in 19 ux_t1 rfl
theorem tw_21 : (Jvm.Cond.initialized "java/lang/Math") ∈ lw_tbl := ux_in 21 ux_t1 rfl
theorem tw_31 : (Jvm.Cond.initialized "java/lang/IndexOutOfBoundsException") ∈ lw_tbl := ux_in 31 ux_t1 rfl
theorem tw_33 : (Jvm.Cond.initialized "java/util/NoSuchElementException") ∈ lw_tbl := ux_in 33 ux_t1 rfl
theorem tw_53 : (Jvm.Cond.fieldLinkNest "UnikernelHttp" (189 : Nat) "UnikernelHttp$Neighbours" "held" "I" "UnikernelHttp") ∈ lw_tbl := ux_in 53 ux_t1 rfl
theorem tw_81 : (Jvm.Cond.fieldLinkNest "UnikernelHttp" (90 : Nat) "UnikernelHttp$Wire" "sent" "I" "UnikernelHttp") ∈ lw_tbl := ux_in 81 ux_t1 rfl
theorem tw_83 : (Jvm.Cond.fieldLinkNest "UnikernelHttp" (191 : Nat) "UnikernelHttp$Wire" "made" "I" "UnikernelHttp") ∈ lw_tbl := ux_in 83 ux_t1 rfl
theorem tw_144 : (Jvm.Cond.fieldLinkNest "UnikernelHttp" (190 : Nat) "UnikernelHttp$Gatherings" "held" "I" "UnikernelHttp") ∈ lw_tbl := ux_in 144 ux_t1 rfl
theorem tw_374 : (Jvm.Cond.fieldLinkNest "UnikernelHttp" (185 : Nat) "UnikernelHttp$Tcp" "held" "I" "UnikernelHttp") ∈ lw_tbl := ux_in 134 ux_t2 rfl
theorem tw_376 : (Jvm.Cond.fieldLinkNest "UnikernelHttp" (186 : Nat) "UnikernelHttp$Tcp" "made" "I" "UnikernelHttp") ∈ lw_tbl := ux_in 136 ux_t2 rfl
theorem tw_406 : (Jvm.Cond.fieldLinkNest "UnikernelHttp" (125 : Nat) "UnikernelHttp$Store" "held" "I" "UnikernelHttp") ∈ lw_tbl := ux_in 166 ux_t2 rfl
theorem tw_444 : (Jvm.Cond.fieldLink "UnikernelHttp" (76 : Nat) "UnikernelHttp" "rowLength" "I") ∈ lw_tbl := ux_in 204 ux_t2 rfl
theorem tw_445 : (Jvm.Cond.fieldLink "UnikernelHttp" (143 : Nat) "UnikernelHttp" "time" "I") ∈ lw_tbl := ux_in 205 ux_t2 rfl
theorem tw_497 : (Jvm.Cond.declares ({ cls := "java/lang/RuntimeException", name := "<init>", desc := "()V" } : Jvm.MethodName)) ∈ lw_tbl := ux_in 17 ux_t3 rfl
theorem tw_499 : (Jvm.Cond.declares ({ cls := "java/lang/Exception", name := "<init>", desc := "()V" } : Jvm.MethodName)) ∈ lw_tbl := ux_in 19 ux_t3 rfl
theorem tw_501 : (Jvm.Cond.declares ({ cls := "java/lang/Throwable", name := "<init>", desc := "()V" } : Jvm.MethodName)) ∈ lw_tbl := ux_in 21 ux_t3 rfl
theorem tw_506 : (Jvm.Cond.lays "java/lang/Throwable" "java/lang/Throwable" "cause" "Ljava/lang/Throwable;") ∈ lw_tbl := ux_in 26 ux_t3 rfl
theorem tw_508 : (Jvm.Cond.lays "java/lang/Throwable" "java/lang/Throwable" "stackTrace" "[Ljava/lang/StackTraceElement;") ∈ lw_tbl := ux_in 28 ux_t3 rfl
theorem tw_510 : (Jvm.Cond.lays "java/lang/Throwable" "java/lang/Throwable" "suppressedExceptions" "Ljava/util/List;") ∈ lw_tbl := ux_in 30 ux_t3 rfl
theorem tw_512 : (Jvm.Cond.lays "java/lang/Throwable" "java/lang/Throwable" "detailMessage" "Ljava/lang/String;") ∈ lw_tbl := ux_in 32 ux_t3 rfl
theorem tw_514 : (Jvm.Cond.lays "java/lang/Throwable" "java/lang/Throwable" "backtrace" "Ljava/lang/Object;") ∈ lw_tbl := ux_in 34 ux_t3 rfl
theorem tw_515 : (Jvm.Cond.fieldLink "java/lang/Throwable" (198 : Nat) "java/lang/Throwable" "backtrace" "Ljava/lang/Object;") ∈ lw_tbl := ux_in 35 ux_t3 rfl
theorem tw_516 : (Jvm.Cond.superclass "java/lang/Throwable" "java/lang/Object") ∈ lw_tbl := ux_in 36 ux_t3 rfl
theorem tw_517 : (Jvm.Cond.instanceMethod ({ cls := "java/lang/Throwable", name := "<init>", desc := "()V" } : Jvm.MethodName)) ∈ lw_tbl := ux_in 37 ux_t3 rfl
theorem tw_518 : (Jvm.Cond.code ({ cls := "java/lang/Throwable", name := "<init>", desc := "()V" } : Jvm.MethodName) prog_31_method_1_code (1 : Nat) (Option.none : Option Jvm.ClassFile.FieldType)) ∈ lw_tbl := ux_in 38 ux_t3 rfl
theorem tw_519 : (Jvm.Cond.methodLink "java/lang/Throwable" (1 : Nat) ({ cls := "java/lang/Object", name := "<init>", desc := "()V" } : Jvm.MethodName)) ∈ lw_tbl := ux_in 39 ux_t3 rfl
theorem tw_520 : (Jvm.Cond.fieldLink "java/lang/Throwable" (13 : Nat) "java/lang/Throwable" "UNASSIGNED_STACK" "[Ljava/lang/StackTraceElement;") ∈ lw_tbl := ux_in 40 ux_t3 rfl
theorem tw_522 : (Jvm.Cond.fieldLink "java/lang/Throwable" (20 : Nat) "java/lang/Throwable" "SUPPRESSED_SENTINEL" "Ljava/util/List;") ∈ lw_tbl := ux_in 42 ux_t3 rfl
theorem tw_524 : (Jvm.Cond.methodLink "java/lang/Throwable" (27 : Nat) ({ cls := "java/lang/Throwable", name := "fillInStackTrace", desc := "()Ljava/lang/Throwable;" } : Jvm.MethodName)) ∈ lw_tbl := ux_in 44 ux_t3 rfl
theorem tw_525 : (Jvm.Cond.instanceMethod ({ cls := "java/lang/Throwable", name := "fillInStackTrace", desc := "()Ljava/lang/Throwable;" } : Jvm.MethodName)) ∈ lw_tbl := ux_in 45 ux_t3 rfl
theorem tw_528 : (Jvm.Cond.selects "java/lang/IllegalArgumentException" ({ cls := "java/lang/Throwable", name := "fillInStackTrace", desc := "()Ljava/lang/Throwable;" } : Jvm.MethodName) ({ cls := "java/lang/Throwable", name := "fillInStackTrace", desc := "()Ljava/lang/Throwable;" } : Jvm.MethodName)) ∈ lw_tbl := ux_in 48 ux_t3 rfl
theorem tw_529 : (Jvm.Cond.selects "java/lang/IndexOutOfBoundsException" ({ cls := "java/lang/Throwable", name := "fillInStackTrace", desc := "()Ljava/lang/Throwable;" } : Jvm.MethodName) ({ cls := "java/lang/Throwable", name := "fillInStackTrace", desc := "()Ljava/lang/Throwable;" } : Jvm.MethodName)) ∈ lw_tbl := ux_in 49 ux_t3 rfl
theorem tw_530 : (Jvm.Cond.selects "java/util/NoSuchElementException" ({ cls := "java/lang/Throwable", name := "fillInStackTrace", desc := "()Ljava/lang/Throwable;" } : Jvm.MethodName) ({ cls := "java/lang/Throwable", name := "fillInStackTrace", desc := "()Ljava/lang/Throwable;" } : Jvm.MethodName)) ∈ lw_tbl := ux_in 50 ux_t3 rfl
theorem tw_531 : (Jvm.Cond.codeSync ({ cls := "java/lang/Throwable", name := "fillInStackTrace", desc := "()Ljava/lang/Throwable;" } : Jvm.MethodName) prog_31_method_18_code (1 : Nat) (Option.some (Jvm.ClassFile.FieldType.object "java/lang/Throwable"))) ∈ lw_tbl := ux_in 51 ux_t3 rfl
theorem tw_532 : (Jvm.Cond.methodLink "java/lang/Throwable" (202 : Nat) ({ cls := "java/lang/Throwable", name := "fillInStackTrace", desc := "(I)Ljava/lang/Throwable;" } : Jvm.MethodName)) ∈ lw_tbl := ux_in 52 ux_t3 rfl
theorem tw_534 : (Jvm.Cond.instanceMethod ({ cls := "java/lang/Throwable", name := "fillInStackTrace", desc := "(I)Ljava/lang/Throwable;" } : Jvm.MethodName)) ∈ lw_tbl := ux_in 54 ux_t3 rfl
theorem tw_536 : (Jvm.Cond.native ({ cls := "java/lang/Throwable", name := "fillInStackTrace", desc := "(I)Ljava/lang/Throwable;" } : Jvm.MethodName)) ∈ lw_tbl := ux_in 56 ux_t3 rfl
theorem tw_541 : (Jvm.Cond.instanceMethod ({ cls := "java/lang/RuntimeException", name := "<init>", desc := "()V" } : Jvm.MethodName)) ∈ lw_tbl := ux_in 61 ux_t3 rfl
theorem tw_542 : (Jvm.Cond.code ({ cls := "java/lang/RuntimeException", name := "<init>", desc := "()V" } : Jvm.MethodName) prog_25_method_1_code (1 : Nat) (Option.none : Option Jvm.ClassFile.FieldType)) ∈ lw_tbl := ux_in 62 ux_t3 rfl
theorem tw_543 : (Jvm.Cond.methodLink "java/lang/RuntimeException" (1 : Nat) ({ cls := "java/lang/Exception", name := "<init>", desc := "()V" } : Jvm.MethodName)) ∈ lw_tbl := ux_in 63 ux_t3 rfl
theorem tw_544 : (Jvm.Cond.instanceMethod ({ cls := "java/lang/Exception", name := "<init>", desc := "()V" } : Jvm.MethodName)) ∈ lw_tbl := ux_in 64 ux_t3 rfl
theorem tw_545 : (Jvm.Cond.code ({ cls := "java/lang/Exception", name := "<init>", desc := "()V" } : Jvm.MethodName) prog_19_method_1_code (1 : Nat) (Option.none : Option Jvm.ClassFile.FieldType)) ∈ lw_tbl := ux_in 65 ux_t3 rfl
theorem tw_546 : (Jvm.Cond.methodLink "java/lang/Exception" (1 : Nat) ({ cls := "java/lang/Throwable", name := "<init>", desc := "()V" } : Jvm.MethodName)) ∈ lw_tbl := ux_in 66 ux_t3 rfl
theorem tw_549 : (Jvm.Cond.fieldLink "java/lang/Throwable" (7 : Nat) "java/lang/Throwable" "cause" "Ljava/lang/Throwable;") ∈ lw_tbl := ux_in 69 ux_t3 rfl
theorem tw_550 : (Jvm.Cond.fieldLink "java/lang/Throwable" (17 : Nat) "java/lang/Throwable" "stackTrace" "[Ljava/lang/StackTraceElement;") ∈ lw_tbl := ux_in 70 ux_t3 rfl
theorem tw_551 : (Jvm.Cond.fieldLink "java/lang/Throwable" (24 : Nat) "java/lang/Throwable" "suppressedExceptions" "Ljava/util/List;") ∈ lw_tbl := ux_in 71 ux_t3 rfl
theorem tw_560 : (Jvm.Cond.methodLink "UnikernelHttp" (83 : Nat) ({ cls := "UnikernelHttp", name := "putFour", desc := "([BII)V" } : Jvm.MethodName)) ∈ lw_tbl := ux_in 80 ux_t3 rfl
theorem tw_561 : (Jvm.Cond.static ({ cls := "UnikernelHttp", name := "putFour", desc := "([BII)V" } : Jvm.MethodName)) ∈ lw_tbl := ux_in 81 ux_t3 rfl
theorem tw_562 : (Jvm.Cond.code ({ cls := "UnikernelHttp", name := "putFour", desc := "([BII)V" } : Jvm.MethodName) prog_1_method_23_code (3 : Nat) (Option.none : Option Jvm.ClassFile.FieldType)) ∈ lw_tbl := ux_in 82 ux_t3 rfl
theorem tw_571 : (Jvm.Cond.classLink "UnikernelHttp" (87 : Nat) "java/lang/IllegalArgumentException") ∈ lw_tbl := ux_in 91 ux_t3 rfl
theorem tw_572 : (Jvm.Cond.instantiable "java/lang/IllegalArgumentException" (6 : Nat)) ∈ lw_tbl := ux_in 92 ux_t3 rfl
theorem tw_573 : (Jvm.Cond.castable "java/lang/IllegalArgumentException" "java/lang/IllegalArgumentException") ∈ lw_tbl := ux_in 93 ux_t3 rfl
theorem tw_574 : (Jvm.Cond.selects "java/lang/IllegalArgumentException" ({ cls := "java/lang/Throwable", name := "fillInStackTrace", desc := "(I)Ljava/lang/Throwable;" } : Jvm.MethodName) ({ cls := "java/lang/Throwable", name := "fillInStackTrace", desc := "(I)Ljava/lang/Throwable;" } : Jvm.MethodName)) ∈ lw_tbl := ux_in 94 ux_t3 rfl
theorem tw_575 : (Jvm.Cond.lays "java/lang/IllegalArgumentException" "java/lang/Throwable" "cause" "Ljava/lang/Throwable;") ∈ lw_tbl := ux_in 95 ux_t3 rfl
theorem tw_576 : (Jvm.Cond.lays "java/lang/IllegalArgumentException" "java/lang/Throwable" "stackTrace" "[Ljava/lang/StackTraceElement;") ∈ lw_tbl := ux_in 96 ux_t3 rfl
theorem tw_577 : (Jvm.Cond.lays "java/lang/IllegalArgumentException" "java/lang/Throwable" "suppressedExceptions" "Ljava/util/List;") ∈ lw_tbl := ux_in 97 ux_t3 rfl
theorem tw_578 : (Jvm.Cond.lays "java/lang/IllegalArgumentException" "java/lang/Throwable" "detailMessage" "Ljava/lang/String;") ∈ lw_tbl := ux_in 98 ux_t3 rfl
theorem tw_579 : (Jvm.Cond.lays "java/lang/IllegalArgumentException" "java/lang/Throwable" "backtrace" "Ljava/lang/Object;") ∈ lw_tbl := ux_in 99 ux_t3 rfl
theorem tw_580 : (Jvm.Cond.methodLink "UnikernelHttp" (89 : Nat) ({ cls := "java/lang/IllegalArgumentException", name := "<init>", desc := "()V" } : Jvm.MethodName)) ∈ lw_tbl := ux_in 100 ux_t3 rfl
theorem tw_581 : (Jvm.Cond.instanceMethod ({ cls := "java/lang/IllegalArgumentException", name := "<init>", desc := "()V" } : Jvm.MethodName)) ∈ lw_tbl := ux_in 101 ux_t3 rfl
theorem tw_582 : (Jvm.Cond.code ({ cls := "java/lang/IllegalArgumentException", name := "<init>", desc := "()V" } : Jvm.MethodName) prog_20_method_1_code (1 : Nat) (Option.none : Option Jvm.ClassFile.FieldType)) ∈ lw_tbl := ux_in 102 ux_t3 rfl
theorem tw_583 : (Jvm.Cond.methodLink "java/lang/IllegalArgumentException" (1 : Nat) ({ cls := "java/lang/RuntimeException", name := "<init>", desc := "()V" } : Jvm.MethodName)) ∈ lw_tbl := ux_in 103 ux_t3 rfl
theorem tw_593 : (Jvm.Cond.methodLink "UnikernelHttp" (93 : Nat) ({ cls := "UnikernelHttp", name := "isForMe", desc := "(I)Z" } : Jvm.MethodName)) ∈ lw_tbl := ux_in 113 ux_t3 rfl
theorem tw_595 : (Jvm.Cond.instanceMethod ({ cls := "UnikernelHttp", name := "isForMe", desc := "(I)Z" } : Jvm.MethodName)) ∈ lw_tbl := ux_in 115 ux_t3 rfl
theorem tw_596 : (Jvm.Cond.code ({ cls := "UnikernelHttp", name := "isForMe", desc := "(I)Z" } : Jvm.MethodName) prog_1_method_12_code (4 : Nat) (Option.some Jvm.ClassFile.FieldType.boolean)) ∈ lw_tbl := ux_in 116 ux_t3 rfl
theorem tw_754 : (Jvm.Cond.static ({ cls := "java/lang/Math", name := "min", desc := "(II)I" } : Jvm.MethodName)) ∈ lw_tbl := ux_in 34 ux_t4 rfl
theorem tw_755 : (Jvm.Cond.code ({ cls := "java/lang/Math", name := "min", desc := "(II)I" } : Jvm.MethodName) prog_24_method_69_code (2 : Nat) (Option.some Jvm.ClassFile.FieldType.int)) ∈ lw_tbl := ux_in 35 ux_t4 rfl
theorem tw_757 : (Jvm.Cond.methodLinkNest "UnikernelHttp" (192 : Nat) ({ cls := "UnikernelHttp$Tcp", name := "find", desc := "(II)LUnikernelHttp$Connection;" } : Jvm.MethodName) "UnikernelHttp") ∈ lw_tbl := ux_in 37 ux_t4 rfl
theorem tw_759 : (Jvm.Cond.instanceMethod ({ cls := "UnikernelHttp$Tcp", name := "find", desc := "(II)LUnikernelHttp$Connection;" } : Jvm.MethodName)) ∈ lw_tbl := ux_in 39 ux_t4 rfl
theorem tw_760 : (Jvm.Cond.code ({ cls := "UnikernelHttp$Tcp", name := "find", desc := "(II)LUnikernelHttp$Connection;" } : Jvm.MethodName) prog_11_method_2_code (4 : Nat) (Option.some (Jvm.ClassFile.FieldType.object "UnikernelHttp$Connection"))) ∈ lw_tbl := ux_in 40 ux_t4 rfl
theorem tw_1365 : (Jvm.Cond.classLink "UnikernelHttp" (135 : Nat) "java/lang/IndexOutOfBoundsException") ∈ lw_tbl := ux_in 165 ux_t6 rfl
theorem tw_1366 : (Jvm.Cond.instantiable "java/lang/IndexOutOfBoundsException" (6 : Nat)) ∈ lw_tbl := ux_in 166 ux_t6 rfl
theorem tw_1367 : (Jvm.Cond.castable "java/lang/IndexOutOfBoundsException" "java/lang/IndexOutOfBoundsException") ∈ lw_tbl := ux_in 167 ux_t6 rfl
theorem tw_1368 : (Jvm.Cond.selects "java/lang/IndexOutOfBoundsException" ({ cls := "java/lang/Throwable", name := "fillInStackTrace", desc := "(I)Ljava/lang/Throwable;" } : Jvm.MethodName) ({ cls := "java/lang/Throwable", name := "fillInStackTrace", desc := "(I)Ljava/lang/Throwable;" } : Jvm.MethodName)) ∈ lw_tbl := ux_in 168 ux_t6 rfl
theorem tw_1369 : (Jvm.Cond.lays "java/lang/IndexOutOfBoundsException" "java/lang/Throwable" "cause" "Ljava/lang/Throwable;") ∈ lw_tbl := ux_in 169 ux_t6 rfl
theorem tw_1370 : (Jvm.Cond.lays "java/lang/IndexOutOfBoundsException" "java/lang/Throwable" "stackTrace" "[Ljava/lang/StackTraceElement;") ∈ lw_tbl := ux_in 170 ux_t6 rfl
theorem tw_1371 : (Jvm.Cond.lays "java/lang/IndexOutOfBoundsException" "java/lang/Throwable" "suppressedExceptions" "Ljava/util/List;") ∈ lw_tbl := ux_in 171 ux_t6 rfl
theorem tw_1372 : (Jvm.Cond.lays "java/lang/IndexOutOfBoundsException" "java/lang/Throwable" "detailMessage" "Ljava/lang/String;") ∈ lw_tbl := ux_in 172 ux_t6 rfl
theorem tw_1373 : (Jvm.Cond.lays "java/lang/IndexOutOfBoundsException" "java/lang/Throwable" "backtrace" "Ljava/lang/Object;") ∈ lw_tbl := ux_in 173 ux_t6 rfl
theorem tw_1374 : (Jvm.Cond.methodLink "UnikernelHttp" (137 : Nat) ({ cls := "java/lang/IndexOutOfBoundsException", name := "<init>", desc := "()V" } : Jvm.MethodName)) ∈ lw_tbl := ux_in 174 ux_t6 rfl
theorem tw_1375 : (Jvm.Cond.instanceMethod ({ cls := "java/lang/IndexOutOfBoundsException", name := "<init>", desc := "()V" } : Jvm.MethodName)) ∈ lw_tbl := ux_in 175 ux_t6 rfl
theorem tw_1376 : (Jvm.Cond.code ({ cls := "java/lang/IndexOutOfBoundsException", name := "<init>", desc := "()V" } : Jvm.MethodName) prog_22_method_1_code (1 : Nat) (Option.none : Option Jvm.ClassFile.FieldType)) ∈ lw_tbl := ux_in 176 ux_t6 rfl
theorem tw_1377 : (Jvm.Cond.methodLink "java/lang/IndexOutOfBoundsException" (1 : Nat) ({ cls := "java/lang/RuntimeException", name := "<init>", desc := "()V" } : Jvm.MethodName)) ∈ lw_tbl := ux_in 177 ux_t6 rfl
theorem tw_1387 : (Jvm.Cond.constant "UnikernelHttp" (142 : Nat) (100000 : Int32)) ∈ lw_tbl := ux_in 187 ux_t6 rfl
theorem tw_1388 : (Jvm.Cond.methodLinkNest "UnikernelHttp" (146 : Nat) ({ cls := "UnikernelHttp$Gatherings", name := "due", desc := "()I" } : Jvm.MethodName) "UnikernelHttp") ∈ lw_tbl := ux_in 188 ux_t6 rfl
theorem tw_1390 : (Jvm.Cond.instanceMethod ({ cls := "UnikernelHttp$Gatherings", name := "due", desc := "()I" } : Jvm.MethodName)) ∈ lw_tbl := ux_in 190 ux_t6 rfl
theorem tw_1391 : (Jvm.Cond.code ({ cls := "UnikernelHttp$Gatherings", name := "due", desc := "()I" } : Jvm.MethodName) prog_4_method_2_code (1 : Nat) (Option.some Jvm.ClassFile.FieldType.int)) ∈ lw_tbl := ux_in 191 ux_t6 rfl
theorem tw_1393 : (Jvm.Cond.methodLinkNest "UnikernelHttp" (150 : Nat) ({ cls := "UnikernelHttp$Tcp", name := "firstDue", desc := "()LUnikernelHttp$Connection;" } : Jvm.MethodName) "UnikernelHttp") ∈ lw_tbl := ux_in 193 ux_t6 rfl
theorem tw_1395 : (Jvm.Cond.instanceMethod ({ cls := "UnikernelHttp$Tcp", name := "firstDue", desc := "()LUnikernelHttp$Connection;" } : Jvm.MethodName)) ∈ lw_tbl := ux_in 195 ux_t6 rfl
theorem tw_1396 : (Jvm.Cond.code ({ cls := "UnikernelHttp$Tcp", name := "firstDue", desc := "()LUnikernelHttp$Connection;" } : Jvm.MethodName) prog_11_method_3_code (3 : Nat) (Option.some (Jvm.ClassFile.FieldType.object "UnikernelHttp$Connection"))) ∈ lw_tbl := ux_in 196 ux_t6 rfl
theorem tw_1401 : (Jvm.Cond.constant "UnikernelHttp" (154 : Nat) (2147483647 : Int32)) ∈ lw_tbl := ux_in 201 ux_t6 rfl
theorem tw_1403 : (Jvm.Cond.methodLink "UnikernelHttp" (158 : Nat) ({ cls := "java/lang/Math", name := "min", desc := "(II)I" } : Jvm.MethodName)) ∈ lw_tbl := ux_in 203 ux_t6 rfl
theorem tw_1431 : (Jvm.Cond.methodLinkNest "UnikernelHttp" (171 : Nat) ({ cls := "UnikernelHttp$Wire", name := "keeps", desc := "(I)Z" } : Jvm.MethodName) "UnikernelHttp") ∈ lw_tbl := ux_in 231 ux_t6 rfl
theorem tw_1433 : (Jvm.Cond.instanceMethod ({ cls := "UnikernelHttp$Wire", name := "keeps", desc := "(I)Z" } : Jvm.MethodName)) ∈ lw_tbl := ux_in 233 ux_t6 rfl
theorem tw_1434 : (Jvm.Cond.code ({ cls := "UnikernelHttp$Wire", name := "keeps", desc := "(I)Z" } : Jvm.MethodName) prog_12_method_3_code (2 : Nat) (Option.some Jvm.ClassFile.FieldType.boolean)) ∈ lw_tbl := ux_in 234 ux_t6 rfl
theorem tw_1463 : (Jvm.Cond.classLink "UnikernelHttp" (196 : Nat) "java/util/NoSuchElementException") ∈ lw_tbl := ux_in 23 ux_t7 rfl
theorem tw_1464 : (Jvm.Cond.instantiable "java/util/NoSuchElementException" (6 : Nat)) ∈ lw_tbl := ux_in 24 ux_t7 rfl
theorem tw_1465 : (Jvm.Cond.castable "java/util/NoSuchElementException" "java/util/NoSuchElementException") ∈ lw_tbl := ux_in 25 ux_t7 rfl
theorem tw_1466 : (Jvm.Cond.selects "java/util/NoSuchElementException" ({ cls := "java/lang/Throwable", name := "fillInStackTrace", desc := "(I)Ljava/lang/Throwable;" } : Jvm.MethodName) ({ cls := "java/lang/Throwable", name := "fillInStackTrace", desc := "(I)Ljava/lang/Throwable;" } : Jvm.MethodName)) ∈ lw_tbl := ux_in 26 ux_t7 rfl
theorem tw_1467 : (Jvm.Cond.lays "java/util/NoSuchElementException" "java/lang/Throwable" "cause" "Ljava/lang/Throwable;") ∈ lw_tbl := ux_in 27 ux_t7 rfl
theorem tw_1468 : (Jvm.Cond.lays "java/util/NoSuchElementException" "java/lang/Throwable" "stackTrace" "[Ljava/lang/StackTraceElement;") ∈ lw_tbl := ux_in 28 ux_t7 rfl
theorem tw_1469 : (Jvm.Cond.lays "java/util/NoSuchElementException" "java/lang/Throwable" "suppressedExceptions" "Ljava/util/List;") ∈ lw_tbl := ux_in 29 ux_t7 rfl
theorem tw_1470 : (Jvm.Cond.lays "java/util/NoSuchElementException" "java/lang/Throwable" "detailMessage" "Ljava/lang/String;") ∈ lw_tbl := ux_in 30 ux_t7 rfl
theorem tw_1471 : (Jvm.Cond.lays "java/util/NoSuchElementException" "java/lang/Throwable" "backtrace" "Ljava/lang/Object;") ∈ lw_tbl := ux_in 31 ux_t7 rfl
theorem tw_1472 : (Jvm.Cond.methodLink "UnikernelHttp" (198 : Nat) ({ cls := "java/util/NoSuchElementException", name := "<init>", desc := "()V" } : Jvm.MethodName)) ∈ lw_tbl := ux_in 32 ux_t7 rfl
theorem tw_1473 : (Jvm.Cond.instanceMethod ({ cls := "java/util/NoSuchElementException", name := "<init>", desc := "()V" } : Jvm.MethodName)) ∈ lw_tbl := ux_in 33 ux_t7 rfl
theorem tw_1474 : (Jvm.Cond.code ({ cls := "java/util/NoSuchElementException", name := "<init>", desc := "()V" } : Jvm.MethodName) prog_33_method_1_code (1 : Nat) (Option.none : Option Jvm.ClassFile.FieldType)) ∈ lw_tbl := ux_in 34 ux_t7 rfl
theorem tw_1475 : (Jvm.Cond.methodLink "java/util/NoSuchElementException" (1 : Nat) ({ cls := "java/lang/RuntimeException", name := "<init>", desc := "()V" } : Jvm.MethodName)) ∈ lw_tbl := ux_in 35 ux_t7 rfl
abbrev b_U_feed : ByteArray := prog_1_method_2_code
abbrev y_U_feed : MethodName := ⟨"UnikernelHttp", "feed", "(IIIII)I"⟩
theorem d_U_feed_0 : decode b_U_feed 0 = .ok (.aload_n 0, 1) := by decide +kernel
theorem d_U_feed_1 : decode b_U_feed 1 = .ok (.getfield 76, 3) := by decide +kernel
theorem d_U_feed_4 : decode b_U_feed 4 = .ok (.bipush 20, 2) := by decide +kernel
theorem d_U_feed_6 : decode b_U_feed 6 = .ok (.iadd, 1) := by decide +kernel
theorem d_U_feed_7 : decode b_U_feed 7 = .ok (.sipush 2000, 3) := by decide +kernel
theorem d_U_feed_10 : decode b_U_feed 10 = .ok (.if_icmp .le 11, 3) := by decide +kernel
theorem d_U_feed_21 : decode b_U_feed 21 = .ok (.aload_n 0, 1) := by decide +kernel
theorem d_U_feed_22 : decode b_U_feed 22 = .ok (.getfield 11, 3) := by decide +kernel
theorem d_U_feed_25 : decode b_U_feed 25 = .ok (.aload_n 0, 1) := by decide +kernel
theorem d_U_feed_26 : decode b_U_feed 26 = .ok (.getfield 76, 3) := by decide +kernel
theorem d_U_feed_29 : decode b_U_feed 29 = .ok (.iload_n 1, 1) := by decide +kernel
theorem d_U_feed_30 : decode b_U_feed 30 = .ok (.invokestatic 83, 3) := by decide +kernel
theorem d_U_feed_33 : decode b_U_feed 33 = .ok (.aload_n 0, 1) := by decide +kernel
theorem d_U_feed_34 : decode b_U_feed 34 = .ok (.getfield 11, 3) := by decide +kernel
theorem d_U_feed_37 : decode b_U_feed 37 = .ok (.aload_n 0, 1) := by decide +kernel
theorem d_U_feed_38 : decode b_U_feed 38 = .ok (.getfield 76, 3) := by decide +kernel
theorem d_U_feed_41 : decode b_U_feed 41 = .ok (.iconst 4, 1) := by decide +kernel
theorem d_U_feed_42 : decode b_U_feed 42 = .ok (.iadd, 1) := by decide +kernel
theorem d_U_feed_43 : decode b_U_feed 43 = .ok (.iload_n 2, 1) := by decide +kernel
theorem d_U_feed_44 : decode b_U_feed 44 = .ok (.invokestatic 83, 3) := by decide +kernel
theorem d_U_feed_47 : decode b_U_feed 47 = .ok (.aload_n 0, 1) := by decide +kernel
theorem d_U_feed_48 : decode b_U_feed 48 = .ok (.getfield 11, 3) := by decide +kernel
theorem d_U_feed_51 : decode b_U_feed 51 = .ok (.aload_n 0, 1) := by decide +kernel
theorem d_U_feed_52 : decode b_U_feed 52 = .ok (.getfield 76, 3) := by decide +kernel
theorem d_U_feed_55 : decode b_U_feed 55 = .ok (.bipush 8, 2) := by decide +kernel
theorem d_U_feed_57 : decode b_U_feed 57 = .ok (.iadd, 1) := by decide +kernel
theorem d_U_feed_58 : decode b_U_feed 58 = .ok (.iload_n 3, 1) := by decide +kernel
theorem d_U_feed_59 : decode b_U_feed 59 = .ok (.invokestatic 83, 3) := by decide +kernel
theorem d_U_feed_62 : decode b_U_feed 62 = .ok (.aload_n 0, 1) := by decide +kernel
theorem d_U_feed_63 : decode b_U_feed 63 = .ok (.getfield 11, 3) := by decide +kernel
theorem d_U_feed_66 : decode b_U_feed 66 = .ok (.aload_n 0, 1) := by decide +kernel
theorem d_U_feed_67 : decode b_U_feed 67 = .ok (.getfield 76, 3) := by decide +kernel
theorem d_U_feed_70 : decode b_U_feed 70 = .ok (.bipush 12, 2) := by decide +kernel
theorem d_U_feed_72 : decode b_U_feed 72 = .ok (.iadd, 1) := by decide +kernel
theorem d_U_feed_73 : decode b_U_feed 73 = .ok (.iload 4, 2) := by decide +kernel
theorem d_U_feed_75 : decode b_U_feed 75 = .ok (.invokestatic 83, 3) := by decide +kernel
theorem d_U_feed_78 : decode b_U_feed 78 = .ok (.aload_n 0, 1) := by decide +kernel
theorem d_U_feed_79 : decode b_U_feed 79 = .ok (.getfield 11, 3) := by decide +kernel
theorem d_U_feed_82 : decode b_U_feed 82 = .ok (.aload_n 0, 1) := by decide +kernel
theorem d_U_feed_83 : decode b_U_feed 83 = .ok (.getfield 76, 3) := by decide +kernel
theorem d_U_feed_86 : decode b_U_feed 86 = .ok (.bipush 16, 2) := by decide +kernel
theorem d_U_feed_88 : decode b_U_feed 88 = .ok (.iadd, 1) := by decide +kernel
theorem d_U_feed_89 : decode b_U_feed 89 = .ok (.iload 5, 2) := by decide +kernel
theorem d_U_feed_91 : decode b_U_feed 91 = .ok (.invokestatic 83, 3) := by decide +kernel
theorem d_U_feed_94 : decode b_U_feed 94 = .ok (.aload_n 0, 1) := by decide +kernel
theorem d_U_feed_95 : decode b_U_feed 95 = .ok (.dup, 1) := by decide +kernel
theorem d_U_feed_96 : decode b_U_feed 96 = .ok (.getfield 76, 3) := by decide +kernel
theorem d_U_feed_99 : decode b_U_feed 99 = .ok (.bipush 20, 2) := by decide +kernel
theorem d_U_feed_101 : decode b_U_feed 101 = .ok (.iadd, 1) := by decide +kernel
theorem d_U_feed_102 : decode b_U_feed 102 = .ok (.putfield 76, 3) := by decide +kernel
theorem d_U_feed_105 : decode b_U_feed 105 = .ok (.aload_n 0, 1) := by decide +kernel
theorem d_U_feed_106 : decode b_U_feed 106 = .ok (.getfield 76, 3) := by decide +kernel
theorem d_U_feed_109 : decode b_U_feed 109 = .ok (.ireturn, 1) := by decide +kernel
abbrev b_U_cut : ByteArray := prog_1_method_3_code
abbrev y_U_cut : MethodName := ⟨"UnikernelHttp", "cut", "(I)I"⟩
theorem d_U_cut_0 : decode b_U_cut 0 = .ok (.iload_n 1, 1) := by decide +kernel
theorem d_U_cut_1 : decode b_U_cut 1 = .ok (.ifCond .lt 11, 3) := by decide +kernel
theorem d_U_cut_4 : decode b_U_cut 4 = .ok (.iload_n 1, 1) := by decide +kernel
theorem d_U_cut_5 : decode b_U_cut 5 = .ok (.aload_n 0, 1) := by decide +kernel
theorem d_U_cut_6 : decode b_U_cut 6 = .ok (.getfield 76, 3) := by decide +kernel
theorem d_U_cut_9 : decode b_U_cut 9 = .ok (.if_icmp .le 11, 3) := by decide +kernel
theorem d_U_cut_12 : decode b_U_cut 12 = .ok (.new 87, 3) := by decide +kernel
theorem d_U_cut_15 : decode b_U_cut 15 = .ok (.dup, 1) := by decide +kernel
theorem d_U_cut_16 : decode b_U_cut 16 = .ok (.invokespecial 89, 3) := by decide +kernel
theorem d_U_cut_19 : decode b_U_cut 19 = .ok (.athrow, 1) := by decide +kernel
theorem d_U_cut_20 : decode b_U_cut 20 = .ok (.aload_n 0, 1) := by decide +kernel
theorem d_U_cut_21 : decode b_U_cut 21 = .ok (.iload_n 1, 1) := by decide +kernel
theorem d_U_cut_22 : decode b_U_cut 22 = .ok (.putfield 76, 3) := by decide +kernel
theorem d_U_cut_25 : decode b_U_cut 25 = .ok (.iload_n 1, 1) := by decide +kernel
theorem d_U_cut_26 : decode b_U_cut 26 = .ok (.ireturn, 1) := by decide +kernel
abbrev b_U_arrive : ByteArray := prog_1_method_4_code
abbrev y_U_arrive : MethodName := ⟨"UnikernelHttp", "arrive", "()I"⟩
theorem d_U_arrive_0 : decode b_U_arrive 0 = .ok (.aload_n 0, 1) := by decide +kernel
theorem d_U_arrive_1 : decode b_U_arrive 1 = .ok (.getfield 76, 3) := by decide +kernel
theorem d_U_arrive_4 : decode b_U_arrive 4 = .ok (.sipush 1518, 3) := by decide +kernel
theorem d_U_arrive_7 : decode b_U_arrive 7 = .ok (.if_icmp .le 11, 3) := by decide +kernel
theorem d_U_arrive_18 : decode b_U_arrive 18 = .ok (.aload_n 0, 1) := by decide +kernel
theorem d_U_arrive_19 : decode b_U_arrive 19 = .ok (.getfield 27, 3) := by decide +kernel
theorem d_U_arrive_22 : decode b_U_arrive 22 = .ok (.getfield 90, 3) := by decide +kernel
theorem d_U_arrive_25 : decode b_U_arrive 25 = .ok (.istore_n 1, 1) := by decide +kernel
theorem d_U_arrive_26 : decode b_U_arrive 26 = .ok (.aload_n 0, 1) := by decide +kernel
theorem d_U_arrive_27 : decode b_U_arrive 27 = .ok (.getfield 76, 3) := by decide +kernel
theorem d_U_arrive_30 : decode b_U_arrive 30 = .ok (.istore_n 2, 1) := by decide +kernel
theorem d_U_arrive_31 : decode b_U_arrive 31 = .ok (.aload_n 0, 1) := by decide +kernel
theorem d_U_arrive_32 : decode b_U_arrive 32 = .ok (.iconst 0, 1) := by decide +kernel
theorem d_U_arrive_33 : decode b_U_arrive 33 = .ok (.putfield 76, 3) := by decide +kernel
theorem d_U_arrive_36 : decode b_U_arrive 36 = .ok (.aload_n 0, 1) := by decide +kernel
theorem d_U_arrive_37 : decode b_U_arrive 37 = .ok (.iload_n 2, 1) := by decide +kernel
theorem d_U_arrive_38 : decode b_U_arrive 38 = .ok (.invokevirtual 93, 3) := by decide +kernel
theorem d_U_arrive_41 : decode b_U_arrive 41 = .ok (.ifCond .eq 15, 3) := by decide +kernel
theorem d_U_arrive_56 : decode b_U_arrive 56 = .ok (.iconst 0, 1) := by decide +kernel
theorem d_U_arrive_57 : decode b_U_arrive 57 = .ok (.istore_n 3, 1) := by decide +kernel
theorem d_U_arrive_58 : decode b_U_arrive 58 = .ok (.iload_n 3, 1) := by decide +kernel
theorem d_U_arrive_59 : decode b_U_arrive 59 = .ok (.sipush 2054, 3) := by decide +kernel
theorem d_U_arrive_62 : decode b_U_arrive 62 = .ok (.if_icmp .ne 11, 3) := by decide +kernel
theorem d_U_arrive_73 : decode b_U_arrive 73 = .ok (.iload_n 3, 1) := by decide +kernel
theorem d_U_arrive_74 : decode b_U_arrive 74 = .ok (.sipush 2048, 3) := by decide +kernel
theorem d_U_arrive_77 : decode b_U_arrive 77 = .ok (.if_icmp .ne 53, 3) := by decide +kernel
theorem d_U_arrive_130 : decode b_U_arrive 130 = .ok (.aload_n 0, 1) := by decide +kernel
theorem d_U_arrive_131 : decode b_U_arrive 131 = .ok (.getfield 27, 3) := by decide +kernel
theorem d_U_arrive_134 : decode b_U_arrive 134 = .ok (.getfield 90, 3) := by decide +kernel
theorem d_U_arrive_137 : decode b_U_arrive 137 = .ok (.iload_n 1, 1) := by decide +kernel
theorem d_U_arrive_138 : decode b_U_arrive 138 = .ok (.isub, 1) := by decide +kernel
theorem d_U_arrive_139 : decode b_U_arrive 139 = .ok (.ireturn, 1) := by decide +kernel
abbrev b_U_page : ByteArray := prog_1_method_5_code
abbrev y_U_page : MethodName := ⟨"UnikernelHttp", "page", "(I)I"⟩
theorem d_U_page_0 : decode b_U_page 0 = .ok (.iload_n 1, 1) := by decide +kernel
theorem d_U_page_1 : decode b_U_page 1 = .ok (.iconst 1, 1) := by decide +kernel
theorem d_U_page_2 : decode b_U_page 2 = .ok (.if_icmp .lt 33, 3) := by decide +kernel
theorem d_U_page_5 : decode b_U_page 5 = .ok (.iload_n 1, 1) := by decide +kernel
theorem d_U_page_6 : decode b_U_page 6 = .ok (.bipush 64, 2) := by decide +kernel
theorem d_U_page_8 : decode b_U_page 8 = .ok (.if_icmp .gt 27, 3) := by decide +kernel
theorem d_U_page_11 : decode b_U_page 11 = .ok (.iload_n 1, 1) := by decide +kernel
theorem d_U_page_12 : decode b_U_page 12 = .ok (.aload_n 0, 1) := by decide +kernel
theorem d_U_page_13 : decode b_U_page 13 = .ok (.getfield 76, 3) := by decide +kernel
theorem d_U_page_16 : decode b_U_page 16 = .ok (.if_icmp .gt 19, 3) := by decide +kernel
theorem d_U_page_35 : decode b_U_page 35 = .ok (.iconst 0, 1) := by decide +kernel
theorem d_U_page_36 : decode b_U_page 36 = .ok (.istore_n 2, 1) := by decide +kernel
theorem d_U_page_37 : decode b_U_page 37 = .ok (.iload_n 2, 1) := by decide +kernel
theorem d_U_page_38 : decode b_U_page 38 = .ok (.ifCond .eq 14, 3) := by decide +kernel
theorem d_U_page_52 : decode b_U_page 52 = .ok (.new 87, 3) := by decide +kernel
theorem d_U_page_55 : decode b_U_page 55 = .ok (.dup, 1) := by decide +kernel
theorem d_U_page_56 : decode b_U_page 56 = .ok (.invokespecial 89, 3) := by decide +kernel
theorem d_U_page_59 : decode b_U_page 59 = .ok (.athrow, 1) := by decide +kernel
abbrev b_U_damage : ByteArray := prog_1_method_6_code
abbrev y_U_damage : MethodName := ⟨"UnikernelHttp", "damage", "(III)I"⟩
theorem d_U_damage_0 : decode b_U_damage 0 = .ok (.iload_n 1, 1) := by decide +kernel
theorem d_U_damage_1 : decode b_U_damage 1 = .ok (.ifCond .lt 31, 3) := by decide +kernel
theorem d_U_damage_4 : decode b_U_damage 4 = .ok (.iload_n 1, 1) := by decide +kernel
theorem d_U_damage_5 : decode b_U_damage 5 = .ok (.aload_n 0, 1) := by decide +kernel
theorem d_U_damage_6 : decode b_U_damage 6 = .ok (.getfield 57, 3) := by decide +kernel
theorem d_U_damage_9 : decode b_U_damage 9 = .ok (.getfield 125, 3) := by decide +kernel
theorem d_U_damage_12 : decode b_U_damage 12 = .ok (.if_icmp .ge 20, 3) := by decide +kernel
theorem d_U_damage_32 : decode b_U_damage 32 = .ok (.new 135, 3) := by decide +kernel
theorem d_U_damage_35 : decode b_U_damage 35 = .ok (.dup, 1) := by decide +kernel
theorem d_U_damage_36 : decode b_U_damage 36 = .ok (.invokespecial 137, 3) := by decide +kernel
theorem d_U_damage_39 : decode b_U_damage 39 = .ok (.athrow, 1) := by decide +kernel
abbrev b_U_tick : ByteArray := prog_1_method_7_code
abbrev y_U_tick : MethodName := ⟨"UnikernelHttp", "tick", "(I)I"⟩
theorem d_U_tick_0 : decode b_U_tick 0 = .ok (.iload_n 1, 1) := by decide +kernel
theorem d_U_tick_1 : decode b_U_tick 1 = .ok (.ifCond .lt 9, 3) := by decide +kernel
theorem d_U_tick_4 : decode b_U_tick 4 = .ok (.iload_n 1, 1) := by decide +kernel
theorem d_U_tick_5 : decode b_U_tick 5 = .ok (.ldc 142, 2) := by decide +kernel
theorem d_U_tick_7 : decode b_U_tick 7 = .ok (.if_icmp .le 11, 3) := by decide +kernel
theorem d_U_tick_10 : decode b_U_tick 10 = .ok (.new 87, 3) := by decide +kernel
theorem d_U_tick_13 : decode b_U_tick 13 = .ok (.dup, 1) := by decide +kernel
theorem d_U_tick_14 : decode b_U_tick 14 = .ok (.invokespecial 89, 3) := by decide +kernel
theorem d_U_tick_17 : decode b_U_tick 17 = .ok (.athrow, 1) := by decide +kernel
theorem d_U_tick_18 : decode b_U_tick 18 = .ok (.aload_n 0, 1) := by decide +kernel
theorem d_U_tick_19 : decode b_U_tick 19 = .ok (.getfield 27, 3) := by decide +kernel
theorem d_U_tick_22 : decode b_U_tick 22 = .ok (.getfield 90, 3) := by decide +kernel
theorem d_U_tick_25 : decode b_U_tick 25 = .ok (.istore_n 2, 1) := by decide +kernel
theorem d_U_tick_26 : decode b_U_tick 26 = .ok (.aload_n 0, 1) := by decide +kernel
theorem d_U_tick_27 : decode b_U_tick 27 = .ok (.getfield 143, 3) := by decide +kernel
theorem d_U_tick_30 : decode b_U_tick 30 = .ok (.iload_n 1, 1) := by decide +kernel
theorem d_U_tick_31 : decode b_U_tick 31 = .ok (.iadd, 1) := by decide +kernel
theorem d_U_tick_32 : decode b_U_tick 32 = .ok (.istore_n 3, 1) := by decide +kernel
theorem d_U_tick_33 : decode b_U_tick 33 = .ok (.iconst 0, 1) := by decide +kernel
theorem d_U_tick_34 : decode b_U_tick 34 = .ok (.istore 4, 2) := by decide +kernel
theorem d_U_tick_36 : decode b_U_tick 36 = .ok (.iload 4, 2) := by decide +kernel
theorem d_U_tick_38 : decode b_U_tick 38 = .ok (.sipush 10000, 3) := by decide +kernel
theorem d_U_tick_41 : decode b_U_tick 41 = .ok (.if_icmp .ge 111, 3) := by decide +kernel
theorem d_U_tick_44 : decode b_U_tick 44 = .ok (.aload_n 0, 1) := by decide +kernel
theorem d_U_tick_45 : decode b_U_tick 45 = .ok (.getfield 34, 3) := by decide +kernel
theorem d_U_tick_48 : decode b_U_tick 48 = .ok (.invokevirtual 146, 3) := by decide +kernel
theorem d_U_tick_51 : decode b_U_tick 51 = .ok (.istore 5, 2) := by decide +kernel
theorem d_U_tick_53 : decode b_U_tick 53 = .ok (.aload_n 0, 1) := by decide +kernel
theorem d_U_tick_54 : decode b_U_tick 54 = .ok (.getfield 50, 3) := by decide +kernel
theorem d_U_tick_57 : decode b_U_tick 57 = .ok (.invokevirtual 150, 3) := by decide +kernel
theorem d_U_tick_60 : decode b_U_tick 60 = .ok (.astore 6, 2) := by decide +kernel
theorem d_U_tick_62 : decode b_U_tick 62 = .ok (.aload 6, 2) := by decide +kernel
theorem d_U_tick_64 : decode b_U_tick 64 = .ok (.ifnonnull 8, 3) := by decide +kernel
theorem d_U_tick_67 : decode b_U_tick 67 = .ok (.ldc 154, 2) := by decide +kernel
theorem d_U_tick_69 : decode b_U_tick 69 = .ok (.goto 8, 3) := by decide +kernel
theorem d_U_tick_77 : decode b_U_tick 77 = .ok (.istore 7, 2) := by decide +kernel
theorem d_U_tick_79 : decode b_U_tick 79 = .ok (.iload 5, 2) := by decide +kernel
theorem d_U_tick_81 : decode b_U_tick 81 = .ok (.iload 7, 2) := by decide +kernel
theorem d_U_tick_83 : decode b_U_tick 83 = .ok (.invokestatic 158, 3) := by decide +kernel
theorem d_U_tick_86 : decode b_U_tick 86 = .ok (.istore 8, 2) := by decide +kernel
theorem d_U_tick_88 : decode b_U_tick 88 = .ok (.iload 8, 2) := by decide +kernel
theorem d_U_tick_90 : decode b_U_tick 90 = .ok (.ldc 154, 2) := by decide +kernel
theorem d_U_tick_92 : decode b_U_tick 92 = .ok (.if_icmp .eq 60, 3) := by decide +kernel
theorem d_U_tick_152 : decode b_U_tick 152 = .ok (.aload_n 0, 1) := by decide +kernel
theorem d_U_tick_153 : decode b_U_tick 153 = .ok (.iload_n 3, 1) := by decide +kernel
theorem d_U_tick_154 : decode b_U_tick 154 = .ok (.putfield 143, 3) := by decide +kernel
theorem d_U_tick_157 : decode b_U_tick 157 = .ok (.aload_n 0, 1) := by decide +kernel
theorem d_U_tick_158 : decode b_U_tick 158 = .ok (.getfield 27, 3) := by decide +kernel
theorem d_U_tick_161 : decode b_U_tick 161 = .ok (.getfield 90, 3) := by decide +kernel
theorem d_U_tick_164 : decode b_U_tick 164 = .ok (.iload_n 2, 1) := by decide +kernel
theorem d_U_tick_165 : decode b_U_tick 165 = .ok (.isub, 1) := by decide +kernel
theorem d_U_tick_166 : decode b_U_tick 166 = .ok (.ireturn, 1) := by decide +kernel
abbrev b_U_size : ByteArray := prog_1_method_8_code
abbrev y_U_size : MethodName := ⟨"UnikernelHttp", "size", "(I)I"⟩
theorem d_U_size_0 : decode b_U_size 0 = .ok (.aload_n 0, 1) := by decide +kernel
theorem d_U_size_1 : decode b_U_size 1 = .ok (.getfield 27, 3) := by decide +kernel
theorem d_U_size_4 : decode b_U_size 4 = .ok (.iload_n 1, 1) := by decide +kernel
theorem d_U_size_5 : decode b_U_size 5 = .ok (.invokevirtual 171, 3) := by decide +kernel
theorem d_U_size_8 : decode b_U_size 8 = .ok (.ifCond .ne 11, 3) := by decide +kernel
theorem d_U_size_11 : decode b_U_size 11 = .ok (.new 135, 3) := by decide +kernel
theorem d_U_size_14 : decode b_U_size 14 = .ok (.dup, 1) := by decide +kernel
theorem d_U_size_15 : decode b_U_size 15 = .ok (.invokespecial 137, 3) := by decide +kernel
theorem d_U_size_18 : decode b_U_size 18 = .ok (.athrow, 1) := by decide +kernel
abbrev b_U_bytes : ByteArray := prog_1_method_9_code
abbrev y_U_bytes : MethodName := ⟨"UnikernelHttp", "bytes", "(II)J"⟩
theorem d_U_bytes_0 : decode b_U_bytes 0 = .ok (.aload_n 0, 1) := by decide +kernel
theorem d_U_bytes_1 : decode b_U_bytes 1 = .ok (.getfield 27, 3) := by decide +kernel
theorem d_U_bytes_4 : decode b_U_bytes 4 = .ok (.iload_n 1, 1) := by decide +kernel
theorem d_U_bytes_5 : decode b_U_bytes 5 = .ok (.invokevirtual 171, 3) := by decide +kernel
theorem d_U_bytes_8 : decode b_U_bytes 8 = .ok (.ifCond .eq 14, 3) := by decide +kernel
theorem d_U_bytes_22 : decode b_U_bytes 22 = .ok (.new 135, 3) := by decide +kernel
theorem d_U_bytes_25 : decode b_U_bytes 25 = .ok (.dup, 1) := by decide +kernel
theorem d_U_bytes_26 : decode b_U_bytes 26 = .ok (.invokespecial 137, 3) := by decide +kernel
theorem d_U_bytes_29 : decode b_U_bytes 29 = .ok (.athrow, 1) := by decide +kernel
abbrev b_U_count : ByteArray := prog_1_method_10_code
abbrev y_U_count : MethodName := ⟨"UnikernelHttp", "count", "(I)I"⟩
theorem d_U_count_0 : decode b_U_count 0 = .ok (.iload_n 1, 1) := by decide +kernel
theorem d_U_count_1 : decode b_U_count 1 = .ok (.tableswitch 108 0 7 #[47, 55, 60, 68, 76, 84, 92, 100], 47) := by decide +kernel
theorem d_U_count_48 : decode b_U_count 48 = .ok (.aload_n 0, 1) := by decide +kernel
theorem d_U_count_49 : decode b_U_count 49 = .ok (.getfield 27, 3) := by decide +kernel
theorem d_U_count_52 : decode b_U_count 52 = .ok (.getfield 90, 3) := by decide +kernel
theorem d_U_count_55 : decode b_U_count 55 = .ok (.ireturn, 1) := by decide +kernel
theorem d_U_count_56 : decode b_U_count 56 = .ok (.aload_n 0, 1) := by decide +kernel
theorem d_U_count_57 : decode b_U_count 57 = .ok (.getfield 143, 3) := by decide +kernel
theorem d_U_count_60 : decode b_U_count 60 = .ok (.ireturn, 1) := by decide +kernel
theorem d_U_count_61 : decode b_U_count 61 = .ok (.aload_n 0, 1) := by decide +kernel
theorem d_U_count_62 : decode b_U_count 62 = .ok (.getfield 50, 3) := by decide +kernel
theorem d_U_count_65 : decode b_U_count 65 = .ok (.getfield 185, 3) := by decide +kernel
theorem d_U_count_68 : decode b_U_count 68 = .ok (.ireturn, 1) := by decide +kernel
theorem d_U_count_69 : decode b_U_count 69 = .ok (.aload_n 0, 1) := by decide +kernel
theorem d_U_count_70 : decode b_U_count 70 = .ok (.getfield 50, 3) := by decide +kernel
theorem d_U_count_73 : decode b_U_count 73 = .ok (.getfield 186, 3) := by decide +kernel
theorem d_U_count_76 : decode b_U_count 76 = .ok (.ireturn, 1) := by decide +kernel
theorem d_U_count_77 : decode b_U_count 77 = .ok (.aload_n 0, 1) := by decide +kernel
theorem d_U_count_78 : decode b_U_count 78 = .ok (.getfield 18, 3) := by decide +kernel
theorem d_U_count_81 : decode b_U_count 81 = .ok (.getfield 189, 3) := by decide +kernel
theorem d_U_count_84 : decode b_U_count 84 = .ok (.ireturn, 1) := by decide +kernel
theorem d_U_count_85 : decode b_U_count 85 = .ok (.aload_n 0, 1) := by decide +kernel
theorem d_U_count_86 : decode b_U_count 86 = .ok (.getfield 34, 3) := by decide +kernel
theorem d_U_count_89 : decode b_U_count 89 = .ok (.getfield 190, 3) := by decide +kernel
theorem d_U_count_92 : decode b_U_count 92 = .ok (.ireturn, 1) := by decide +kernel
theorem d_U_count_93 : decode b_U_count 93 = .ok (.aload_n 0, 1) := by decide +kernel
theorem d_U_count_94 : decode b_U_count 94 = .ok (.getfield 57, 3) := by decide +kernel
theorem d_U_count_97 : decode b_U_count 97 = .ok (.getfield 125, 3) := by decide +kernel
theorem d_U_count_100 : decode b_U_count 100 = .ok (.ireturn, 1) := by decide +kernel
theorem d_U_count_101 : decode b_U_count 101 = .ok (.aload_n 0, 1) := by decide +kernel
theorem d_U_count_102 : decode b_U_count 102 = .ok (.getfield 27, 3) := by decide +kernel
theorem d_U_count_105 : decode b_U_count 105 = .ok (.getfield 191, 3) := by decide +kernel
theorem d_U_count_108 : decode b_U_count 108 = .ok (.ireturn, 1) := by decide +kernel
theorem d_U_count_109 : decode b_U_count 109 = .ok (.new 87, 3) := by decide +kernel
theorem d_U_count_112 : decode b_U_count 112 = .ok (.dup, 1) := by decide +kernel
theorem d_U_count_113 : decode b_U_count 113 = .ok (.invokespecial 89, 3) := by decide +kernel
theorem d_U_count_116 : decode b_U_count 116 = .ok (.athrow, 1) := by decide +kernel
abbrev b_U_connection : ByteArray := prog_1_method_11_code
abbrev y_U_connection : MethodName := ⟨"UnikernelHttp", "connection", "(III)I"⟩
theorem d_U_connection_0 : decode b_U_connection 0 = .ok (.aload_n 0, 1) := by decide +kernel
theorem d_U_connection_1 : decode b_U_connection 1 = .ok (.getfield 50, 3) := by decide +kernel
theorem d_U_connection_4 : decode b_U_connection 4 = .ok (.iload_n 1, 1) := by decide +kernel
theorem d_U_connection_5 : decode b_U_connection 5 = .ok (.iload_n 2, 1) := by decide +kernel
theorem d_U_connection_6 : decode b_U_connection 6 = .ok (.invokevirtual 192, 3) := by decide +kernel
theorem d_U_connection_9 : decode b_U_connection 9 = .ok (.astore 4, 2) := by decide +kernel
theorem d_U_connection_11 : decode b_U_connection 11 = .ok (.aload 4, 2) := by decide +kernel
theorem d_U_connection_13 : decode b_U_connection 13 = .ok (.ifnonnull 11, 3) := by decide +kernel
theorem d_U_connection_16 : decode b_U_connection 16 = .ok (.new 196, 3) := by decide +kernel
theorem d_U_connection_19 : decode b_U_connection 19 = .ok (.dup, 1) := by decide +kernel
theorem d_U_connection_20 : decode b_U_connection 20 = .ok (.invokespecial 198, 3) := by decide +kernel
theorem d_U_connection_23 : decode b_U_connection 23 = .ok (.athrow, 1) := by decide +kernel
set_option maxRecDepth 20000 in
theorem at_137_U {args : Array Value} {s : State} (hT : ux_T s) (hH : ux_H s) : ∀ a ∈ Bundle.ownAtoms0 "UnikernelHttp" 137 "java/lang/IndexOutOfBoundsException" ["java/lang/RuntimeException", "java/lang/Exception"], a.before args s = true := by
  intro a ha
  have ha : a ∈ ([(Jvm.Cond.initialized "java/lang/Throwable"), (Jvm.Cond.superclass "java/lang/Throwable" "java/lang/Object"), (Jvm.Cond.instanceMethod ({ cls := "java/lang/Throwable", name := "fillInStackTrace", desc := "()Ljava/lang/Throwable;" } : Jvm.MethodName)), (Jvm.Cond.codeSync ({ cls := "java/lang/Throwable", name := "fillInStackTrace", desc := "()Ljava/lang/Throwable;" } : Jvm.MethodName) prog_31_method_18_code (1 : Nat) (Option.some (Jvm.ClassFile.FieldType.object "java/lang/Throwable"))), (Jvm.Cond.instanceMethod ({ cls := "java/lang/Throwable", name := "fillInStackTrace", desc := "(I)Ljava/lang/Throwable;" } : Jvm.MethodName)), (Jvm.Cond.native ({ cls := "java/lang/Throwable", name := "fillInStackTrace", desc := "(I)Ljava/lang/Throwable;" } : Jvm.MethodName)), (Jvm.Cond.instanceMethod ({ cls := "java/lang/Throwable", name := "<init>", desc := "()V" } : Jvm.MethodName)), (Jvm.Cond.code ({ cls := "java/lang/Throwable", name := "<init>", desc := "()V" } : Jvm.MethodName) prog_31_method_1_code (1 : Nat) (Option.none : Option Jvm.ClassFile.FieldType)), (Jvm.Cond.instanceMethod ({ cls := "java/lang/Object", name := "<init>", desc := "()V" } : Jvm.MethodName)), (Jvm.Cond.code ({ cls := "java/lang/Object", name := "<init>", desc := "()V" } : Jvm.MethodName) object_method_1_code (1 : Nat) (Option.none : Option Jvm.ClassFile.FieldType)), (Jvm.Cond.methodLink "java/lang/Throwable" (1 : Nat) ({ cls := "java/lang/Object", name := "<init>", desc := "()V" } : Jvm.MethodName)), (Jvm.Cond.methodLink "java/lang/Throwable" (27 : Nat) ({ cls := "java/lang/Throwable", name := "fillInStackTrace", desc := "()Ljava/lang/Throwable;" } : Jvm.MethodName)), (Jvm.Cond.methodLink "java/lang/Throwable" (202 : Nat) ({ cls := "java/lang/Throwable", name := "fillInStackTrace", desc := "(I)Ljava/lang/Throwable;" } : Jvm.MethodName)), (Jvm.Cond.fieldLink "java/lang/Throwable" (7 : Nat) "java/lang/Throwable" "cause" "Ljava/lang/Throwable;"), (Jvm.Cond.lays "java/lang/Throwable" "java/lang/Throwable" "cause" "Ljava/lang/Throwable;"), (Jvm.Cond.fieldLink "java/lang/Throwable" (17 : Nat) "java/lang/Throwable" "stackTrace" "[Ljava/lang/StackTraceElement;"), (Jvm.Cond.lays "java/lang/Throwable" "java/lang/Throwable" "stackTrace" "[Ljava/lang/StackTraceElement;"), (Jvm.Cond.fieldLink "java/lang/Throwable" (24 : Nat) "java/lang/Throwable" "suppressedExceptions" "Ljava/util/List;"), (Jvm.Cond.lays "java/lang/Throwable" "java/lang/Throwable" "suppressedExceptions" "Ljava/util/List;"), (Jvm.Cond.fieldLink "java/lang/Throwable" (13 : Nat) "java/lang/Throwable" "UNASSIGNED_STACK" "[Ljava/lang/StackTraceElement;"), .laysStatic "java/lang/Throwable" "UNASSIGNED_STACK" "[Ljava/lang/StackTraceElement;", (Jvm.Cond.fieldLink "java/lang/Throwable" (20 : Nat) "java/lang/Throwable" "SUPPRESSED_SENTINEL" "Ljava/util/List;"), .laysStatic "java/lang/Throwable" "SUPPRESSED_SENTINEL" "Ljava/util/List;", (Jvm.Cond.lays "java/lang/Throwable" "java/lang/Throwable" "detailMessage" "Ljava/lang/String;"), (Jvm.Cond.instanceMethod ({ cls := "java/lang/IndexOutOfBoundsException", name := "<init>", desc := "()V" } : Jvm.MethodName)), (Jvm.Cond.code ({ cls := "java/lang/IndexOutOfBoundsException", name := "<init>", desc := "()V" } : Jvm.MethodName) prog_22_method_1_code (1 : Nat) (Option.none : Option Jvm.ClassFile.FieldType)), (Jvm.Cond.methodLink "java/lang/IndexOutOfBoundsException" (1 : Nat) ({ cls := "java/lang/RuntimeException", name := "<init>", desc := "()V" } : Jvm.MethodName)), (Jvm.Cond.instanceMethod ({ cls := "java/lang/RuntimeException", name := "<init>", desc := "()V" } : Jvm.MethodName)), (Jvm.Cond.declares ({ cls := "java/lang/RuntimeException", name := "<init>", desc := "()V" } : Jvm.MethodName)), (Jvm.Cond.instanceMethod ({ cls := "java/lang/RuntimeException", name := "<init>", desc := "()V" } : Jvm.MethodName)), (Jvm.Cond.code ({ cls := "java/lang/RuntimeException", name := "<init>", desc := "()V" } : Jvm.MethodName) prog_25_method_1_code (1 : Nat) (Option.none : Option Jvm.ClassFile.FieldType)), (Jvm.Cond.methodLink "java/lang/RuntimeException" (1 : Nat) ({ cls := "java/lang/Exception", name := "<init>", desc := "()V" } : Jvm.MethodName)), (Jvm.Cond.instanceMethod ({ cls := "java/lang/Exception", name := "<init>", desc := "()V" } : Jvm.MethodName)), (Jvm.Cond.declares ({ cls := "java/lang/Exception", name := "<init>", desc := "()V" } : Jvm.MethodName)), (Jvm.Cond.instanceMethod ({ cls := "java/lang/Exception", name := "<init>", desc := "()V" } : Jvm.MethodName)), (Jvm.Cond.code ({ cls := "java/lang/Exception", name := "<init>", desc := "()V" } : Jvm.MethodName) prog_19_method_1_code (1 : Nat) (Option.none : Option Jvm.ClassFile.FieldType)), (Jvm.Cond.methodLink "java/lang/Exception" (1 : Nat) ({ cls := "java/lang/Throwable", name := "<init>", desc := "()V" } : Jvm.MethodName)), (Jvm.Cond.instanceMethod ({ cls := "java/lang/Throwable", name := "<init>", desc := "()V" } : Jvm.MethodName)), (Jvm.Cond.declares ({ cls := "java/lang/Throwable", name := "<init>", desc := "()V" } : Jvm.MethodName)), (Jvm.Cond.methodLink "UnikernelHttp" (137 : Nat) ({ cls := "java/lang/IndexOutOfBoundsException", name := "<init>", desc := "()V" } : Jvm.MethodName)), (Jvm.Cond.instantiable "java/lang/IndexOutOfBoundsException" (6 : Nat)), (Jvm.Cond.castable "java/lang/IndexOutOfBoundsException" "java/lang/IndexOutOfBoundsException"), (Jvm.Cond.selects "java/lang/IndexOutOfBoundsException" ({ cls := "java/lang/Throwable", name := "fillInStackTrace", desc := "(I)Ljava/lang/Throwable;" } : Jvm.MethodName) ({ cls := "java/lang/Throwable", name := "fillInStackTrace", desc := "(I)Ljava/lang/Throwable;" } : Jvm.MethodName)), (Jvm.Cond.selects "java/lang/IndexOutOfBoundsException" ({ cls := "java/lang/Throwable", name := "fillInStackTrace", desc := "()Ljava/lang/Throwable;" } : Jvm.MethodName) ({ cls := "java/lang/Throwable", name := "fillInStackTrace", desc := "()Ljava/lang/Throwable;" } : Jvm.MethodName)), (Jvm.Cond.lays "java/lang/IndexOutOfBoundsException" "java/lang/Throwable" "cause" "Ljava/lang/Throwable;"), (Jvm.Cond.lays "java/lang/IndexOutOfBoundsException" "java/lang/Throwable" "stackTrace" "[Ljava/lang/StackTraceElement;"), (Jvm.Cond.lays "java/lang/IndexOutOfBoundsException" "java/lang/Throwable" "suppressedExceptions" "Ljava/util/List;"), (Jvm.Cond.lays "java/lang/IndexOutOfBoundsException" "java/lang/Throwable" "detailMessage" "Ljava/lang/String;"), .isRef (.static "java/lang/Throwable" "UNASSIGNED_STACK" "[Ljava/lang/StackTraceElement;"), .isRef (.static "java/lang/Throwable" "SUPPRESSED_SENTINEL" "Ljava/util/List;"), (Jvm.Cond.fieldLink "java/lang/Throwable" (198 : Nat) "java/lang/Throwable" "backtrace" "Ljava/lang/Object;"), (Jvm.Cond.lays "java/lang/Throwable" "java/lang/Throwable" "backtrace" "Ljava/lang/Object;"), (Jvm.Cond.lays "java/lang/IndexOutOfBoundsException" "java/lang/Throwable" "backtrace" "Ljava/lang/Object;")] : List Cond) := ha
  simp only [List.mem_cons, List.not_mem_nil, or_false] at ha
  rcases ha with rfl | rfl | rfl | rfl | rfl | rfl | rfl | rfl | rfl | rfl | rfl | rfl | rfl | rfl | rfl | rfl | rfl | rfl | rfl | rfl | rfl | rfl | rfl | rfl | rfl | rfl | rfl | rfl | rfl | rfl | rfl | rfl | rfl | rfl | rfl | rfl | rfl | rfl | rfl | rfl | rfl | rfl | rfl | rfl | rfl | rfl | rfl | rfl | rfl | rfl | rfl | rfl | rfl
  · exact ux_T_at hT tw_15 rfl
  · exact ux_T_at hT tw_516 rfl
  · exact ux_T_at hT tw_525 rfl
  · exact ux_T_at hT tw_531 rfl
  · exact ux_T_at hT tw_534 rfl
  · exact ux_T_at hT tw_536 rfl
  · exact ux_T_at hT tw_517 rfl
  · exact ux_T_at hT tw_518 rfl
  · exact ux_T_at hT tw_40 rfl
  · exact ux_T_at hT tw_41 rfl
  · exact ux_T_at hT tw_519 rfl
  · exact ux_T_at hT tw_524 rfl
  · exact ux_T_at hT tw_532 rfl
  · exact ux_T_at hT tw_549 rfl
  · exact ux_T_at hT tw_506 rfl
  · exact ux_T_at hT tw_550 rfl
  · exact ux_T_at hT tw_508 rfl
  · exact ux_T_at hT tw_551 rfl
  · exact ux_T_at hT tw_510 rfl
  · exact ux_T_at hT tw_520 rfl
  · exact hH _ (by simp [ux_W4]) _
  · exact ux_T_at hT tw_522 rfl
  · exact hH _ (by simp [ux_W4]) _
  · exact ux_T_at hT tw_512 rfl
  · exact ux_T_at hT tw_1375 rfl
  · exact ux_T_at hT tw_1376 rfl
  · exact ux_T_at hT tw_1377 rfl
  · exact ux_T_at hT tw_541 rfl
  · exact ux_T_at hT tw_497 rfl
  · exact ux_T_at hT tw_541 rfl
  · exact ux_T_at hT tw_542 rfl
  · exact ux_T_at hT tw_543 rfl
  · exact ux_T_at hT tw_544 rfl
  · exact ux_T_at hT tw_499 rfl
  · exact ux_T_at hT tw_544 rfl
  · exact ux_T_at hT tw_545 rfl
  · exact ux_T_at hT tw_546 rfl
  · exact ux_T_at hT tw_517 rfl
  · exact ux_T_at hT tw_501 rfl
  · exact ux_T_at hT tw_1374 rfl
  · exact ux_T_at hT tw_1366 rfl
  · exact ux_T_at hT tw_1367 rfl
  · exact ux_T_at hT tw_1368 rfl
  · exact ux_T_at hT tw_529 rfl
  · exact ux_T_at hT tw_1369 rfl
  · exact ux_T_at hT tw_1370 rfl
  · exact ux_T_at hT tw_1371 rfl
  · exact ux_T_at hT tw_1372 rfl
  · exact hH _ (by simp [ux_W4]) _
  · exact hH _ (by simp [ux_W4]) _
  · exact ux_T_at hT tw_515 rfl
  · exact ux_T_at hT tw_514 rfl
  · exact ux_T_at hT tw_1373 rfl
set_option maxRecDepth 20000 in
theorem at_89_U {args : Array Value} {s : State} (hT : ux_T s) (hH : ux_H s) : ∀ a ∈ Bundle.ownAtoms0 "UnikernelHttp" 89 "java/lang/IllegalArgumentException" ["java/lang/RuntimeException", "java/lang/Exception"], a.before args s = true := by
  intro a ha
  have ha : a ∈ ([(Jvm.Cond.initialized "java/lang/Throwable"), (Jvm.Cond.superclass "java/lang/Throwable" "java/lang/Object"), (Jvm.Cond.instanceMethod ({ cls := "java/lang/Throwable", name := "fillInStackTrace", desc := "()Ljava/lang/Throwable;" } : Jvm.MethodName)), (Jvm.Cond.codeSync ({ cls := "java/lang/Throwable", name := "fillInStackTrace", desc := "()Ljava/lang/Throwable;" } : Jvm.MethodName) prog_31_method_18_code (1 : Nat) (Option.some (Jvm.ClassFile.FieldType.object "java/lang/Throwable"))), (Jvm.Cond.instanceMethod ({ cls := "java/lang/Throwable", name := "fillInStackTrace", desc := "(I)Ljava/lang/Throwable;" } : Jvm.MethodName)), (Jvm.Cond.native ({ cls := "java/lang/Throwable", name := "fillInStackTrace", desc := "(I)Ljava/lang/Throwable;" } : Jvm.MethodName)), (Jvm.Cond.instanceMethod ({ cls := "java/lang/Throwable", name := "<init>", desc := "()V" } : Jvm.MethodName)), (Jvm.Cond.code ({ cls := "java/lang/Throwable", name := "<init>", desc := "()V" } : Jvm.MethodName) prog_31_method_1_code (1 : Nat) (Option.none : Option Jvm.ClassFile.FieldType)), (Jvm.Cond.instanceMethod ({ cls := "java/lang/Object", name := "<init>", desc := "()V" } : Jvm.MethodName)), (Jvm.Cond.code ({ cls := "java/lang/Object", name := "<init>", desc := "()V" } : Jvm.MethodName) object_method_1_code (1 : Nat) (Option.none : Option Jvm.ClassFile.FieldType)), (Jvm.Cond.methodLink "java/lang/Throwable" (1 : Nat) ({ cls := "java/lang/Object", name := "<init>", desc := "()V" } : Jvm.MethodName)), (Jvm.Cond.methodLink "java/lang/Throwable" (27 : Nat) ({ cls := "java/lang/Throwable", name := "fillInStackTrace", desc := "()Ljava/lang/Throwable;" } : Jvm.MethodName)), (Jvm.Cond.methodLink "java/lang/Throwable" (202 : Nat) ({ cls := "java/lang/Throwable", name := "fillInStackTrace", desc := "(I)Ljava/lang/Throwable;" } : Jvm.MethodName)), (Jvm.Cond.fieldLink "java/lang/Throwable" (7 : Nat) "java/lang/Throwable" "cause" "Ljava/lang/Throwable;"), (Jvm.Cond.lays "java/lang/Throwable" "java/lang/Throwable" "cause" "Ljava/lang/Throwable;"), (Jvm.Cond.fieldLink "java/lang/Throwable" (17 : Nat) "java/lang/Throwable" "stackTrace" "[Ljava/lang/StackTraceElement;"), (Jvm.Cond.lays "java/lang/Throwable" "java/lang/Throwable" "stackTrace" "[Ljava/lang/StackTraceElement;"), (Jvm.Cond.fieldLink "java/lang/Throwable" (24 : Nat) "java/lang/Throwable" "suppressedExceptions" "Ljava/util/List;"), (Jvm.Cond.lays "java/lang/Throwable" "java/lang/Throwable" "suppressedExceptions" "Ljava/util/List;"), (Jvm.Cond.fieldLink "java/lang/Throwable" (13 : Nat) "java/lang/Throwable" "UNASSIGNED_STACK" "[Ljava/lang/StackTraceElement;"), .laysStatic "java/lang/Throwable" "UNASSIGNED_STACK" "[Ljava/lang/StackTraceElement;", (Jvm.Cond.fieldLink "java/lang/Throwable" (20 : Nat) "java/lang/Throwable" "SUPPRESSED_SENTINEL" "Ljava/util/List;"), .laysStatic "java/lang/Throwable" "SUPPRESSED_SENTINEL" "Ljava/util/List;", (Jvm.Cond.lays "java/lang/Throwable" "java/lang/Throwable" "detailMessage" "Ljava/lang/String;"), (Jvm.Cond.instanceMethod ({ cls := "java/lang/IllegalArgumentException", name := "<init>", desc := "()V" } : Jvm.MethodName)), (Jvm.Cond.code ({ cls := "java/lang/IllegalArgumentException", name := "<init>", desc := "()V" } : Jvm.MethodName) prog_20_method_1_code (1 : Nat) (Option.none : Option Jvm.ClassFile.FieldType)), (Jvm.Cond.methodLink "java/lang/IllegalArgumentException" (1 : Nat) ({ cls := "java/lang/RuntimeException", name := "<init>", desc := "()V" } : Jvm.MethodName)), (Jvm.Cond.instanceMethod ({ cls := "java/lang/RuntimeException", name := "<init>", desc := "()V" } : Jvm.MethodName)), (Jvm.Cond.declares ({ cls := "java/lang/RuntimeException", name := "<init>", desc := "()V" } : Jvm.MethodName)), (Jvm.Cond.instanceMethod ({ cls := "java/lang/RuntimeException", name := "<init>", desc := "()V" } : Jvm.MethodName)), (Jvm.Cond.code ({ cls := "java/lang/RuntimeException", name := "<init>", desc := "()V" } : Jvm.MethodName) prog_25_method_1_code (1 : Nat) (Option.none : Option Jvm.ClassFile.FieldType)), (Jvm.Cond.methodLink "java/lang/RuntimeException" (1 : Nat) ({ cls := "java/lang/Exception", name := "<init>", desc := "()V" } : Jvm.MethodName)), (Jvm.Cond.instanceMethod ({ cls := "java/lang/Exception", name := "<init>", desc := "()V" } : Jvm.MethodName)), (Jvm.Cond.declares ({ cls := "java/lang/Exception", name := "<init>", desc := "()V" } : Jvm.MethodName)), (Jvm.Cond.instanceMethod ({ cls := "java/lang/Exception", name := "<init>", desc := "()V" } : Jvm.MethodName)), (Jvm.Cond.code ({ cls := "java/lang/Exception", name := "<init>", desc := "()V" } : Jvm.MethodName) prog_19_method_1_code (1 : Nat) (Option.none : Option Jvm.ClassFile.FieldType)), (Jvm.Cond.methodLink "java/lang/Exception" (1 : Nat) ({ cls := "java/lang/Throwable", name := "<init>", desc := "()V" } : Jvm.MethodName)), (Jvm.Cond.instanceMethod ({ cls := "java/lang/Throwable", name := "<init>", desc := "()V" } : Jvm.MethodName)), (Jvm.Cond.declares ({ cls := "java/lang/Throwable", name := "<init>", desc := "()V" } : Jvm.MethodName)), (Jvm.Cond.methodLink "UnikernelHttp" (89 : Nat) ({ cls := "java/lang/IllegalArgumentException", name := "<init>", desc := "()V" } : Jvm.MethodName)), (Jvm.Cond.instantiable "java/lang/IllegalArgumentException" (6 : Nat)), (Jvm.Cond.castable "java/lang/IllegalArgumentException" "java/lang/IllegalArgumentException"), (Jvm.Cond.selects "java/lang/IllegalArgumentException" ({ cls := "java/lang/Throwable", name := "fillInStackTrace", desc := "(I)Ljava/lang/Throwable;" } : Jvm.MethodName) ({ cls := "java/lang/Throwable", name := "fillInStackTrace", desc := "(I)Ljava/lang/Throwable;" } : Jvm.MethodName)), (Jvm.Cond.selects "java/lang/IllegalArgumentException" ({ cls := "java/lang/Throwable", name := "fillInStackTrace", desc := "()Ljava/lang/Throwable;" } : Jvm.MethodName) ({ cls := "java/lang/Throwable", name := "fillInStackTrace", desc := "()Ljava/lang/Throwable;" } : Jvm.MethodName)), (Jvm.Cond.lays "java/lang/IllegalArgumentException" "java/lang/Throwable" "cause" "Ljava/lang/Throwable;"), (Jvm.Cond.lays "java/lang/IllegalArgumentException" "java/lang/Throwable" "stackTrace" "[Ljava/lang/StackTraceElement;"), (Jvm.Cond.lays "java/lang/IllegalArgumentException" "java/lang/Throwable" "suppressedExceptions" "Ljava/util/List;"), (Jvm.Cond.lays "java/lang/IllegalArgumentException" "java/lang/Throwable" "detailMessage" "Ljava/lang/String;"), .isRef (.static "java/lang/Throwable" "UNASSIGNED_STACK" "[Ljava/lang/StackTraceElement;"), .isRef (.static "java/lang/Throwable" "SUPPRESSED_SENTINEL" "Ljava/util/List;"), (Jvm.Cond.fieldLink "java/lang/Throwable" (198 : Nat) "java/lang/Throwable" "backtrace" "Ljava/lang/Object;"), (Jvm.Cond.lays "java/lang/Throwable" "java/lang/Throwable" "backtrace" "Ljava/lang/Object;"), (Jvm.Cond.lays "java/lang/IllegalArgumentException" "java/lang/Throwable" "backtrace" "Ljava/lang/Object;")] : List Cond) := ha
  simp only [List.mem_cons, List.not_mem_nil, or_false] at ha
  rcases ha with rfl | rfl | rfl | rfl | rfl | rfl | rfl | rfl | rfl | rfl | rfl | rfl | rfl | rfl | rfl | rfl | rfl | rfl | rfl | rfl | rfl | rfl | rfl | rfl | rfl | rfl | rfl | rfl | rfl | rfl | rfl | rfl | rfl | rfl | rfl | rfl | rfl | rfl | rfl | rfl | rfl | rfl | rfl | rfl | rfl | rfl | rfl | rfl | rfl | rfl | rfl | rfl | rfl
  · exact ux_T_at hT tw_15 rfl
  · exact ux_T_at hT tw_516 rfl
  · exact ux_T_at hT tw_525 rfl
  · exact ux_T_at hT tw_531 rfl
  · exact ux_T_at hT tw_534 rfl
  · exact ux_T_at hT tw_536 rfl
  · exact ux_T_at hT tw_517 rfl
  · exact ux_T_at hT tw_518 rfl
  · exact ux_T_at hT tw_40 rfl
  · exact ux_T_at hT tw_41 rfl
  · exact ux_T_at hT tw_519 rfl
  · exact ux_T_at hT tw_524 rfl
  · exact ux_T_at hT tw_532 rfl
  · exact ux_T_at hT tw_549 rfl
  · exact ux_T_at hT tw_506 rfl
  · exact ux_T_at hT tw_550 rfl
  · exact ux_T_at hT tw_508 rfl
  · exact ux_T_at hT tw_551 rfl
  · exact ux_T_at hT tw_510 rfl
  · exact ux_T_at hT tw_520 rfl
  · exact hH _ (by simp [ux_W4]) _
  · exact ux_T_at hT tw_522 rfl
  · exact hH _ (by simp [ux_W4]) _
  · exact ux_T_at hT tw_512 rfl
  · exact ux_T_at hT tw_581 rfl
  · exact ux_T_at hT tw_582 rfl
  · exact ux_T_at hT tw_583 rfl
  · exact ux_T_at hT tw_541 rfl
  · exact ux_T_at hT tw_497 rfl
  · exact ux_T_at hT tw_541 rfl
  · exact ux_T_at hT tw_542 rfl
  · exact ux_T_at hT tw_543 rfl
  · exact ux_T_at hT tw_544 rfl
  · exact ux_T_at hT tw_499 rfl
  · exact ux_T_at hT tw_544 rfl
  · exact ux_T_at hT tw_545 rfl
  · exact ux_T_at hT tw_546 rfl
  · exact ux_T_at hT tw_517 rfl
  · exact ux_T_at hT tw_501 rfl
  · exact ux_T_at hT tw_580 rfl
  · exact ux_T_at hT tw_572 rfl
  · exact ux_T_at hT tw_573 rfl
  · exact ux_T_at hT tw_574 rfl
  · exact ux_T_at hT tw_528 rfl
  · exact ux_T_at hT tw_575 rfl
  · exact ux_T_at hT tw_576 rfl
  · exact ux_T_at hT tw_577 rfl
  · exact ux_T_at hT tw_578 rfl
  · exact hH _ (by simp [ux_W4]) _
  · exact hH _ (by simp [ux_W4]) _
  · exact ux_T_at hT tw_515 rfl
  · exact ux_T_at hT tw_514 rfl
  · exact ux_T_at hT tw_579 rfl
set_option maxRecDepth 20000 in
theorem at_198_U {args : Array Value} {s : State} (hT : ux_T s) (hH : ux_H s) : ∀ a ∈ Bundle.ownAtoms0 "UnikernelHttp" 198 "java/util/NoSuchElementException" ["java/lang/RuntimeException", "java/lang/Exception"], a.before args s = true := by
  intro a ha
  have ha : a ∈ ([(Jvm.Cond.initialized "java/lang/Throwable"), (Jvm.Cond.superclass "java/lang/Throwable" "java/lang/Object"), (Jvm.Cond.instanceMethod ({ cls := "java/lang/Throwable", name := "fillInStackTrace", desc := "()Ljava/lang/Throwable;" } : Jvm.MethodName)), (Jvm.Cond.codeSync ({ cls := "java/lang/Throwable", name := "fillInStackTrace", desc := "()Ljava/lang/Throwable;" } : Jvm.MethodName) prog_31_method_18_code (1 : Nat) (Option.some (Jvm.ClassFile.FieldType.object "java/lang/Throwable"))), (Jvm.Cond.instanceMethod ({ cls := "java/lang/Throwable", name := "fillInStackTrace", desc := "(I)Ljava/lang/Throwable;" } : Jvm.MethodName)), (Jvm.Cond.native ({ cls := "java/lang/Throwable", name := "fillInStackTrace", desc := "(I)Ljava/lang/Throwable;" } : Jvm.MethodName)), (Jvm.Cond.instanceMethod ({ cls := "java/lang/Throwable", name := "<init>", desc := "()V" } : Jvm.MethodName)), (Jvm.Cond.code ({ cls := "java/lang/Throwable", name := "<init>", desc := "()V" } : Jvm.MethodName) prog_31_method_1_code (1 : Nat) (Option.none : Option Jvm.ClassFile.FieldType)), (Jvm.Cond.instanceMethod ({ cls := "java/lang/Object", name := "<init>", desc := "()V" } : Jvm.MethodName)), (Jvm.Cond.code ({ cls := "java/lang/Object", name := "<init>", desc := "()V" } : Jvm.MethodName) object_method_1_code (1 : Nat) (Option.none : Option Jvm.ClassFile.FieldType)), (Jvm.Cond.methodLink "java/lang/Throwable" (1 : Nat) ({ cls := "java/lang/Object", name := "<init>", desc := "()V" } : Jvm.MethodName)), (Jvm.Cond.methodLink "java/lang/Throwable" (27 : Nat) ({ cls := "java/lang/Throwable", name := "fillInStackTrace", desc := "()Ljava/lang/Throwable;" } : Jvm.MethodName)), (Jvm.Cond.methodLink "java/lang/Throwable" (202 : Nat) ({ cls := "java/lang/Throwable", name := "fillInStackTrace", desc := "(I)Ljava/lang/Throwable;" } : Jvm.MethodName)), (Jvm.Cond.fieldLink "java/lang/Throwable" (7 : Nat) "java/lang/Throwable" "cause" "Ljava/lang/Throwable;"), (Jvm.Cond.lays "java/lang/Throwable" "java/lang/Throwable" "cause" "Ljava/lang/Throwable;"), (Jvm.Cond.fieldLink "java/lang/Throwable" (17 : Nat) "java/lang/Throwable" "stackTrace" "[Ljava/lang/StackTraceElement;"), (Jvm.Cond.lays "java/lang/Throwable" "java/lang/Throwable" "stackTrace" "[Ljava/lang/StackTraceElement;"), (Jvm.Cond.fieldLink "java/lang/Throwable" (24 : Nat) "java/lang/Throwable" "suppressedExceptions" "Ljava/util/List;"), (Jvm.Cond.lays "java/lang/Throwable" "java/lang/Throwable" "suppressedExceptions" "Ljava/util/List;"), (Jvm.Cond.fieldLink "java/lang/Throwable" (13 : Nat) "java/lang/Throwable" "UNASSIGNED_STACK" "[Ljava/lang/StackTraceElement;"), .laysStatic "java/lang/Throwable" "UNASSIGNED_STACK" "[Ljava/lang/StackTraceElement;", (Jvm.Cond.fieldLink "java/lang/Throwable" (20 : Nat) "java/lang/Throwable" "SUPPRESSED_SENTINEL" "Ljava/util/List;"), .laysStatic "java/lang/Throwable" "SUPPRESSED_SENTINEL" "Ljava/util/List;", (Jvm.Cond.lays "java/lang/Throwable" "java/lang/Throwable" "detailMessage" "Ljava/lang/String;"), (Jvm.Cond.instanceMethod ({ cls := "java/util/NoSuchElementException", name := "<init>", desc := "()V" } : Jvm.MethodName)), (Jvm.Cond.code ({ cls := "java/util/NoSuchElementException", name := "<init>", desc := "()V" } : Jvm.MethodName) prog_33_method_1_code (1 : Nat) (Option.none : Option Jvm.ClassFile.FieldType)), (Jvm.Cond.methodLink "java/util/NoSuchElementException" (1 : Nat) ({ cls := "java/lang/RuntimeException", name := "<init>", desc := "()V" } : Jvm.MethodName)), (Jvm.Cond.instanceMethod ({ cls := "java/lang/RuntimeException", name := "<init>", desc := "()V" } : Jvm.MethodName)), (Jvm.Cond.declares ({ cls := "java/lang/RuntimeException", name := "<init>", desc := "()V" } : Jvm.MethodName)), (Jvm.Cond.instanceMethod ({ cls := "java/lang/RuntimeException", name := "<init>", desc := "()V" } : Jvm.MethodName)), (Jvm.Cond.code ({ cls := "java/lang/RuntimeException", name := "<init>", desc := "()V" } : Jvm.MethodName) prog_25_method_1_code (1 : Nat) (Option.none : Option Jvm.ClassFile.FieldType)), (Jvm.Cond.methodLink "java/lang/RuntimeException" (1 : Nat) ({ cls := "java/lang/Exception", name := "<init>", desc := "()V" } : Jvm.MethodName)), (Jvm.Cond.instanceMethod ({ cls := "java/lang/Exception", name := "<init>", desc := "()V" } : Jvm.MethodName)), (Jvm.Cond.declares ({ cls := "java/lang/Exception", name := "<init>", desc := "()V" } : Jvm.MethodName)), (Jvm.Cond.instanceMethod ({ cls := "java/lang/Exception", name := "<init>", desc := "()V" } : Jvm.MethodName)), (Jvm.Cond.code ({ cls := "java/lang/Exception", name := "<init>", desc := "()V" } : Jvm.MethodName) prog_19_method_1_code (1 : Nat) (Option.none : Option Jvm.ClassFile.FieldType)), (Jvm.Cond.methodLink "java/lang/Exception" (1 : Nat) ({ cls := "java/lang/Throwable", name := "<init>", desc := "()V" } : Jvm.MethodName)), (Jvm.Cond.instanceMethod ({ cls := "java/lang/Throwable", name := "<init>", desc := "()V" } : Jvm.MethodName)), (Jvm.Cond.declares ({ cls := "java/lang/Throwable", name := "<init>", desc := "()V" } : Jvm.MethodName)), (Jvm.Cond.methodLink "UnikernelHttp" (198 : Nat) ({ cls := "java/util/NoSuchElementException", name := "<init>", desc := "()V" } : Jvm.MethodName)), (Jvm.Cond.instantiable "java/util/NoSuchElementException" (6 : Nat)), (Jvm.Cond.castable "java/util/NoSuchElementException" "java/util/NoSuchElementException"), (Jvm.Cond.selects "java/util/NoSuchElementException" ({ cls := "java/lang/Throwable", name := "fillInStackTrace", desc := "(I)Ljava/lang/Throwable;" } : Jvm.MethodName) ({ cls := "java/lang/Throwable", name := "fillInStackTrace", desc := "(I)Ljava/lang/Throwable;" } : Jvm.MethodName)), (Jvm.Cond.selects "java/util/NoSuchElementException" ({ cls := "java/lang/Throwable", name := "fillInStackTrace", desc := "()Ljava/lang/Throwable;" } : Jvm.MethodName) ({ cls := "java/lang/Throwable", name := "fillInStackTrace", desc := "()Ljava/lang/Throwable;" } : Jvm.MethodName)), (Jvm.Cond.lays "java/util/NoSuchElementException" "java/lang/Throwable" "cause" "Ljava/lang/Throwable;"), (Jvm.Cond.lays "java/util/NoSuchElementException" "java/lang/Throwable" "stackTrace" "[Ljava/lang/StackTraceElement;"), (Jvm.Cond.lays "java/util/NoSuchElementException" "java/lang/Throwable" "suppressedExceptions" "Ljava/util/List;"), (Jvm.Cond.lays "java/util/NoSuchElementException" "java/lang/Throwable" "detailMessage" "Ljava/lang/String;"), .isRef (.static "java/lang/Throwable" "UNASSIGNED_STACK" "[Ljava/lang/StackTraceElement;"), .isRef (.static "java/lang/Throwable" "SUPPRESSED_SENTINEL" "Ljava/util/List;"), (Jvm.Cond.fieldLink "java/lang/Throwable" (198 : Nat) "java/lang/Throwable" "backtrace" "Ljava/lang/Object;"), (Jvm.Cond.lays "java/lang/Throwable" "java/lang/Throwable" "backtrace" "Ljava/lang/Object;"), (Jvm.Cond.lays "java/util/NoSuchElementException" "java/lang/Throwable" "backtrace" "Ljava/lang/Object;")] : List Cond) := ha
  simp only [List.mem_cons, List.not_mem_nil, or_false] at ha
  rcases ha with rfl | rfl | rfl | rfl | rfl | rfl | rfl | rfl | rfl | rfl | rfl | rfl | rfl | rfl | rfl | rfl | rfl | rfl | rfl | rfl | rfl | rfl | rfl | rfl | rfl | rfl | rfl | rfl | rfl | rfl | rfl | rfl | rfl | rfl | rfl | rfl | rfl | rfl | rfl | rfl | rfl | rfl | rfl | rfl | rfl | rfl | rfl | rfl | rfl | rfl | rfl | rfl | rfl
  · exact ux_T_at hT tw_15 rfl
  · exact ux_T_at hT tw_516 rfl
  · exact ux_T_at hT tw_525 rfl
  · exact ux_T_at hT tw_531 rfl
  · exact ux_T_at hT tw_534 rfl
  · exact ux_T_at hT tw_536 rfl
  · exact ux_T_at hT tw_517 rfl
  · exact ux_T_at hT tw_518 rfl
  · exact ux_T_at hT tw_40 rfl
  · exact ux_T_at hT tw_41 rfl
  · exact ux_T_at hT tw_519 rfl
  · exact ux_T_at hT tw_524 rfl
  · exact ux_T_at hT tw_532 rfl
  · exact ux_T_at hT tw_549 rfl
  · exact ux_T_at hT tw_506 rfl
  · exact ux_T_at hT tw_550 rfl
  · exact ux_T_at hT tw_508 rfl
  · exact ux_T_at hT tw_551 rfl
  · exact ux_T_at hT tw_510 rfl
  · exact ux_T_at hT tw_520 rfl
  · exact hH _ (by simp [ux_W4]) _
  · exact ux_T_at hT tw_522 rfl
  · exact hH _ (by simp [ux_W4]) _
  · exact ux_T_at hT tw_512 rfl
  · exact ux_T_at hT tw_1473 rfl
  · exact ux_T_at hT tw_1474 rfl
  · exact ux_T_at hT tw_1475 rfl
  · exact ux_T_at hT tw_541 rfl
  · exact ux_T_at hT tw_497 rfl
  · exact ux_T_at hT tw_541 rfl
  · exact ux_T_at hT tw_542 rfl
  · exact ux_T_at hT tw_543 rfl
  · exact ux_T_at hT tw_544 rfl
  · exact ux_T_at hT tw_499 rfl
  · exact ux_T_at hT tw_544 rfl
  · exact ux_T_at hT tw_545 rfl
  · exact ux_T_at hT tw_546 rfl
  · exact ux_T_at hT tw_517 rfl
  · exact ux_T_at hT tw_501 rfl
  · exact ux_T_at hT tw_1472 rfl
  · exact ux_T_at hT tw_1464 rfl
  · exact ux_T_at hT tw_1465 rfl
  · exact ux_T_at hT tw_1466 rfl
  · exact ux_T_at hT tw_530 rfl
  · exact ux_T_at hT tw_1467 rfl
  · exact ux_T_at hT tw_1468 rfl
  · exact ux_T_at hT tw_1469 rfl
  · exact ux_T_at hT tw_1470 rfl
  · exact hH _ (by simp [ux_W4]) _
  · exact hH _ (by simp [ux_W4]) _
  · exact ux_T_at hT tw_515 rfl
  · exact ux_T_at hT tw_514 rfl
  · exact ux_T_at hT tw_1471 rfl
theorem ux_l1 : (1 : Int32).toInt = 1 := by decide
theorem ux_l64 : (64 : Int32).toInt = 64 := by decide
theorem ux_l100000 : (100000 : Int32).toInt = 100000 := by decide
set_option maxHeartbeats 4000000 in
set_option maxRecDepth 100000 in
theorem c_U_feed (l : Launch) (dC : Nat → ClassId) (dI : Nat → Nat → Nat) (h0 : Nat) (row : Nat) (nb : Nat) (wi : Nat) (ga : Nat) (sg : Nat) (tc : Nat) (st : Nat) (hp : Nat) (ec : Nat) (cB : ClassId) (p0 : Int32) (p1 : Int32) (p2 : Int32) (p3 : Int32) (p4 : Int32) (sz : Nat) : Met l y_U_feed [Cond.code y_U_feed b_U_feed 6 (some .int)] ({ frames := 100, cells := 0, slots := 0, locals := 1500 }) (ux_Pc [.ref h0, .int p0, .int p1, .int p2, .int p3, .int p4] (dC, dI) cls [(h0, .inr (0, [.ref row, .int 0, .int 0, .ref nb, .ref wi, .ref ga, .ref sg, .ref tc, .ref st, .ref hp, .ref ec, .ref row, .int 0, .int 0])), (row, .inl (cB, 2000, .inl (fun _ => 0)))] [(cB, .byte)] sz) (va_Qi (fun (r : Int32) (_ : Unit) => r = 20) (fun (_ : Unit) (t : State) => ux_B (dC, dI) cls (va_A [(h0, .inr (0, [.ref row, .int 0, .int 0, .ref nb, .ref wi, .ref ga, .ref sg, .ref tc, .ref st, .ref hp, .ref ec, .ref row, .int 0, .int 0])), (row, .inl (cB, 2000, .inl (fun _ => 0)))] sz) [] [] t) (va_A [(h0, .inr (0, [.ref row, .int 0, .int 0, .ref nb, .ref wi, .ref ga, .ref sg, .ref tc, .ref st, .ref hp, .ref ec, .ref row, .int 0, .int 0])), (row, .inl (cB, 2000, .inl (fun _ => 0)))] sz)) 0 0 (va_A [(h0, .inr (0, [.ref row, .int 0, .int 0, .ref nb, .ref wi, .ref ga, .ref sg, .ref tc, .ref st, .ref hp, .ref ec, .ref row, .int 0, .int 0])), (row, .inl (cB, 2000, .inl (fun _ => 0)))] sz) := by
  refine Met.ofW (cc := b_U_feed) (maxL := 6) (ret := some .int) (by decide) rfl ?_
  intro p e s m args below meth c s₁ B hml hv
  obtain ⟨rfl, hsz, hP, hK, hD0, hT⟩ := hv
  have hx := B.exec
  have hb := B.bytes
  have hr := B.returns
  have hown : s.vm.findClass "UnikernelHttp" = some m.cls := findClass_of_methodNamed B.named
  have hlocks := B.notSynchronized
  subst hsz
  have hD := hD0.self (sz := s.heap.size)
  have hns := ux_ns hP
  generalize hAe : va_A [(h0, .inr (0, [.ref row, .int 0, .int 0, .ref nb, .ref wi, .ref ga, .ref sg, .ref tc, .ref st, .ref hp, .ref ec, .ref row, .int 0, .int 0])), (row, .inl (cB, 2000, .inl (fun _ => 0)))] s.heap.size = A at hD hns ⊢
  have hA : ∀ q : Nat, s.heap.size ≤ q → A q := fun q h => by rw [← hAe]; exact Or.inr h
  have hS : va_S A s.heap s.heap [] := va_S.rf
  have hl := lv_entry ([.ref h0, .int p0, .int p1, .int p2, .int p3, .int p4]) (n := 6) (Nat.le_of_ble_eq_true rfl)
  rw [lg_entry_eq]
  generalize (lg_sl ([.ref h0, .int p0, .int p1, .int p2, .int p3, .int p4]) ++ List.replicate (6 - (lg_sl ([.ref h0, .int p0, .int p1, .int p2, .int p3, .int p4])).length) Slot.unset).toArray = ls at hl ⊢
  have hl : lv_has ls 6 [(0, .ref h0), (1, .int p0), (2, .int p1), (3, .int p2), (4, .int p3), (5, .int p4)] := hl
  have hfx : CallFix p m c b_U_feed 6 s ([.ref h0, .int p0, .int p1, .int p2, .int p3, .int p4] : List Value).toArray [] "UnikernelHttp" := ⟨hx, hb, hml, hown, fun _ h => by cases h⟩
  refine lv_aload_n hx hb d_U_feed_0 rfl (lv_at hl 0 rfl) ?_
  refine va_get (D := (dC, dI)) (ci := 0) (v := .int 0) (C := R_U) (T := F_U) (N := 14) hx hb (u_U hT) (fun _ h => h) hown hK hP 0 rfl rfl 1 (by decide) (ux_T_at hT tw_444 rfl) (fun _ h9 => h9) rfl d_U_feed_1 ?_
  refine lv_bipush (v := 20) hx hb d_U_feed_4 (by decide) ?_
  refine lv_iadd hx hb d_U_feed_6 ?_
  refine lv_topi (fun x1 ex1 => ?_)
  obtain rfl : x1 = 20 := ex1.trans (by decide)
  refine lv_sipush (v := 2000) hx hb d_U_feed_7 (by decide) ?_
  refine lv_icmp_le (tgt := 21) hx hb d_U_feed_10 (by decide) (fun _ => ?_) (fun hc => absurd (by decide) hc)
  refine lv_aload_n hx hb d_U_feed_21 rfl (lv_at hl 0 rfl) ?_
  refine va_get (D := (dC, dI)) (ci := 0) (v := .ref row) (C := R_U) (T := F_U) (N := 14) hx hb (u_U hT) (fun _ h => h) hown hK hP 0 rfl rfl 0 (by decide) (ux_T_at hT tw_443 rfl) (fun _ h9 => h9) rfl d_U_feed_22 ?_
  refine lv_aload_n hx hb d_U_feed_25 rfl (lv_at hl 0 rfl) ?_
  refine va_get (D := (dC, dI)) (ci := 0) (v := .int 0) (C := R_U) (T := F_U) (N := 14) hx hb (u_U hT) (fun _ h => h) hown hK hP 0 rfl rfl 1 (by decide) (ux_T_at hT tw_444 rfl) (fun _ h9 => h9) rfl d_U_feed_26 ?_
  refine lv_iload_n hx hb d_U_feed_29 rfl (lv_at hl 1 rfl) ?_
  have hPc := hP.sub (ws' := [(row, .inl (cB, 2000, .inl (fun _ => 0)))]) [1] rfl
  have hDc := hD.sub (ws' := [(row, .inl (cB, 2000, .inl (fun _ => 0)))]) [1] (by decide) rfl
  have hKc := hK.sub (tys' := [(cB, .byte)]) [0] rfl
  have hFc := va_free (wc := [(row, .inl (cB, 2000, .inl (fun _ => 0)))]) hD hS hA [1] rfl
  have hkc : 0 + 0 ≤ 0 := (Nat.le_of_ble_eq_true rfl)
  refine va_callv (va_runS (As := [.ref row, .int 0, .int p0]) (rest := []) hfx (c_U_putFour_0 l dC dI row cB p0 (fun _ => 0) s.heap.size) ⟨(ux_cb 3 hT tw_562 tw_560 tw_1 rfl rfl (by decide +kernel) ⟨(Nat.le_of_ble_eq_true rfl), (Nat.le_of_ble_eq_true rfl)⟩), (ux_T_at hT tw_561 rfl)⟩ (ux_pre [.ref row, .int 0, .int p0] hT hPc hKc hDc) rfl rfl hl.1 rfl (lv_room (Nat.le_of_ble_eq_true rfl)) d_U_feed_30 ⟨(Nat.le_of_ble_eq_true rfl), (Nat.le_of_ble_eq_true rfl)⟩) hS (fun q _ h => hFc q h) hFc (fun u t H1 locs ht hvm hw hB hz1 hk1 hS => ?_)
  obtain ⟨f3, hP1, hK1, hD1⟩ := hB
  rw [ht] at hP1
  have hK1 := va_K.moved hvm.symm hK1
  obtain ⟨hP, hD⟩ := va_join (wr := [(h0, .inr (0, [.ref row, .int 0, .int 0, .ref nb, .ref wi, .ref ga, .ref sg, .ref tc, .ref st, .ref hp, .ref ec, .ref row, .int 0, .int 0]))]) (w1 := [(row, .inl (cB, 2000, .inl f3))]) hP hD [1] [0] rfl rfl (by decide) (by decide) hk1 hFc hP1 hD1
  have hK := (hK.sub (tys' := [(cB, .byte)]) [0] rfl).app hK1
  generalize H1 = H at hP hS ⊢
  have hP : va_P (dC, dI) cls [(h0, .inr (0, [.ref row, .int 0, .int 0, .ref nb, .ref wi, .ref ga, .ref sg, .ref tc, .ref st, .ref hp, .ref ec, .ref row, .int 0, .int 0])), (row, .inl (cB, 2000, .inl f3))] H := hP
  have hD : va_D A [(h0, .inr (0, [.ref row, .int 0, .int 0, .ref nb, .ref wi, .ref ga, .ref sg, .ref tc, .ref st, .ref hp, .ref ec, .ref row, .int 0, .int 0])), (row, .inl (cB, 2000, .inl f3))] := hD
  have hK : va_K (dC, dI) cls [(cB, .byte), (cB, .byte)] s := hK
  refine lv_aload_n hx hb d_U_feed_33 rfl (lv_at hl 0 rfl) ?_
  refine va_get (D := (dC, dI)) (ci := 0) (v := .ref row) (C := R_U) (T := F_U) (N := 14) hx hb (u_U hT) (fun _ h => h) hown hK hP 0 rfl rfl 0 (by decide) (ux_T_at hT tw_443 rfl) (fun _ h9 => h9) rfl d_U_feed_34 ?_
  refine lv_aload_n hx hb d_U_feed_37 rfl (lv_at hl 0 rfl) ?_
  refine va_get (D := (dC, dI)) (ci := 0) (v := .int 0) (C := R_U) (T := F_U) (N := 14) hx hb (u_U hT) (fun _ h => h) hown hK hP 0 rfl rfl 1 (by decide) (ux_T_at hT tw_444 rfl) (fun _ h9 => h9) rfl d_U_feed_38 ?_
  refine lv_iconst (v := 4) hx hb d_U_feed_41 (by decide) ?_
  refine lv_iadd hx hb d_U_feed_42 ?_
  refine lv_topi (fun x4 ex4 => ?_)
  obtain rfl : x4 = 4 := ex4.trans (by decide)
  refine lv_iload_n hx hb d_U_feed_43 rfl (lv_at hl 2 rfl) ?_
  have hPc := hP.sub (ws' := [(row, .inl (cB, 2000, .inl f3))]) [1] rfl
  have hDc := hD.sub (ws' := [(row, .inl (cB, 2000, .inl f3))]) [1] (by decide) rfl
  have hKc := hK.sub (tys' := [(cB, .byte)]) [0] rfl
  have hFc := va_free (wc := [(row, .inl (cB, 2000, .inl f3))]) hD hS hA [1] rfl
  have hkc : 0 + 0 ≤ 0 := (Nat.le_of_ble_eq_true rfl)
  refine va_callv (va_runS (As := [.ref row, .int 4, .int p1]) (rest := []) hfx (c_U_putFour_4 l dC dI row cB p1 f3 H.size) ⟨(ux_cb 3 hT tw_562 tw_560 tw_1 rfl rfl (by decide +kernel) ⟨(Nat.le_of_ble_eq_true rfl), (Nat.le_of_ble_eq_true rfl)⟩), (ux_T_at hT tw_561 rfl)⟩ (ux_pre [.ref row, .int 4, .int p1] hT hPc hKc hDc) rfl rfl hl.1 rfl (lv_room (Nat.le_of_ble_eq_true rfl)) d_U_feed_44 ⟨(Nat.le_of_ble_eq_true rfl), (Nat.le_of_ble_eq_true rfl)⟩) hS (fun q _ h => hFc q h) hFc (fun u t H1 locs ht hvm hw hB hz1 hk1 hS => ?_)
  obtain ⟨f6, hP1, hK1, hD1⟩ := hB
  rw [ht] at hP1
  have hK1 := va_K.moved hvm.symm hK1
  obtain ⟨hP, hD⟩ := va_join (wr := [(h0, .inr (0, [.ref row, .int 0, .int 0, .ref nb, .ref wi, .ref ga, .ref sg, .ref tc, .ref st, .ref hp, .ref ec, .ref row, .int 0, .int 0]))]) (w1 := [(row, .inl (cB, 2000, .inl f6))]) hP hD [1] [0] rfl rfl (by decide) (by decide) hk1 hFc hP1 hD1
  have hK := (hK.sub (tys' := [(cB, .byte), (cB, .byte)]) [0, 1] rfl).app hK1
  generalize H1 = H at hP hS ⊢
  have hP : va_P (dC, dI) cls [(h0, .inr (0, [.ref row, .int 0, .int 0, .ref nb, .ref wi, .ref ga, .ref sg, .ref tc, .ref st, .ref hp, .ref ec, .ref row, .int 0, .int 0])), (row, .inl (cB, 2000, .inl f6))] H := hP
  have hD : va_D A [(h0, .inr (0, [.ref row, .int 0, .int 0, .ref nb, .ref wi, .ref ga, .ref sg, .ref tc, .ref st, .ref hp, .ref ec, .ref row, .int 0, .int 0])), (row, .inl (cB, 2000, .inl f6))] := hD
  have hK : va_K (dC, dI) cls [(cB, .byte), (cB, .byte), (cB, .byte)] s := hK
  refine lv_aload_n hx hb d_U_feed_47 rfl (lv_at hl 0 rfl) ?_
  refine va_get (D := (dC, dI)) (ci := 0) (v := .ref row) (C := R_U) (T := F_U) (N := 14) hx hb (u_U hT) (fun _ h => h) hown hK hP 0 rfl rfl 0 (by decide) (ux_T_at hT tw_443 rfl) (fun _ h9 => h9) rfl d_U_feed_48 ?_
  refine lv_aload_n hx hb d_U_feed_51 rfl (lv_at hl 0 rfl) ?_
  refine va_get (D := (dC, dI)) (ci := 0) (v := .int 0) (C := R_U) (T := F_U) (N := 14) hx hb (u_U hT) (fun _ h => h) hown hK hP 0 rfl rfl 1 (by decide) (ux_T_at hT tw_444 rfl) (fun _ h9 => h9) rfl d_U_feed_52 ?_
  refine lv_bipush (v := 8) hx hb d_U_feed_55 (by decide) ?_
  refine lv_iadd hx hb d_U_feed_57 ?_
  refine lv_topi (fun x7 ex7 => ?_)
  obtain rfl : x7 = 8 := ex7.trans (by decide)
  refine lv_iload_n hx hb d_U_feed_58 rfl (lv_at hl 3 rfl) ?_
  have hPc := hP.sub (ws' := [(row, .inl (cB, 2000, .inl f6))]) [1] rfl
  have hDc := hD.sub (ws' := [(row, .inl (cB, 2000, .inl f6))]) [1] (by decide) rfl
  have hKc := hK.sub (tys' := [(cB, .byte)]) [0] rfl
  have hFc := va_free (wc := [(row, .inl (cB, 2000, .inl f6))]) hD hS hA [1] rfl
  have hkc : 0 + 0 ≤ 0 := (Nat.le_of_ble_eq_true rfl)
  refine va_callv (va_runS (As := [.ref row, .int 8, .int p2]) (rest := []) hfx (c_U_putFour_8 l dC dI row cB p2 f6 H.size) ⟨(ux_cb 3 hT tw_562 tw_560 tw_1 rfl rfl (by decide +kernel) ⟨(Nat.le_of_ble_eq_true rfl), (Nat.le_of_ble_eq_true rfl)⟩), (ux_T_at hT tw_561 rfl)⟩ (ux_pre [.ref row, .int 8, .int p2] hT hPc hKc hDc) rfl rfl hl.1 rfl (lv_room (Nat.le_of_ble_eq_true rfl)) d_U_feed_59 ⟨(Nat.le_of_ble_eq_true rfl), (Nat.le_of_ble_eq_true rfl)⟩) hS (fun q _ h => hFc q h) hFc (fun u t H1 locs ht hvm hw hB hz1 hk1 hS => ?_)
  obtain ⟨f9, hP1, hK1, hD1⟩ := hB
  rw [ht] at hP1
  have hK1 := va_K.moved hvm.symm hK1
  obtain ⟨hP, hD⟩ := va_join (wr := [(h0, .inr (0, [.ref row, .int 0, .int 0, .ref nb, .ref wi, .ref ga, .ref sg, .ref tc, .ref st, .ref hp, .ref ec, .ref row, .int 0, .int 0]))]) (w1 := [(row, .inl (cB, 2000, .inl f9))]) hP hD [1] [0] rfl rfl (by decide) (by decide) hk1 hFc hP1 hD1
  have hK := (hK.sub (tys' := [(cB, .byte), (cB, .byte), (cB, .byte)]) [0, 1, 2] rfl).app hK1
  generalize H1 = H at hP hS ⊢
  have hP : va_P (dC, dI) cls [(h0, .inr (0, [.ref row, .int 0, .int 0, .ref nb, .ref wi, .ref ga, .ref sg, .ref tc, .ref st, .ref hp, .ref ec, .ref row, .int 0, .int 0])), (row, .inl (cB, 2000, .inl f9))] H := hP
  have hD : va_D A [(h0, .inr (0, [.ref row, .int 0, .int 0, .ref nb, .ref wi, .ref ga, .ref sg, .ref tc, .ref st, .ref hp, .ref ec, .ref row, .int 0, .int 0])), (row, .inl (cB, 2000, .inl f9))] := hD
  have hK : va_K (dC, dI) cls [(cB, .byte), (cB, .byte), (cB, .byte), (cB, .byte)] s := hK
  refine lv_aload_n hx hb d_U_feed_62 rfl (lv_at hl 0 rfl) ?_
  refine va_get (D := (dC, dI)) (ci := 0) (v := .ref row) (C := R_U) (T := F_U) (N := 14) hx hb (u_U hT) (fun _ h => h) hown hK hP 0 rfl rfl 0 (by decide) (ux_T_at hT tw_443 rfl) (fun _ h9 => h9) rfl d_U_feed_63 ?_
  refine lv_aload_n hx hb d_U_feed_66 rfl (lv_at hl 0 rfl) ?_
  refine va_get (D := (dC, dI)) (ci := 0) (v := .int 0) (C := R_U) (T := F_U) (N := 14) hx hb (u_U hT) (fun _ h => h) hown hK hP 0 rfl rfl 1 (by decide) (ux_T_at hT tw_444 rfl) (fun _ h9 => h9) rfl d_U_feed_67 ?_
  refine lv_bipush (v := 12) hx hb d_U_feed_70 (by decide) ?_
  refine lv_iadd hx hb d_U_feed_72 ?_
  refine lv_topi (fun x10 ex10 => ?_)
  obtain rfl : x10 = 12 := ex10.trans (by decide)
  refine lv_iload hx hb d_U_feed_73 (lv_at hl 4 rfl) ?_
  have hPc := hP.sub (ws' := [(row, .inl (cB, 2000, .inl f9))]) [1] rfl
  have hDc := hD.sub (ws' := [(row, .inl (cB, 2000, .inl f9))]) [1] (by decide) rfl
  have hKc := hK.sub (tys' := [(cB, .byte)]) [0] rfl
  have hFc := va_free (wc := [(row, .inl (cB, 2000, .inl f9))]) hD hS hA [1] rfl
  have hkc : 0 + 0 ≤ 0 := (Nat.le_of_ble_eq_true rfl)
  refine va_callv (va_runS (As := [.ref row, .int 12, .int p3]) (rest := []) hfx (c_U_putFour_12 l dC dI row cB p3 f9 H.size) ⟨(ux_cb 3 hT tw_562 tw_560 tw_1 rfl rfl (by decide +kernel) ⟨(Nat.le_of_ble_eq_true rfl), (Nat.le_of_ble_eq_true rfl)⟩), (ux_T_at hT tw_561 rfl)⟩ (ux_pre [.ref row, .int 12, .int p3] hT hPc hKc hDc) rfl rfl hl.1 rfl (lv_room (Nat.le_of_ble_eq_true rfl)) d_U_feed_75 ⟨(Nat.le_of_ble_eq_true rfl), (Nat.le_of_ble_eq_true rfl)⟩) hS (fun q _ h => hFc q h) hFc (fun u t H1 locs ht hvm hw hB hz1 hk1 hS => ?_)
  obtain ⟨f12, hP1, hK1, hD1⟩ := hB
  rw [ht] at hP1
  have hK1 := va_K.moved hvm.symm hK1
  obtain ⟨hP, hD⟩ := va_join (wr := [(h0, .inr (0, [.ref row, .int 0, .int 0, .ref nb, .ref wi, .ref ga, .ref sg, .ref tc, .ref st, .ref hp, .ref ec, .ref row, .int 0, .int 0]))]) (w1 := [(row, .inl (cB, 2000, .inl f12))]) hP hD [1] [0] rfl rfl (by decide) (by decide) hk1 hFc hP1 hD1
  have hK := (hK.sub (tys' := [(cB, .byte), (cB, .byte), (cB, .byte), (cB, .byte)]) [0, 1, 2, 3] rfl).app hK1
  generalize H1 = H at hP hS ⊢
  have hP : va_P (dC, dI) cls [(h0, .inr (0, [.ref row, .int 0, .int 0, .ref nb, .ref wi, .ref ga, .ref sg, .ref tc, .ref st, .ref hp, .ref ec, .ref row, .int 0, .int 0])), (row, .inl (cB, 2000, .inl f12))] H := hP
  have hD : va_D A [(h0, .inr (0, [.ref row, .int 0, .int 0, .ref nb, .ref wi, .ref ga, .ref sg, .ref tc, .ref st, .ref hp, .ref ec, .ref row, .int 0, .int 0])), (row, .inl (cB, 2000, .inl f12))] := hD
  have hK : va_K (dC, dI) cls [(cB, .byte), (cB, .byte), (cB, .byte), (cB, .byte), (cB, .byte)] s := hK
  refine lv_aload_n hx hb d_U_feed_78 rfl (lv_at hl 0 rfl) ?_
  refine va_get (D := (dC, dI)) (ci := 0) (v := .ref row) (C := R_U) (T := F_U) (N := 14) hx hb (u_U hT) (fun _ h => h) hown hK hP 0 rfl rfl 0 (by decide) (ux_T_at hT tw_443 rfl) (fun _ h9 => h9) rfl d_U_feed_79 ?_
  refine lv_aload_n hx hb d_U_feed_82 rfl (lv_at hl 0 rfl) ?_
  refine va_get (D := (dC, dI)) (ci := 0) (v := .int 0) (C := R_U) (T := F_U) (N := 14) hx hb (u_U hT) (fun _ h => h) hown hK hP 0 rfl rfl 1 (by decide) (ux_T_at hT tw_444 rfl) (fun _ h9 => h9) rfl d_U_feed_83 ?_
  refine lv_bipush (v := 16) hx hb d_U_feed_86 (by decide) ?_
  refine lv_iadd hx hb d_U_feed_88 ?_
  refine lv_topi (fun x13 ex13 => ?_)
  obtain rfl : x13 = 16 := ex13.trans (by decide)
  refine lv_iload hx hb d_U_feed_89 (lv_at hl 5 rfl) ?_
  have hPc := hP.sub (ws' := [(row, .inl (cB, 2000, .inl f12))]) [1] rfl
  have hDc := hD.sub (ws' := [(row, .inl (cB, 2000, .inl f12))]) [1] (by decide) rfl
  have hKc := hK.sub (tys' := [(cB, .byte)]) [0] rfl
  have hFc := va_free (wc := [(row, .inl (cB, 2000, .inl f12))]) hD hS hA [1] rfl
  have hkc : 0 + 0 ≤ 0 := (Nat.le_of_ble_eq_true rfl)
  refine va_callv (va_runS (As := [.ref row, .int 16, .int p4]) (rest := []) hfx (c_U_putFour_16 l dC dI row cB p4 f12 H.size) ⟨(ux_cb 3 hT tw_562 tw_560 tw_1 rfl rfl (by decide +kernel) ⟨(Nat.le_of_ble_eq_true rfl), (Nat.le_of_ble_eq_true rfl)⟩), (ux_T_at hT tw_561 rfl)⟩ (ux_pre [.ref row, .int 16, .int p4] hT hPc hKc hDc) rfl rfl hl.1 rfl (lv_room (Nat.le_of_ble_eq_true rfl)) d_U_feed_91 ⟨(Nat.le_of_ble_eq_true rfl), (Nat.le_of_ble_eq_true rfl)⟩) hS (fun q _ h => hFc q h) hFc (fun u t H1 locs ht hvm hw hB hz1 hk1 hS => ?_)
  obtain ⟨f15, hP1, hK1, hD1⟩ := hB
  rw [ht] at hP1
  have hK1 := va_K.moved hvm.symm hK1
  obtain ⟨hP, hD⟩ := va_join (wr := [(h0, .inr (0, [.ref row, .int 0, .int 0, .ref nb, .ref wi, .ref ga, .ref sg, .ref tc, .ref st, .ref hp, .ref ec, .ref row, .int 0, .int 0]))]) (w1 := [(row, .inl (cB, 2000, .inl f15))]) hP hD [1] [0] rfl rfl (by decide) (by decide) hk1 hFc hP1 hD1
  have hK := (hK.sub (tys' := [(cB, .byte), (cB, .byte), (cB, .byte), (cB, .byte), (cB, .byte)]) [0, 1, 2, 3, 4] rfl).app hK1
  generalize H1 = H at hP hS ⊢
  have hP : va_P (dC, dI) cls [(h0, .inr (0, [.ref row, .int 0, .int 0, .ref nb, .ref wi, .ref ga, .ref sg, .ref tc, .ref st, .ref hp, .ref ec, .ref row, .int 0, .int 0])), (row, .inl (cB, 2000, .inl f15))] H := hP
  have hD : va_D A [(h0, .inr (0, [.ref row, .int 0, .int 0, .ref nb, .ref wi, .ref ga, .ref sg, .ref tc, .ref st, .ref hp, .ref ec, .ref row, .int 0, .int 0])), (row, .inl (cB, 2000, .inl f15))] := hD
  have hK : va_K (dC, dI) cls [(cB, .byte), (cB, .byte), (cB, .byte), (cB, .byte), (cB, .byte), (cB, .byte)] s := hK
  refine lv_aload_n hx hb d_U_feed_94 rfl (lv_at hl 0 rfl) ?_
  refine lv_dup hx hb d_U_feed_95 rfl ?_
  refine va_get (D := (dC, dI)) (ci := 0) (v := .int 0) (C := R_U) (T := F_U) (N := 14) hx hb (u_U hT) (fun _ h => h) hown hK hP 0 rfl rfl 1 (by decide) (ux_T_at hT tw_444 rfl) (fun _ h9 => h9) rfl d_U_feed_96 ?_
  refine lv_bipush (v := 20) hx hb d_U_feed_99 (by decide) ?_
  refine lv_iadd hx hb d_U_feed_101 ?_
  refine lv_topi (fun x16 ex16 => ?_)
  obtain rfl : x16 = 20 := ex16.trans (by decide)
  refine va_put (D := (dC, dI)) (ci := 0) (v := .int 20) (ty := .int) (C := R_U) (T := F_U) (N := 14) hx hb (u_U hT) (fun _ h => h) t_U k_U n_U hown hK hP hD hS 0 rfl rfl 1 (by decide) (ux_T_at hT tw_444 rfl) (fun _ h9 => h9) rfl (by decide +kernel) rfl rfl (Nat.le_of_ble_eq_true rfl) d_U_feed_102 (fun H locs hP hD hS => ?_)
  have hP : va_P (dC, dI) cls [(h0, .inr (0, [.ref row, .int 20, .int 0, .ref nb, .ref wi, .ref ga, .ref sg, .ref tc, .ref st, .ref hp, .ref ec, .ref row, .int 0, .int 0])), (row, .inl (cB, 2000, .inl f15))] H := hP
  have hD : va_D A [(h0, .inr (0, [.ref row, .int 20, .int 0, .ref nb, .ref wi, .ref ga, .ref sg, .ref tc, .ref st, .ref hp, .ref ec, .ref row, .int 0, .int 0])), (row, .inl (cB, 2000, .inl f15))] := hD
  refine lv_aload_n hx hb d_U_feed_105 rfl (lv_at hl 0 rfl) ?_
  refine va_get (D := (dC, dI)) (ci := 0) (v := .int 20) (C := R_U) (T := F_U) (N := 14) hx hb (u_U hT) (fun _ h => h) hown hK hP 0 rfl rfl 1 (by decide) (ux_T_at hT tw_444 rfl) (fun _ h9 => h9) rfl d_U_feed_106 ?_
  have hP9 := hP.sub (ws' := []) [] rfl
  have hD9 := hD.sub (ws' := []) [] (by decide) rfl
  have hK9 := hK.sub (tys' := []) [] rfl
  refine W.widen (k := 0) (n := 0) (Nat.le_of_ble_eq_true rfl) (Nat.le_of_ble_eq_true rfl) ?_
  exact W.iret (v := 20) hx hb hr (fun t ht hW => ⟨⟨_, (), rfl, rfl, by rw [ht]; exact hP9, va_K.moved hW.alike hK9, hD9⟩, hS.F ht⟩) hS.2.2 d_U_feed_109
set_option maxHeartbeats 4000000 in
set_option maxRecDepth 100000 in
theorem c_U_cut_ok (l : Launch) (dC : Nat → ClassId) (dI : Nat → Nat → Nat) (h0 : Nat) (row : Nat) (nb : Nat) (wi : Nat) (ga : Nat) (sg : Nat) (tc : Nat) (st : Nat) (hp : Nat) (ec : Nat) (sz : Nat) : Met l y_U_cut [Cond.code y_U_cut b_U_cut 2 (some .int)] ({ frames := 100, cells := 0, slots := 0, locals := 1500 }) (ux_Pc [.ref h0, .int 0] (dC, dI) cls [(h0, .inr (0, [.ref row, .int 0, .int 0, .ref nb, .ref wi, .ref ga, .ref sg, .ref tc, .ref st, .ref hp, .ref ec, .ref row, .int 0, .int 0]))] [] sz) (va_Qi (fun (r : Int32) (_ : Unit) => r = 0) (fun (_ : Unit) (t : State) => ux_B (dC, dI) cls (va_A [(h0, .inr (0, [.ref row, .int 0, .int 0, .ref nb, .ref wi, .ref ga, .ref sg, .ref tc, .ref st, .ref hp, .ref ec, .ref row, .int 0, .int 0]))] sz) [] [] t) (va_A [(h0, .inr (0, [.ref row, .int 0, .int 0, .ref nb, .ref wi, .ref ga, .ref sg, .ref tc, .ref st, .ref hp, .ref ec, .ref row, .int 0, .int 0]))] sz)) 0 0 (va_A [(h0, .inr (0, [.ref row, .int 0, .int 0, .ref nb, .ref wi, .ref ga, .ref sg, .ref tc, .ref st, .ref hp, .ref ec, .ref row, .int 0, .int 0]))] sz) := by
  refine Met.ofW (cc := b_U_cut) (maxL := 2) (ret := some .int) (by decide) rfl ?_
  intro p e s m args below meth c s₁ B hml hv
  obtain ⟨rfl, hsz, hP, hK, hD0, hT⟩ := hv
  have hx := B.exec
  have hb := B.bytes
  have hr := B.returns
  have hown : s.vm.findClass "UnikernelHttp" = some m.cls := findClass_of_methodNamed B.named
  have hlocks := B.notSynchronized
  subst hsz
  have hD := hD0.self (sz := s.heap.size)
  have hns := ux_ns hP
  generalize hAe : va_A [(h0, .inr (0, [.ref row, .int 0, .int 0, .ref nb, .ref wi, .ref ga, .ref sg, .ref tc, .ref st, .ref hp, .ref ec, .ref row, .int 0, .int 0]))] s.heap.size = A at hD hns ⊢
  have hA : ∀ q : Nat, s.heap.size ≤ q → A q := fun q h => by rw [← hAe]; exact Or.inr h
  have hS : va_S A s.heap s.heap [] := va_S.rf
  have hl := lv_entry ([.ref h0, .int 0]) (n := 2) (Nat.le_of_ble_eq_true rfl)
  rw [lg_entry_eq]
  generalize (lg_sl ([.ref h0, .int 0]) ++ List.replicate (2 - (lg_sl ([.ref h0, .int 0])).length) Slot.unset).toArray = ls at hl ⊢
  have hl : lv_has ls 2 [(0, .ref h0), (1, .int 0)] := hl
  have hfx : CallFix p m c b_U_cut 2 s ([.ref h0, .int 0] : List Value).toArray [] "UnikernelHttp" := ⟨hx, hb, hml, hown, fun _ h => by cases h⟩
  refine lv_iload_n hx hb d_U_cut_0 rfl (lv_at hl 1 rfl) ?_
  refine lv_if_lt (tgt := 12) hx hb d_U_cut_1 (by decide) (fun hc => absurd hc (by decide)) (fun _ => ?_)
  refine lv_iload_n hx hb d_U_cut_4 rfl (lv_at hl 1 rfl) ?_
  refine lv_aload_n hx hb d_U_cut_5 rfl (lv_at hl 0 rfl) ?_
  refine va_get (D := (dC, dI)) (ci := 0) (v := .int 0) (C := R_U) (T := F_U) (N := 14) hx hb (u_U hT) (fun _ h => h) hown hK hP 0 rfl rfl 1 (by decide) (ux_T_at hT tw_444 rfl) (fun _ h9 => h9) rfl d_U_cut_6 ?_
  refine lv_icmp_le (tgt := 20) hx hb d_U_cut_9 (by decide) (fun _ => ?_) (fun hc => absurd (by decide) hc)
  refine lv_aload_n hx hb d_U_cut_20 rfl (lv_at hl 0 rfl) ?_
  refine lv_iload_n hx hb d_U_cut_21 rfl (lv_at hl 1 rfl) ?_
  refine va_put (D := (dC, dI)) (ci := 0) (v := .int 0) (ty := .int) (C := R_U) (T := F_U) (N := 14) hx hb (u_U hT) (fun _ h => h) t_U k_U n_U hown hK hP hD hS 0 rfl rfl 1 (by decide) (ux_T_at hT tw_444 rfl) (fun _ h9 => h9) rfl (by decide +kernel) rfl rfl (Nat.le_of_ble_eq_true rfl) d_U_cut_22 (fun H locs hP hD hS => ?_)
  have hP : va_P (dC, dI) cls [(h0, .inr (0, [.ref row, .int 0, .int 0, .ref nb, .ref wi, .ref ga, .ref sg, .ref tc, .ref st, .ref hp, .ref ec, .ref row, .int 0, .int 0]))] H := hP
  have hD : va_D A [(h0, .inr (0, [.ref row, .int 0, .int 0, .ref nb, .ref wi, .ref ga, .ref sg, .ref tc, .ref st, .ref hp, .ref ec, .ref row, .int 0, .int 0]))] := hD
  refine lv_iload_n hx hb d_U_cut_25 rfl (lv_at hl 1 rfl) ?_
  have hP9 := hP.sub (ws' := []) [] rfl
  have hD9 := hD.sub (ws' := []) [] (by decide) rfl
  have hK9 := hK.sub (tys' := []) [] rfl
  refine W.widen (k := 0) (n := 0) (Nat.le_of_ble_eq_true rfl) (Nat.le_of_ble_eq_true rfl) ?_
  exact W.iret (v := 0) hx hb hr (fun t ht hW => ⟨⟨_, (), rfl, rfl, by rw [ht]; exact hP9, va_K.moved hW.alike hK9, hD9⟩, hS.F ht⟩) hS.2.2 d_U_cut_26
set_option maxHeartbeats 4000000 in
set_option maxRecDepth 100000 in
theorem c_U_cut_no (l : Launch) (hfl : l.flags = flags0) (dC : Nat → ClassId) (dI : Nat → Nat → Nat) (h0 : Nat) (row : Nat) (nb : Nat) (wi : Nat) (ga : Nat) (sg : Nat) (tc : Nat) (st : Nat) (hp : Nat) (ec : Nat) (p0 : Int32) (hn : p0.toInt ≠ 0) (sz : Nat) : ux_Met l y_U_cut [Cond.code y_U_cut b_U_cut 2 (some .int)] ({ frames := 100, cells := 1, slots := 6, locals := 1500 }) (ux_PcH [.ref h0, .int p0] (dC, dI) cls [(h0, .inr (0, [.ref row, .int 0, .int 0, .ref nb, .ref wi, .ref ga, .ref sg, .ref tc, .ref st, .ref hp, .ref ec, .ref row, .int 0, .int 0]))] [] sz) (ux_X "java/lang/IllegalArgumentException" (va_A [(h0, .inr (0, [.ref row, .int 0, .int 0, .ref nb, .ref wi, .ref ga, .ref sg, .ref tc, .ref st, .ref hp, .ref ec, .ref row, .int 0, .int 0]))] sz)) 1 6 (va_A [(h0, .inr (0, [.ref row, .int 0, .int 0, .ref nb, .ref wi, .ref ga, .ref sg, .ref tc, .ref st, .ref hp, .ref ec, .ref row, .int 0, .int 0]))] sz) := by
  refine ux_ofW (cc := b_U_cut) (maxL := 2) (ret := some .int) (by decide) rfl ?_
  intro p e s m args below meth c s₁ B hml hv
  obtain ⟨⟨rfl, hsz, hP, hK, hD0, hT⟩, hH⟩ := hv
  have hx := B.exec
  have hb := B.bytes
  have hr := B.returns
  have hown : s.vm.findClass "UnikernelHttp" = some m.cls := findClass_of_methodNamed B.named
  have hlocks := B.notSynchronized
  subst hsz
  have hD := hD0.self (sz := s.heap.size)
  have hns := ux_ns hP
  generalize hAe : va_A [(h0, .inr (0, [.ref row, .int 0, .int 0, .ref nb, .ref wi, .ref ga, .ref sg, .ref tc, .ref st, .ref hp, .ref ec, .ref row, .int 0, .int 0]))] s.heap.size = A at hD hns ⊢
  have hA : ∀ q : Nat, s.heap.size ≤ q → A q := fun q h => by rw [← hAe]; exact Or.inr h
  have hS : va_S A s.heap s.heap [] := va_S.rf
  have hl := lv_entry ([.ref h0, .int p0]) (n := 2) (Nat.le_of_ble_eq_true rfl)
  rw [lg_entry_eq]
  generalize (lg_sl ([.ref h0, .int p0]) ++ List.replicate (2 - (lg_sl ([.ref h0, .int p0])).length) Slot.unset).toArray = ls at hl ⊢
  have hl : lv_has ls 2 [(0, .ref h0), (1, .int p0)] := hl
  have hfx : CallFix p m c b_U_cut 2 s ([.ref h0, .int p0] : List Value).toArray [] "UnikernelHttp" := ⟨hx, hb, hml, hown, fun _ h => by cases h⟩
  refine lv_iload_n hx hb d_U_cut_0 rfl (lv_at hl 1 rfl) ?_
  refine lv_if_lt (tgt := 12) hx hb d_U_cut_1 (by decide) (fun hc1 => ?_) (fun hc1 => ?_)
  · exact ux_throwX (own := "UnikernelHttp") (E := "java/lang/IllegalArgumentException") (names := ["java/lang/RuntimeException", "java/lang/Exception"]) (ic := 89) (iN := 87) hx (ux_off hfl B.admits) hb hlocks (B.noHandlers (atoms_spec (ws := [Cond.code y_U_cut b_U_cut 2 (some .int)]) B.pre _ List.mem_cons_self)) hown (by decide +kernel) (by decide +kernel) (at_89_U hT hH) (ux_T_at hT tw_571 rfl) (ux_T_at hT tw_19 rfl) (by rw [hml]; exact hl.1) d_U_cut_12 d_U_cut_15 d_U_cut_16 d_U_cut_19 (Nat.le_of_ble_eq_true rfl) (Nat.le_of_ble_eq_true rfl) (Nat.le_of_ble_eq_true rfl) (Nat.le_of_ble_eq_true rfl) (Nat.le_of_ble_eq_true rfl) (Nat.le_of_ble_eq_true rfl) hS hns
  · refine lv_iload_n hx hb d_U_cut_4 rfl (lv_at hl 1 rfl) ?_
    refine lv_aload_n hx hb d_U_cut_5 rfl (lv_at hl 0 rfl) ?_
    refine va_get (D := (dC, dI)) (ci := 0) (v := .int 0) (C := R_U) (T := F_U) (N := 14) hx hb (u_U hT) (fun _ h => h) hown hK hP 0 rfl rfl 1 (by decide) (ux_T_at hT tw_444 rfl) (fun _ h9 => h9) rfl d_U_cut_6 ?_
    refine lv_icmp_le (tgt := 20) hx hb d_U_cut_9 (by decide) (fun hc2 => by exfalso; simp only [Int32.lt_iff_toInt_lt, Int32.le_iff_toInt_le, ← Int32.toInt_inj, ux_l0] at hc2 hc1; omega) (fun _ => ?_)
    exact ux_throwX (own := "UnikernelHttp") (E := "java/lang/IllegalArgumentException") (names := ["java/lang/RuntimeException", "java/lang/Exception"]) (ic := 89) (iN := 87) hx (ux_off hfl B.admits) hb hlocks (B.noHandlers (atoms_spec (ws := [Cond.code y_U_cut b_U_cut 2 (some .int)]) B.pre _ List.mem_cons_self)) hown (by decide +kernel) (by decide +kernel) (at_89_U hT hH) (ux_T_at hT tw_571 rfl) (ux_T_at hT tw_19 rfl) (by rw [hml]; exact hl.1) d_U_cut_12 d_U_cut_15 d_U_cut_16 d_U_cut_19 (Nat.le_of_ble_eq_true rfl) (Nat.le_of_ble_eq_true rfl) (Nat.le_of_ble_eq_true rfl) (Nat.le_of_ble_eq_true rfl) (Nat.le_of_ble_eq_true rfl) (Nat.le_of_ble_eq_true rfl) hS hns
set_option maxHeartbeats 4000000 in
set_option maxRecDepth 100000 in
theorem c_U_arrive (l : Launch) (dC : Nat → ClassId) (dI : Nat → Nat → Nat) (h0 : Nat) (row : Nat) (nb : Nat) (wi : Nat) (ga : Nat) (sg : Nat) (tc : Nat) (st : Nat) (hp : Nat) (ec : Nat) (w1 : Nat) (w2 : Nat) (sz : Nat) : Met l y_U_arrive [Cond.code y_U_arrive b_U_arrive 5 (some .int)] ({ frames := 100, cells := 0, slots := 0, locals := 1500 }) (ux_Pc [.ref h0] (dC, dI) cls [(h0, .inr (0, [.ref row, .int 0, .int 0, .ref nb, .ref wi, .ref ga, .ref sg, .ref tc, .ref st, .ref hp, .ref ec, .ref row, .int 0, .int 0])), (wi, .inr (2, [.ref nb, .ref w1, .ref w2, .int 0, .int 0]))] [] sz) (va_Qi (fun (r : Int32) (_ : Unit) => r = 0) (fun (_ : Unit) (t : State) => ux_B (dC, dI) cls (va_A [(h0, .inr (0, [.ref row, .int 0, .int 0, .ref nb, .ref wi, .ref ga, .ref sg, .ref tc, .ref st, .ref hp, .ref ec, .ref row, .int 0, .int 0])), (wi, .inr (2, [.ref nb, .ref w1, .ref w2, .int 0, .int 0]))] sz) [] [] t) (va_A [(h0, .inr (0, [.ref row, .int 0, .int 0, .ref nb, .ref wi, .ref ga, .ref sg, .ref tc, .ref st, .ref hp, .ref ec, .ref row, .int 0, .int 0])), (wi, .inr (2, [.ref nb, .ref w1, .ref w2, .int 0, .int 0]))] sz)) 0 0 (va_A [(h0, .inr (0, [.ref row, .int 0, .int 0, .ref nb, .ref wi, .ref ga, .ref sg, .ref tc, .ref st, .ref hp, .ref ec, .ref row, .int 0, .int 0])), (wi, .inr (2, [.ref nb, .ref w1, .ref w2, .int 0, .int 0]))] sz) := by
  refine Met.ofW (cc := b_U_arrive) (maxL := 5) (ret := some .int) (by decide) rfl ?_
  intro p e s m args below meth c s₁ B hml hv
  obtain ⟨rfl, hsz, hP, hK, hD0, hT⟩ := hv
  have hx := B.exec
  have hb := B.bytes
  have hr := B.returns
  have hown : s.vm.findClass "UnikernelHttp" = some m.cls := findClass_of_methodNamed B.named
  have hlocks := B.notSynchronized
  subst hsz
  have hD := hD0.self (sz := s.heap.size)
  have hns := ux_ns hP
  generalize hAe : va_A [(h0, .inr (0, [.ref row, .int 0, .int 0, .ref nb, .ref wi, .ref ga, .ref sg, .ref tc, .ref st, .ref hp, .ref ec, .ref row, .int 0, .int 0])), (wi, .inr (2, [.ref nb, .ref w1, .ref w2, .int 0, .int 0]))] s.heap.size = A at hD hns ⊢
  have hA : ∀ q : Nat, s.heap.size ≤ q → A q := fun q h => by rw [← hAe]; exact Or.inr h
  have hS : va_S A s.heap s.heap [] := va_S.rf
  have hl := lv_entry ([.ref h0]) (n := 5) (Nat.le_of_ble_eq_true rfl)
  rw [lg_entry_eq]
  generalize (lg_sl ([.ref h0]) ++ List.replicate (5 - (lg_sl ([.ref h0])).length) Slot.unset).toArray = ls at hl ⊢
  have hl : lv_has ls 5 [(0, .ref h0)] := hl
  have hfx : CallFix p m c b_U_arrive 5 s ([.ref h0] : List Value).toArray [] "UnikernelHttp" := ⟨hx, hb, hml, hown, fun _ h => by cases h⟩
  refine lv_aload_n hx hb d_U_arrive_0 rfl (lv_at hl 0 rfl) ?_
  refine va_get (D := (dC, dI)) (ci := 0) (v := .int 0) (C := R_U) (T := F_U) (N := 14) hx hb (u_U hT) (fun _ h => h) hown hK hP 0 rfl rfl 1 (by decide) (ux_T_at hT tw_444 rfl) (fun _ h9 => h9) rfl d_U_arrive_1 ?_
  refine lv_sipush (v := 1518) hx hb d_U_arrive_4 (by decide) ?_
  refine lv_icmp_le (tgt := 18) hx hb d_U_arrive_7 (by decide) (fun _ => ?_) (fun hc => absurd (by decide) hc)
  refine lv_aload_n hx hb d_U_arrive_18 rfl (lv_at hl 0 rfl) ?_
  refine va_get (D := (dC, dI)) (ci := 0) (v := .ref wi) (C := R_U) (T := F_U) (N := 14) hx hb (u_U hT) (fun _ h => h) hown hK hP 0 rfl rfl 4 (by decide) (ux_T_at hT tw_447 rfl) (fun _ h9 => h9) rfl d_U_arrive_19 ?_
  refine va_getN (D := (dC, dI)) (ci := 2) (v := .int 0) (C := R_Wi) (T := F_Wi) (N := 5) hx hb (u_Wi hT) (fun _ h => h) hown hK hP 1 rfl rfl 3 (by decide) (ux_T_at hT tw_81 rfl) (fun _ h9 => h9) rfl d_U_arrive_22 ?_
  refine lv_istore_n hx hb d_U_arrive_25 rfl hl (by decide) rfl (fun ls hl => ?_)
  have hl : lv_has ls 5 [(1, .int 0), (0, .ref h0)] := hl
  refine lv_aload_n hx hb d_U_arrive_26 rfl (lv_at hl 1 rfl) ?_
  refine va_get (D := (dC, dI)) (ci := 0) (v := .int 0) (C := R_U) (T := F_U) (N := 14) hx hb (u_U hT) (fun _ h => h) hown hK hP 0 rfl rfl 1 (by decide) (ux_T_at hT tw_444 rfl) (fun _ h9 => h9) rfl d_U_arrive_27 ?_
  refine lv_istore_n hx hb d_U_arrive_30 rfl hl (by decide) rfl (fun ls hl => ?_)
  have hl : lv_has ls 5 [(2, .int 0), (1, .int 0), (0, .ref h0)] := hl
  refine lv_aload_n hx hb d_U_arrive_31 rfl (lv_at hl 2 rfl) ?_
  refine lv_iconst (v := 0) hx hb d_U_arrive_32 (by decide) ?_
  refine va_put (D := (dC, dI)) (ci := 0) (v := .int 0) (ty := .int) (C := R_U) (T := F_U) (N := 14) hx hb (u_U hT) (fun _ h => h) t_U k_U n_U hown hK hP hD hS 0 rfl rfl 1 (by decide) (ux_T_at hT tw_444 rfl) (fun _ h9 => h9) rfl (by decide +kernel) rfl rfl (Nat.le_of_ble_eq_true rfl) d_U_arrive_33 (fun H locs hP hD hS => ?_)
  have hP : va_P (dC, dI) cls [(h0, .inr (0, [.ref row, .int 0, .int 0, .ref nb, .ref wi, .ref ga, .ref sg, .ref tc, .ref st, .ref hp, .ref ec, .ref row, .int 0, .int 0])), (wi, .inr (2, [.ref nb, .ref w1, .ref w2, .int 0, .int 0]))] H := hP
  have hD : va_D A [(h0, .inr (0, [.ref row, .int 0, .int 0, .ref nb, .ref wi, .ref ga, .ref sg, .ref tc, .ref st, .ref hp, .ref ec, .ref row, .int 0, .int 0])), (wi, .inr (2, [.ref nb, .ref w1, .ref w2, .int 0, .int 0]))] := hD
  refine lv_aload_n hx hb d_U_arrive_36 rfl (lv_at hl 2 rfl) ?_
  refine lv_iload_n hx hb d_U_arrive_37 rfl (lv_at hl 0 rfl) ?_
  have hPc := hP.sub (ws' := [(h0, .inr (0, [.ref row, .int 0, .int 0, .ref nb, .ref wi, .ref ga, .ref sg, .ref tc, .ref st, .ref hp, .ref ec, .ref row, .int 0, .int 0]))]) [0] rfl
  have hDc := hD.sub (ws' := [(h0, .inr (0, [.ref row, .int 0, .int 0, .ref nb, .ref wi, .ref ga, .ref sg, .ref tc, .ref st, .ref hp, .ref ec, .ref row, .int 0, .int 0]))]) [0] (by decide) rfl
  have hKc := hK.sub (tys' := []) [] rfl
  have hFc := va_free (wc := [(h0, .inr (0, [.ref row, .int 0, .int 0, .ref nb, .ref wi, .ref ga, .ref sg, .ref tc, .ref st, .ref hp, .ref ec, .ref row, .int 0, .int 0]))]) hD hS hA [0] rfl
  have hkc : 0 + 0 ≤ 0 := (Nat.le_of_ble_eq_true rfl)
  refine va_calli (va_runV (As := [.int 0]) (rest := []) hfx (c_U_isForMe l dC dI h0 row nb wi ga sg tc st hp ec H.size) ⟨(ux_cb 1 hT tw_596 tw_593 tw_1 rfl rfl (by decide +kernel) ⟨(Nat.le_of_ble_eq_true rfl), (Nat.le_of_ble_eq_true rfl)⟩), (ux_T_at hT tw_595 rfl), (ux_T_at hT (ux_tp (q := (⟨"UnikernelHttp", "isForMe", "(I)Z"⟩, 14)) (by decide +kernel)) rfl)⟩ (ux_preV (r := (R_U, F_U, 14)) (ci := 0) (q0 := 0) [.int 0] hT hPc hKc hDc rfl rfl) rfl rfl hl.1 rfl (lv_room (Nat.le_of_ble_eq_true rfl)) d_U_arrive_38 ⟨(Nat.le_of_ble_eq_true rfl), (Nat.le_of_ble_eq_true rfl)⟩) hS (fun q _ h => hFc q h) hFc (fun r1 u t H1 locs ht hvm hw hB hz1 hk1 hS => ?_)
  obtain ⟨hP1, hK1, hD1⟩ := hB
  rw [ht] at hP1
  have hK1 := va_K.moved hvm.symm hK1
  obtain ⟨hP, hD⟩ := va_join (wr := [(wi, .inr (2, [.ref nb, .ref w1, .ref w2, .int 0, .int 0]))]) (w1 := [(h0, .inr (0, [.ref row, .int 0, .int 0, .ref nb, .ref wi, .ref ga, .ref sg, .ref tc, .ref st, .ref hp, .ref ec, .ref row, .int 0, .int 0]))]) hP hD [0] [1] rfl rfl (by decide) (by decide) hk1 hFc hP1 hD1
  have hK := (hK.sub (tys' := []) [] rfl).app hK1
  generalize H1 = H at hP hS ⊢
  have hP : va_P (dC, dI) cls [(wi, .inr (2, [.ref nb, .ref w1, .ref w2, .int 0, .int 0])), (h0, .inr (0, [.ref row, .int 0, .int 0, .ref nb, .ref wi, .ref ga, .ref sg, .ref tc, .ref st, .ref hp, .ref ec, .ref row, .int 0, .int 0]))] H := hP
  have hD : va_D A [(wi, .inr (2, [.ref nb, .ref w1, .ref w2, .int 0, .int 0])), (h0, .inr (0, [.ref row, .int 0, .int 0, .ref nb, .ref wi, .ref ga, .ref sg, .ref tc, .ref st, .ref hp, .ref ec, .ref row, .int 0, .int 0]))] := hD
  have hK : va_K (dC, dI) cls [] s := hK
  obtain rfl : r1 = 0 := hw
  refine lv_if_eq (tgt := 56) hx hb d_U_arrive_41 (by decide) (fun _ => ?_) (fun hc => absurd (by decide) hc)
  refine lv_iconst (v := 0) hx hb d_U_arrive_56 (by decide) ?_
  refine lv_istore_n hx hb d_U_arrive_57 rfl hl (by decide) rfl (fun ls hl => ?_)
  have hl : lv_has ls 5 [(3, .int 0), (2, .int 0), (1, .int 0), (0, .ref h0)] := hl
  refine lv_iload_n hx hb d_U_arrive_58 rfl (lv_at hl 0 rfl) ?_
  refine lv_sipush (v := 2054) hx hb d_U_arrive_59 (by decide) ?_
  refine lv_icmp_ne (tgt := 73) hx hb d_U_arrive_62 (by decide) (fun _ => ?_) (fun hc => absurd hc (by decide))
  refine lv_iload_n hx hb d_U_arrive_73 rfl (lv_at hl 0 rfl) ?_
  refine lv_sipush (v := 2048) hx hb d_U_arrive_74 (by decide) ?_
  refine lv_icmp_ne (tgt := 130) hx hb d_U_arrive_77 (by decide) (fun _ => ?_) (fun hc => absurd hc (by decide))
  refine lv_aload_n hx hb d_U_arrive_130 rfl (lv_at hl 3 rfl) ?_
  refine va_get (D := (dC, dI)) (ci := 0) (v := .ref wi) (C := R_U) (T := F_U) (N := 14) hx hb (u_U hT) (fun _ h => h) hown hK hP 1 rfl rfl 4 (by decide) (ux_T_at hT tw_447 rfl) (fun _ h9 => h9) rfl d_U_arrive_131 ?_
  refine va_getN (D := (dC, dI)) (ci := 2) (v := .int 0) (C := R_Wi) (T := F_Wi) (N := 5) hx hb (u_Wi hT) (fun _ h => h) hown hK hP 0 rfl rfl 3 (by decide) (ux_T_at hT tw_81 rfl) (fun _ h9 => h9) rfl d_U_arrive_134 ?_
  refine lv_iload_n hx hb d_U_arrive_137 rfl (lv_at hl 2 rfl) ?_
  refine lv_isub hx hb d_U_arrive_138 ?_
  refine lv_topi (fun x2 ex2 => ?_)
  obtain rfl : x2 = 0 := ex2.trans (by decide)
  have hP9 := hP.sub (ws' := []) [] rfl
  have hD9 := hD.sub (ws' := []) [] (by decide) rfl
  have hK9 := hK.sub (tys' := []) [] rfl
  refine W.widen (k := 0) (n := 0) (Nat.le_of_ble_eq_true rfl) (Nat.le_of_ble_eq_true rfl) ?_
  exact W.iret (v := 0) hx hb hr (fun t ht hW => ⟨⟨_, (), rfl, rfl, by rw [ht]; exact hP9, va_K.moved hW.alike hK9, hD9⟩, hS.F ht⟩) hS.2.2 d_U_arrive_139
set_option maxHeartbeats 4000000 in
set_option maxRecDepth 100000 in
theorem c_U_page (l : Launch) (hfl : l.flags = flags0) (dC : Nat → ClassId) (dI : Nat → Nat → Nat) (h0 : Nat) (row : Nat) (nb : Nat) (wi : Nat) (ga : Nat) (sg : Nat) (tc : Nat) (st : Nat) (hp : Nat) (ec : Nat) (p0 : Int32) (sz : Nat) : ux_Met l y_U_page [Cond.code y_U_page b_U_page 3 (some .int)] ({ frames := 100, cells := 1, slots := 6, locals := 1500 }) (ux_PcH [.ref h0, .int p0] (dC, dI) cls [(h0, .inr (0, [.ref row, .int 0, .int 0, .ref nb, .ref wi, .ref ga, .ref sg, .ref tc, .ref st, .ref hp, .ref ec, .ref row, .int 0, .int 0]))] [] sz) (ux_X "java/lang/IllegalArgumentException" (va_A [(h0, .inr (0, [.ref row, .int 0, .int 0, .ref nb, .ref wi, .ref ga, .ref sg, .ref tc, .ref st, .ref hp, .ref ec, .ref row, .int 0, .int 0]))] sz)) 1 6 (va_A [(h0, .inr (0, [.ref row, .int 0, .int 0, .ref nb, .ref wi, .ref ga, .ref sg, .ref tc, .ref st, .ref hp, .ref ec, .ref row, .int 0, .int 0]))] sz) := by
  refine ux_ofW (cc := b_U_page) (maxL := 3) (ret := some .int) (by decide) rfl ?_
  intro p e s m args below meth c s₁ B hml hv
  obtain ⟨⟨rfl, hsz, hP, hK, hD0, hT⟩, hH⟩ := hv
  have hx := B.exec
  have hb := B.bytes
  have hr := B.returns
  have hown : s.vm.findClass "UnikernelHttp" = some m.cls := findClass_of_methodNamed B.named
  have hlocks := B.notSynchronized
  subst hsz
  have hD := hD0.self (sz := s.heap.size)
  have hns := ux_ns hP
  generalize hAe : va_A [(h0, .inr (0, [.ref row, .int 0, .int 0, .ref nb, .ref wi, .ref ga, .ref sg, .ref tc, .ref st, .ref hp, .ref ec, .ref row, .int 0, .int 0]))] s.heap.size = A at hD hns ⊢
  have hA : ∀ q : Nat, s.heap.size ≤ q → A q := fun q h => by rw [← hAe]; exact Or.inr h
  have hS : va_S A s.heap s.heap [] := va_S.rf
  have hl := lv_entry ([.ref h0, .int p0]) (n := 3) (Nat.le_of_ble_eq_true rfl)
  rw [lg_entry_eq]
  generalize (lg_sl ([.ref h0, .int p0]) ++ List.replicate (3 - (lg_sl ([.ref h0, .int p0])).length) Slot.unset).toArray = ls at hl ⊢
  have hl : lv_has ls 3 [(0, .ref h0), (1, .int p0)] := hl
  have hfx : CallFix p m c b_U_page 3 s ([.ref h0, .int p0] : List Value).toArray [] "UnikernelHttp" := ⟨hx, hb, hml, hown, fun _ h => by cases h⟩
  refine lv_iload_n hx hb d_U_page_0 rfl (lv_at hl 1 rfl) ?_
  refine lv_iconst (v := 1) hx hb d_U_page_1 (by decide) ?_
  refine lv_icmp_lt (tgt := 35) hx hb d_U_page_2 (by decide) (fun hc1 => ?_) (fun hc1 => ?_)
  · refine lv_iconst (v := 0) hx hb d_U_page_35 (by decide) ?_
    refine lv_istore_n hx hb d_U_page_36 rfl hl (by decide) rfl (fun ls hl => ?_)
    have hl : lv_has ls 3 [(2, .int 0), (0, .ref h0), (1, .int p0)] := hl
    refine lv_iload_n hx hb d_U_page_37 rfl (lv_at hl 0 rfl) ?_
    refine lv_if_eq (tgt := 52) hx hb d_U_page_38 (by decide) (fun _ => ?_) (fun hc => absurd (by decide) hc)
    exact ux_throwX (own := "UnikernelHttp") (E := "java/lang/IllegalArgumentException") (names := ["java/lang/RuntimeException", "java/lang/Exception"]) (ic := 89) (iN := 87) hx (ux_off hfl B.admits) hb hlocks (B.noHandlers (atoms_spec (ws := [Cond.code y_U_page b_U_page 3 (some .int)]) B.pre _ List.mem_cons_self)) hown (by decide +kernel) (by decide +kernel) (at_89_U hT hH) (ux_T_at hT tw_571 rfl) (ux_T_at hT tw_19 rfl) (by rw [hml]; exact hl.1) d_U_page_52 d_U_page_55 d_U_page_56 d_U_page_59 (Nat.le_of_ble_eq_true rfl) (Nat.le_of_ble_eq_true rfl) (Nat.le_of_ble_eq_true rfl) (Nat.le_of_ble_eq_true rfl) (Nat.le_of_ble_eq_true rfl) (Nat.le_of_ble_eq_true rfl) hS hns
  · refine lv_iload_n hx hb d_U_page_5 rfl (lv_at hl 1 rfl) ?_
    refine lv_bipush (v := 64) hx hb d_U_page_6 (by decide) ?_
    refine lv_icmp_gt (tgt := 35) hx hb d_U_page_8 (by decide) (fun hc2 => ?_) (fun hc2 => ?_)
    · refine lv_iconst (v := 0) hx hb d_U_page_35 (by decide) ?_
      refine lv_istore_n hx hb d_U_page_36 rfl hl (by decide) rfl (fun ls hl => ?_)
      have hl : lv_has ls 3 [(2, .int 0), (0, .ref h0), (1, .int p0)] := hl
      refine lv_iload_n hx hb d_U_page_37 rfl (lv_at hl 0 rfl) ?_
      refine lv_if_eq (tgt := 52) hx hb d_U_page_38 (by decide) (fun _ => ?_) (fun hc => absurd (by decide) hc)
      exact ux_throwX (own := "UnikernelHttp") (E := "java/lang/IllegalArgumentException") (names := ["java/lang/RuntimeException", "java/lang/Exception"]) (ic := 89) (iN := 87) hx (ux_off hfl B.admits) hb hlocks (B.noHandlers (atoms_spec (ws := [Cond.code y_U_page b_U_page 3 (some .int)]) B.pre _ List.mem_cons_self)) hown (by decide +kernel) (by decide +kernel) (at_89_U hT hH) (ux_T_at hT tw_571 rfl) (ux_T_at hT tw_19 rfl) (by rw [hml]; exact hl.1) d_U_page_52 d_U_page_55 d_U_page_56 d_U_page_59 (Nat.le_of_ble_eq_true rfl) (Nat.le_of_ble_eq_true rfl) (Nat.le_of_ble_eq_true rfl) (Nat.le_of_ble_eq_true rfl) (Nat.le_of_ble_eq_true rfl) (Nat.le_of_ble_eq_true rfl) hS hns
    · refine lv_iload_n hx hb d_U_page_11 rfl (lv_at hl 1 rfl) ?_
      refine lv_aload_n hx hb d_U_page_12 rfl (lv_at hl 0 rfl) ?_
      refine va_get (D := (dC, dI)) (ci := 0) (v := .int 0) (C := R_U) (T := F_U) (N := 14) hx hb (u_U hT) (fun _ h => h) hown hK hP 0 rfl rfl 1 (by decide) (ux_T_at hT tw_444 rfl) (fun _ h9 => h9) rfl d_U_page_13 ?_
      refine lv_icmp_gt (tgt := 35) hx hb d_U_page_16 (by decide) (fun _ => ?_) (fun hc3 => by exfalso; simp only [Int32.lt_iff_toInt_lt, Int32.le_iff_toInt_le, ← Int32.toInt_inj, ux_l0, ux_l1, ux_l64] at hc3 hc1 hc2; omega)
      refine lv_iconst (v := 0) hx hb d_U_page_35 (by decide) ?_
      refine lv_istore_n hx hb d_U_page_36 rfl hl (by decide) rfl (fun ls hl => ?_)
      have hl : lv_has ls 3 [(2, .int 0), (0, .ref h0), (1, .int p0)] := hl
      refine lv_iload_n hx hb d_U_page_37 rfl (lv_at hl 0 rfl) ?_
      refine lv_if_eq (tgt := 52) hx hb d_U_page_38 (by decide) (fun _ => ?_) (fun hc => absurd (by decide) hc)
      exact ux_throwX (own := "UnikernelHttp") (E := "java/lang/IllegalArgumentException") (names := ["java/lang/RuntimeException", "java/lang/Exception"]) (ic := 89) (iN := 87) hx (ux_off hfl B.admits) hb hlocks (B.noHandlers (atoms_spec (ws := [Cond.code y_U_page b_U_page 3 (some .int)]) B.pre _ List.mem_cons_self)) hown (by decide +kernel) (by decide +kernel) (at_89_U hT hH) (ux_T_at hT tw_571 rfl) (ux_T_at hT tw_19 rfl) (by rw [hml]; exact hl.1) d_U_page_52 d_U_page_55 d_U_page_56 d_U_page_59 (Nat.le_of_ble_eq_true rfl) (Nat.le_of_ble_eq_true rfl) (Nat.le_of_ble_eq_true rfl) (Nat.le_of_ble_eq_true rfl) (Nat.le_of_ble_eq_true rfl) (Nat.le_of_ble_eq_true rfl) hS hns
set_option maxHeartbeats 4000000 in
set_option maxRecDepth 100000 in
theorem c_U_damage (l : Launch) (hfl : l.flags = flags0) (dC : Nat → ClassId) (dI : Nat → Nat → Nat) (h0 : Nat) (row : Nat) (nb : Nat) (wi : Nat) (ga : Nat) (sg : Nat) (tc : Nat) (st : Nat) (hp : Nat) (ec : Nat) (s1 : Nat) (s2 : Nat) (s3 : Nat) (s4 : Nat) (s5 : Nat) (p0 : Int32) (p1 : Int32) (p2 : Int32) (sz : Nat) : ux_Met l y_U_damage [Cond.code y_U_damage b_U_damage 5 (some .int)] ({ frames := 100, cells := 1, slots := 6, locals := 1500 }) (ux_PcH [.ref h0, .int p0, .int p1, .int p2] (dC, dI) cls [(h0, .inr (0, [.ref row, .int 0, .int 0, .ref nb, .ref wi, .ref ga, .ref sg, .ref tc, .ref st, .ref hp, .ref ec, .ref row, .int 0, .int 0])), (st, .inr (10, [.ref s1, .ref s2, .ref s3, .ref s4, .ref s5, .int 0]))] [] sz) (ux_X "java/lang/IndexOutOfBoundsException" (va_A [(h0, .inr (0, [.ref row, .int 0, .int 0, .ref nb, .ref wi, .ref ga, .ref sg, .ref tc, .ref st, .ref hp, .ref ec, .ref row, .int 0, .int 0])), (st, .inr (10, [.ref s1, .ref s2, .ref s3, .ref s4, .ref s5, .int 0]))] sz)) 1 6 (va_A [(h0, .inr (0, [.ref row, .int 0, .int 0, .ref nb, .ref wi, .ref ga, .ref sg, .ref tc, .ref st, .ref hp, .ref ec, .ref row, .int 0, .int 0])), (st, .inr (10, [.ref s1, .ref s2, .ref s3, .ref s4, .ref s5, .int 0]))] sz) := by
  refine ux_ofW (cc := b_U_damage) (maxL := 5) (ret := some .int) (by decide) rfl ?_
  intro p e s m args below meth c s₁ B hml hv
  obtain ⟨⟨rfl, hsz, hP, hK, hD0, hT⟩, hH⟩ := hv
  have hx := B.exec
  have hb := B.bytes
  have hr := B.returns
  have hown : s.vm.findClass "UnikernelHttp" = some m.cls := findClass_of_methodNamed B.named
  have hlocks := B.notSynchronized
  subst hsz
  have hD := hD0.self (sz := s.heap.size)
  have hns := ux_ns hP
  generalize hAe : va_A [(h0, .inr (0, [.ref row, .int 0, .int 0, .ref nb, .ref wi, .ref ga, .ref sg, .ref tc, .ref st, .ref hp, .ref ec, .ref row, .int 0, .int 0])), (st, .inr (10, [.ref s1, .ref s2, .ref s3, .ref s4, .ref s5, .int 0]))] s.heap.size = A at hD hns ⊢
  have hA : ∀ q : Nat, s.heap.size ≤ q → A q := fun q h => by rw [← hAe]; exact Or.inr h
  have hS : va_S A s.heap s.heap [] := va_S.rf
  have hl := lv_entry ([.ref h0, .int p0, .int p1, .int p2]) (n := 5) (Nat.le_of_ble_eq_true rfl)
  rw [lg_entry_eq]
  generalize (lg_sl ([.ref h0, .int p0, .int p1, .int p2]) ++ List.replicate (5 - (lg_sl ([.ref h0, .int p0, .int p1, .int p2])).length) Slot.unset).toArray = ls at hl ⊢
  have hl : lv_has ls 5 [(0, .ref h0), (1, .int p0), (2, .int p1), (3, .int p2)] := hl
  have hfx : CallFix p m c b_U_damage 5 s ([.ref h0, .int p0, .int p1, .int p2] : List Value).toArray [] "UnikernelHttp" := ⟨hx, hb, hml, hown, fun _ h => by cases h⟩
  refine lv_iload_n hx hb d_U_damage_0 rfl (lv_at hl 1 rfl) ?_
  refine lv_if_lt (tgt := 32) hx hb d_U_damage_1 (by decide) (fun hc1 => ?_) (fun hc1 => ?_)
  · exact ux_throwX (own := "UnikernelHttp") (E := "java/lang/IndexOutOfBoundsException") (names := ["java/lang/RuntimeException", "java/lang/Exception"]) (ic := 137) (iN := 135) hx (ux_off hfl B.admits) hb hlocks (B.noHandlers (atoms_spec (ws := [Cond.code y_U_damage b_U_damage 5 (some .int)]) B.pre _ List.mem_cons_self)) hown (by decide +kernel) (by decide +kernel) (at_137_U hT hH) (ux_T_at hT tw_1365 rfl) (ux_T_at hT tw_31 rfl) (by rw [hml]; exact hl.1) d_U_damage_32 d_U_damage_35 d_U_damage_36 d_U_damage_39 (Nat.le_of_ble_eq_true rfl) (Nat.le_of_ble_eq_true rfl) (Nat.le_of_ble_eq_true rfl) (Nat.le_of_ble_eq_true rfl) (Nat.le_of_ble_eq_true rfl) (Nat.le_of_ble_eq_true rfl) hS hns
  · refine lv_iload_n hx hb d_U_damage_4 rfl (lv_at hl 1 rfl) ?_
    refine lv_aload_n hx hb d_U_damage_5 rfl (lv_at hl 0 rfl) ?_
    refine va_get (D := (dC, dI)) (ci := 0) (v := .ref st) (C := R_U) (T := F_U) (N := 14) hx hb (u_U hT) (fun _ h => h) hown hK hP 0 rfl rfl 8 (by decide) (ux_T_at hT tw_451 rfl) (fun _ h9 => h9) rfl d_U_damage_6 ?_
    refine va_getN (D := (dC, dI)) (ci := 10) (v := .int 0) (C := R_So) (T := F_So) (N := 6) hx hb (u_So hT) (fun _ h => h) hown hK hP 1 rfl rfl 5 (by decide) (ux_T_at hT tw_406 rfl) (fun _ h9 => h9) rfl d_U_damage_9 ?_
    refine lv_icmp_ge (tgt := 32) hx hb d_U_damage_12 (by decide) (fun _ => ?_) (fun hc2 => by exfalso; simp only [Int32.lt_iff_toInt_lt, Int32.le_iff_toInt_le, ← Int32.toInt_inj, ux_l0] at hc2 hc1; omega)
    exact ux_throwX (own := "UnikernelHttp") (E := "java/lang/IndexOutOfBoundsException") (names := ["java/lang/RuntimeException", "java/lang/Exception"]) (ic := 137) (iN := 135) hx (ux_off hfl B.admits) hb hlocks (B.noHandlers (atoms_spec (ws := [Cond.code y_U_damage b_U_damage 5 (some .int)]) B.pre _ List.mem_cons_self)) hown (by decide +kernel) (by decide +kernel) (at_137_U hT hH) (ux_T_at hT tw_1365 rfl) (ux_T_at hT tw_31 rfl) (by rw [hml]; exact hl.1) d_U_damage_32 d_U_damage_35 d_U_damage_36 d_U_damage_39 (Nat.le_of_ble_eq_true rfl) (Nat.le_of_ble_eq_true rfl) (Nat.le_of_ble_eq_true rfl) (Nat.le_of_ble_eq_true rfl) (Nat.le_of_ble_eq_true rfl) (Nat.le_of_ble_eq_true rfl) hS hns
set_option maxHeartbeats 4000000 in
set_option maxRecDepth 100000 in
theorem c_U_tick_ok (l : Launch) (dC : Nat → ClassId) (dI : Nat → Nat → Nat) (h0 : Nat) (row : Nat) (nb : Nat) (wi : Nat) (ga : Nat) (sg : Nat) (tc : Nat) (st : Nat) (hp : Nat) (ec : Nat) (w1 : Nat) (w2 : Nat) (g1 : Nat) (t1 : Nat) (t2 : Nat) (p0 : Int32) (hn : 0 ≤ p0.toInt ∧ p0.toInt ≤ 100000) (sz : Nat) : Met l y_U_tick [Cond.code y_U_tick b_U_tick 9 (some .int)] ({ frames := 100, cells := 0, slots := 0, locals := 1500 }) (ux_Pc [.ref h0, .int p0] (dC, dI) cls [(h0, .inr (0, [.ref row, .int 0, .int 0, .ref nb, .ref wi, .ref ga, .ref sg, .ref tc, .ref st, .ref hp, .ref ec, .ref row, .int 0, .int 0])), (wi, .inr (2, [.ref nb, .ref w1, .ref w2, .int 0, .int 0])), (ga, .inr (3, [.ref g1, .int 0])), (tc, .inr (6, [.ref t1, .ref t2, .ref wi, .int 0, .int 0]))] [] sz) (va_Qi (fun (r : Int32) (_ : Unit) => r = 0) (fun (_ : Unit) (t : State) => ux_B (dC, dI) cls (va_A [(h0, .inr (0, [.ref row, .int 0, .int 0, .ref nb, .ref wi, .ref ga, .ref sg, .ref tc, .ref st, .ref hp, .ref ec, .ref row, .int 0, .int 0])), (wi, .inr (2, [.ref nb, .ref w1, .ref w2, .int 0, .int 0])), (ga, .inr (3, [.ref g1, .int 0])), (tc, .inr (6, [.ref t1, .ref t2, .ref wi, .int 0, .int 0]))] sz) [] [] t) (va_A [(h0, .inr (0, [.ref row, .int 0, .int 0, .ref nb, .ref wi, .ref ga, .ref sg, .ref tc, .ref st, .ref hp, .ref ec, .ref row, .int 0, .int 0])), (wi, .inr (2, [.ref nb, .ref w1, .ref w2, .int 0, .int 0])), (ga, .inr (3, [.ref g1, .int 0])), (tc, .inr (6, [.ref t1, .ref t2, .ref wi, .int 0, .int 0]))] sz)) 0 0 (va_A [(h0, .inr (0, [.ref row, .int 0, .int 0, .ref nb, .ref wi, .ref ga, .ref sg, .ref tc, .ref st, .ref hp, .ref ec, .ref row, .int 0, .int 0])), (wi, .inr (2, [.ref nb, .ref w1, .ref w2, .int 0, .int 0])), (ga, .inr (3, [.ref g1, .int 0])), (tc, .inr (6, [.ref t1, .ref t2, .ref wi, .int 0, .int 0]))] sz) := by
  refine Met.ofW (cc := b_U_tick) (maxL := 9) (ret := some .int) (by decide) rfl ?_
  intro p e s m args below meth c s₁ B hml hv
  obtain ⟨rfl, hsz, hP, hK, hD0, hT⟩ := hv
  have hx := B.exec
  have hb := B.bytes
  have hr := B.returns
  have hown : s.vm.findClass "UnikernelHttp" = some m.cls := findClass_of_methodNamed B.named
  have hlocks := B.notSynchronized
  subst hsz
  have hD := hD0.self (sz := s.heap.size)
  have hns := ux_ns hP
  generalize hAe : va_A [(h0, .inr (0, [.ref row, .int 0, .int 0, .ref nb, .ref wi, .ref ga, .ref sg, .ref tc, .ref st, .ref hp, .ref ec, .ref row, .int 0, .int 0])), (wi, .inr (2, [.ref nb, .ref w1, .ref w2, .int 0, .int 0])), (ga, .inr (3, [.ref g1, .int 0])), (tc, .inr (6, [.ref t1, .ref t2, .ref wi, .int 0, .int 0]))] s.heap.size = A at hD hns ⊢
  have hA : ∀ q : Nat, s.heap.size ≤ q → A q := fun q h => by rw [← hAe]; exact Or.inr h
  have hS : va_S A s.heap s.heap [] := va_S.rf
  have hl := lv_entry ([.ref h0, .int p0]) (n := 9) (Nat.le_of_ble_eq_true rfl)
  rw [lg_entry_eq]
  generalize (lg_sl ([.ref h0, .int p0]) ++ List.replicate (9 - (lg_sl ([.ref h0, .int p0])).length) Slot.unset).toArray = ls at hl ⊢
  have hl : lv_has ls 9 [(0, .ref h0), (1, .int p0)] := hl
  have hfx : CallFix p m c b_U_tick 9 s ([.ref h0, .int p0] : List Value).toArray [] "UnikernelHttp" := ⟨hx, hb, hml, hown, fun _ h => by cases h⟩
  refine lv_iload_n hx hb d_U_tick_0 rfl (lv_at hl 1 rfl) ?_
  refine lv_if_lt (tgt := 10) hx hb d_U_tick_1 (by decide) (fun hc1 => by exfalso; simp only [Int32.lt_iff_toInt_lt, Int32.le_iff_toInt_le, ← Int32.toInt_inj, ux_l0] at hc1; omega) (fun _ => ?_)
  refine lv_iload_n hx hb d_U_tick_4 rfl (lv_at hl 1 rfl) ?_
  refine lv_ldc (own := "UnikernelHttp") (v := 100000) hx hb hown (ux_T_at hT tw_1387 rfl) d_U_tick_5 ?_
  refine lv_icmp_le (tgt := 18) hx hb d_U_tick_7 (by decide) (fun _ => ?_) (fun hc2 => by exfalso; simp only [Int32.lt_iff_toInt_lt, Int32.le_iff_toInt_le, ← Int32.toInt_inj, ux_l100000] at hc2; omega)
  refine lv_aload_n hx hb d_U_tick_18 rfl (lv_at hl 0 rfl) ?_
  refine va_get (D := (dC, dI)) (ci := 0) (v := .ref wi) (C := R_U) (T := F_U) (N := 14) hx hb (u_U hT) (fun _ h => h) hown hK hP 0 rfl rfl 4 (by decide) (ux_T_at hT tw_447 rfl) (fun _ h9 => h9) rfl d_U_tick_19 ?_
  refine va_getN (D := (dC, dI)) (ci := 2) (v := .int 0) (C := R_Wi) (T := F_Wi) (N := 5) hx hb (u_Wi hT) (fun _ h => h) hown hK hP 1 rfl rfl 3 (by decide) (ux_T_at hT tw_81 rfl) (fun _ h9 => h9) rfl d_U_tick_22 ?_
  refine lv_istore_n hx hb d_U_tick_25 rfl hl (by decide) rfl (fun ls hl => ?_)
  have hl : lv_has ls 9 [(2, .int 0), (0, .ref h0), (1, .int p0)] := hl
  refine lv_aload_n hx hb d_U_tick_26 rfl (lv_at hl 1 rfl) ?_
  refine va_get (D := (dC, dI)) (ci := 0) (v := .int 0) (C := R_U) (T := F_U) (N := 14) hx hb (u_U hT) (fun _ h => h) hown hK hP 0 rfl rfl 2 (by decide) (ux_T_at hT tw_445 rfl) (fun _ h9 => h9) rfl d_U_tick_27 ?_
  refine lv_iload_n hx hb d_U_tick_30 rfl (lv_at hl 2 rfl) ?_
  refine lv_iadd hx hb d_U_tick_31 ?_
  refine lv_topi (fun x3 ex3 => ?_)
  refine lv_istore_n hx hb d_U_tick_32 rfl hl (by decide) rfl (fun ls hl => ?_)
  have hl : lv_has ls 9 [(3, .int x3), (2, .int 0), (0, .ref h0), (1, .int p0)] := hl
  refine lv_iconst (v := 0) hx hb d_U_tick_33 (by decide) ?_
  refine lv_istore hx hb d_U_tick_34 hl (by decide) rfl (fun ls hl => ?_)
  have hl : lv_has ls 9 [(4, .int 0), (3, .int x3), (2, .int 0), (0, .ref h0), (1, .int p0)] := hl
  refine lv_iload hx hb d_U_tick_36 (lv_at hl 0 rfl) ?_
  refine lv_sipush (v := 10000) hx hb d_U_tick_38 (by decide) ?_
  refine lv_icmp_ge (tgt := 152) hx hb d_U_tick_41 (by decide) (fun hc => absurd hc (by decide)) (fun _ => ?_)
  refine lv_aload_n hx hb d_U_tick_44 rfl (lv_at hl 3 rfl) ?_
  refine va_get (D := (dC, dI)) (ci := 0) (v := .ref ga) (C := R_U) (T := F_U) (N := 14) hx hb (u_U hT) (fun _ h => h) hown hK hP 0 rfl rfl 5 (by decide) (ux_T_at hT tw_448 rfl) (fun _ h9 => h9) rfl d_U_tick_45 ?_
  have hPc := hP.sub (ws' := [(ga, .inr (3, [.ref g1, .int 0]))]) [2] rfl
  have hDc := hD.sub (ws' := [(ga, .inr (3, [.ref g1, .int 0]))]) [2] (by decide) rfl
  have hKc := hK.sub (tys' := []) [] rfl
  have hFc := va_free (wc := [(ga, .inr (3, [.ref g1, .int 0]))]) hD hS hA [2] rfl
  have hkc : 0 + 0 ≤ 0 := (Nat.le_of_ble_eq_true rfl)
  refine va_calli (va_runVN (As := []) (rest := []) hfx (c_Gs_due l dC dI ga g1 s.heap.size) ⟨(ux_cn 0 hT tw_1391 tw_1388 tw_4 rfl rfl (by decide +kernel) ⟨(Nat.le_of_ble_eq_true rfl), (Nat.le_of_ble_eq_true rfl)⟩), (ux_T_at hT tw_1390 rfl), (ux_T_at hT (ux_tp (q := (⟨"UnikernelHttp$Gatherings", "due", "()I"⟩, 2)) (by decide +kernel)) rfl)⟩ (ux_preV (r := (R_Gs, F_Gs, 2)) (ci := 3) (q0 := 0) [] hT hPc hKc hDc rfl rfl) rfl rfl hl.1 rfl (lv_room (Nat.le_of_ble_eq_true rfl)) d_U_tick_48 ⟨(Nat.le_of_ble_eq_true rfl), (Nat.le_of_ble_eq_true rfl)⟩) hS (fun q _ h => hFc q h) hFc (fun r4 u t H1 locs ht hvm hw hB hz1 hk1 hS => ?_)
  obtain ⟨hP1, hK1, hD1⟩ := hB
  rw [ht] at hP1
  have hK1 := va_K.moved hvm.symm hK1
  obtain ⟨hP, hD⟩ := va_join (wr := [(h0, .inr (0, [.ref row, .int 0, .int 0, .ref nb, .ref wi, .ref ga, .ref sg, .ref tc, .ref st, .ref hp, .ref ec, .ref row, .int 0, .int 0])), (wi, .inr (2, [.ref nb, .ref w1, .ref w2, .int 0, .int 0])), (tc, .inr (6, [.ref t1, .ref t2, .ref wi, .int 0, .int 0]))]) (w1 := [(ga, .inr (3, [.ref g1, .int 0]))]) hP hD [2] [0, 1, 3] rfl rfl (by decide) (by decide) hk1 hFc hP1 hD1
  have hK := (hK.sub (tys' := []) [] rfl).app hK1
  generalize H1 = H at hP hS ⊢
  have hP : va_P (dC, dI) cls [(h0, .inr (0, [.ref row, .int 0, .int 0, .ref nb, .ref wi, .ref ga, .ref sg, .ref tc, .ref st, .ref hp, .ref ec, .ref row, .int 0, .int 0])), (wi, .inr (2, [.ref nb, .ref w1, .ref w2, .int 0, .int 0])), (tc, .inr (6, [.ref t1, .ref t2, .ref wi, .int 0, .int 0])), (ga, .inr (3, [.ref g1, .int 0]))] H := hP
  have hD : va_D A [(h0, .inr (0, [.ref row, .int 0, .int 0, .ref nb, .ref wi, .ref ga, .ref sg, .ref tc, .ref st, .ref hp, .ref ec, .ref row, .int 0, .int 0])), (wi, .inr (2, [.ref nb, .ref w1, .ref w2, .int 0, .int 0])), (tc, .inr (6, [.ref t1, .ref t2, .ref wi, .int 0, .int 0])), (ga, .inr (3, [.ref g1, .int 0]))] := hD
  have hK : va_K (dC, dI) cls [] s := hK
  obtain rfl : r4 = 2147483647 := hw
  refine lv_istore hx hb d_U_tick_51 hl (by decide) rfl (fun ls hl => ?_)
  have hl : lv_has ls 9 [(5, .int 2147483647), (4, .int 0), (3, .int x3), (2, .int 0), (0, .ref h0), (1, .int p0)] := hl
  refine lv_aload_n hx hb d_U_tick_53 rfl (lv_at hl 4 rfl) ?_
  refine va_get (D := (dC, dI)) (ci := 0) (v := .ref tc) (C := R_U) (T := F_U) (N := 14) hx hb (u_U hT) (fun _ h => h) hown hK hP 0 rfl rfl 7 (by decide) (ux_T_at hT tw_450 rfl) (fun _ h9 => h9) rfl d_U_tick_54 ?_
  have hPc := hP.sub (ws' := [(tc, .inr (6, [.ref t1, .ref t2, .ref wi, .int 0, .int 0]))]) [2] rfl
  have hDc := hD.sub (ws' := [(tc, .inr (6, [.ref t1, .ref t2, .ref wi, .int 0, .int 0]))]) [2] (by decide) rfl
  have hKc := hK.sub (tys' := []) [] rfl
  have hFc := va_free (wc := [(tc, .inr (6, [.ref t1, .ref t2, .ref wi, .int 0, .int 0]))]) hD hS hA [2] rfl
  have hkc : 0 + 0 ≤ 0 := (Nat.le_of_ble_eq_true rfl)
  refine va_callq (va_runVN (As := []) (rest := []) hfx (c_Tc_firstDue l dC dI tc t1 t2 wi H.size) ⟨(ux_cn 0 hT tw_1396 tw_1393 tw_7 rfl rfl (by decide +kernel) ⟨(Nat.le_of_ble_eq_true rfl), (Nat.le_of_ble_eq_true rfl)⟩), (ux_T_at hT tw_1395 rfl), (ux_T_at hT (ux_tp (q := (⟨"UnikernelHttp$Tcp", "firstDue", "()LUnikernelHttp$Connection;"⟩, 5)) (by decide +kernel)) rfl)⟩ (ux_preV (r := (R_Tc, F_Tc, 5)) (ci := 6) (q0 := 0) [] hT hPc hKc hDc rfl rfl) rfl rfl hl.1 rfl (lv_room (Nat.le_of_ble_eq_true rfl)) d_U_tick_57 ⟨(Nat.le_of_ble_eq_true rfl), (Nat.le_of_ble_eq_true rfl)⟩) hS (fun q _ h => hFc q h) hFc (fun r5 u t H1 locs ht hvm hw hB hz1 hk1 hS => ?_)
  obtain ⟨hP1, hK1, hD1⟩ := hB
  rw [ht] at hP1
  have hK1 := va_K.moved hvm.symm hK1
  obtain ⟨hP, hD⟩ := va_join (wr := [(h0, .inr (0, [.ref row, .int 0, .int 0, .ref nb, .ref wi, .ref ga, .ref sg, .ref tc, .ref st, .ref hp, .ref ec, .ref row, .int 0, .int 0])), (wi, .inr (2, [.ref nb, .ref w1, .ref w2, .int 0, .int 0])), (ga, .inr (3, [.ref g1, .int 0]))]) (w1 := [(tc, .inr (6, [.ref t1, .ref t2, .ref wi, .int 0, .int 0]))]) hP hD [2] [0, 1, 3] rfl rfl (by decide) (by decide) hk1 hFc hP1 hD1
  have hK := (hK.sub (tys' := []) [] rfl).app hK1
  generalize H1 = H at hP hS ⊢
  have hP : va_P (dC, dI) cls [(h0, .inr (0, [.ref row, .int 0, .int 0, .ref nb, .ref wi, .ref ga, .ref sg, .ref tc, .ref st, .ref hp, .ref ec, .ref row, .int 0, .int 0])), (wi, .inr (2, [.ref nb, .ref w1, .ref w2, .int 0, .int 0])), (ga, .inr (3, [.ref g1, .int 0])), (tc, .inr (6, [.ref t1, .ref t2, .ref wi, .int 0, .int 0]))] H := hP
  have hD : va_D A [(h0, .inr (0, [.ref row, .int 0, .int 0, .ref nb, .ref wi, .ref ga, .ref sg, .ref tc, .ref st, .ref hp, .ref ec, .ref row, .int 0, .int 0])), (wi, .inr (2, [.ref nb, .ref w1, .ref w2, .int 0, .int 0])), (ga, .inr (3, [.ref g1, .int 0])), (tc, .inr (6, [.ref t1, .ref t2, .ref wi, .int 0, .int 0]))] := hD
  have hK : va_K (dC, dI) cls [] s := hK
  obtain rfl : r5 = none := hw
  refine W.eq (g2 := F0 m 60 ls [.null]) rfl ?_
  refine lv_astoreN hx hb d_U_tick_60 hl (by decide) rfl (fun ls hl => ?_)
  have hl : lv_has ls 9 [(6, .null), (5, .int 2147483647), (4, .int 0), (3, .int x3), (2, .int 0), (0, .ref h0), (1, .int p0)] := hl
  refine lv_aloadN hx hb d_U_tick_62 (lv_at hl 0 rfl) ?_
  refine lv_ifnonnullN hx hb d_U_tick_64 ?_
  refine lv_ldc (own := "UnikernelHttp") (v := 2147483647) hx hb hown (ux_T_at hT tw_1401 rfl) d_U_tick_67 ?_
  refine lv_goto hx hb d_U_tick_69 (tgt := 77) (by decide) ?_
  refine lv_istore hx hb d_U_tick_77 hl (by decide) rfl (fun ls hl => ?_)
  have hl : lv_has ls 9 [(7, .int 2147483647), (6, .null), (5, .int 2147483647), (4, .int 0), (3, .int x3), (2, .int 0), (0, .ref h0), (1, .int p0)] := hl
  refine lv_iload hx hb d_U_tick_79 (lv_at hl 2 rfl) ?_
  refine lv_iload hx hb d_U_tick_81 (lv_at hl 0 rfl) ?_
  refine va_mmin hx hb (by rw [hml]; exact hl.1.symm) hown (ux_T_at hT tw_1403 rfl) (ux_T_at hT tw_754 rfl) (ux_T_at hT tw_21 rfl) (ux_T_at hT tw_755 rfl) (Nat.le_of_ble_eq_true rfl) (Nat.le_of_ble_eq_true rfl) (Nat.le_of_ble_eq_true rfl) (Nat.le_of_ble_eq_true rfl) d_U_tick_83 ?_
  refine lv_topi (fun x6 ex6 => ?_)
  obtain rfl : x6 = 2147483647 := ex6.trans (by decide)
  refine lv_istore hx hb d_U_tick_86 hl (by decide) rfl (fun ls hl => ?_)
  have hl : lv_has ls 9 [(8, .int 2147483647), (7, .int 2147483647), (6, .null), (5, .int 2147483647), (4, .int 0), (3, .int x3), (2, .int 0), (0, .ref h0), (1, .int p0)] := hl
  refine lv_iload hx hb d_U_tick_88 (lv_at hl 0 rfl) ?_
  refine lv_ldc (own := "UnikernelHttp") (v := 2147483647) hx hb hown (ux_T_at hT tw_1401 rfl) d_U_tick_90 ?_
  refine lv_icmp_eq (tgt := 152) hx hb d_U_tick_92 (by decide) (fun _ => ?_) (fun hc => absurd (by decide) hc)
  refine lv_aload_n hx hb d_U_tick_152 rfl (lv_at hl 7 rfl) ?_
  refine lv_iload_n hx hb d_U_tick_153 rfl (lv_at hl 5 rfl) ?_
  refine va_put (D := (dC, dI)) (ci := 0) (v := .int x3) (ty := .int) (C := R_U) (T := F_U) (N := 14) hx hb (u_U hT) (fun _ h => h) t_U k_U n_U hown hK hP hD hS 0 rfl rfl 2 (by decide) (ux_T_at hT tw_445 rfl) (fun _ h9 => h9) rfl (by decide +kernel) rfl rfl (Nat.le_of_ble_eq_true rfl) d_U_tick_154 (fun H locs hP hD hS => ?_)
  have hP : va_P (dC, dI) cls [(h0, .inr (0, [.ref row, .int 0, .int x3, .ref nb, .ref wi, .ref ga, .ref sg, .ref tc, .ref st, .ref hp, .ref ec, .ref row, .int 0, .int 0])), (wi, .inr (2, [.ref nb, .ref w1, .ref w2, .int 0, .int 0])), (ga, .inr (3, [.ref g1, .int 0])), (tc, .inr (6, [.ref t1, .ref t2, .ref wi, .int 0, .int 0]))] H := hP
  have hD : va_D A [(h0, .inr (0, [.ref row, .int 0, .int x3, .ref nb, .ref wi, .ref ga, .ref sg, .ref tc, .ref st, .ref hp, .ref ec, .ref row, .int 0, .int 0])), (wi, .inr (2, [.ref nb, .ref w1, .ref w2, .int 0, .int 0])), (ga, .inr (3, [.ref g1, .int 0])), (tc, .inr (6, [.ref t1, .ref t2, .ref wi, .int 0, .int 0]))] := hD
  refine lv_aload_n hx hb d_U_tick_157 rfl (lv_at hl 7 rfl) ?_
  refine va_get (D := (dC, dI)) (ci := 0) (v := .ref wi) (C := R_U) (T := F_U) (N := 14) hx hb (u_U hT) (fun _ h => h) hown hK hP 0 rfl rfl 4 (by decide) (ux_T_at hT tw_447 rfl) (fun _ h9 => h9) rfl d_U_tick_158 ?_
  refine va_getN (D := (dC, dI)) (ci := 2) (v := .int 0) (C := R_Wi) (T := F_Wi) (N := 5) hx hb (u_Wi hT) (fun _ h => h) hown hK hP 1 rfl rfl 3 (by decide) (ux_T_at hT tw_81 rfl) (fun _ h9 => h9) rfl d_U_tick_161 ?_
  refine lv_iload_n hx hb d_U_tick_164 rfl (lv_at hl 6 rfl) ?_
  refine lv_isub hx hb d_U_tick_165 ?_
  refine lv_topi (fun x7 ex7 => ?_)
  obtain rfl : x7 = 0 := ex7.trans (by decide)
  have hP9 := hP.sub (ws' := []) [] rfl
  have hD9 := hD.sub (ws' := []) [] (by decide) rfl
  have hK9 := hK.sub (tys' := []) [] rfl
  refine W.widen (k := 0) (n := 0) (Nat.le_of_ble_eq_true rfl) (Nat.le_of_ble_eq_true rfl) ?_
  exact W.iret (v := 0) hx hb hr (fun t ht hW => ⟨⟨_, (), rfl, rfl, by rw [ht]; exact hP9, va_K.moved hW.alike hK9, hD9⟩, hS.F ht⟩) hS.2.2 d_U_tick_166
set_option maxHeartbeats 4000000 in
set_option maxRecDepth 100000 in
theorem c_U_tick_no (l : Launch) (hfl : l.flags = flags0) (dC : Nat → ClassId) (dI : Nat → Nat → Nat) (h0 : Nat) (row : Nat) (nb : Nat) (wi : Nat) (ga : Nat) (sg : Nat) (tc : Nat) (st : Nat) (hp : Nat) (ec : Nat) (p0 : Int32) (hn : p0.toInt < 0 ∨ 100000 < p0.toInt) (sz : Nat) : ux_Met l y_U_tick [Cond.code y_U_tick b_U_tick 9 (some .int)] ({ frames := 100, cells := 1, slots := 6, locals := 1500 }) (ux_PcH [.ref h0, .int p0] (dC, dI) cls [(h0, .inr (0, [.ref row, .int 0, .int 0, .ref nb, .ref wi, .ref ga, .ref sg, .ref tc, .ref st, .ref hp, .ref ec, .ref row, .int 0, .int 0]))] [] sz) (ux_X "java/lang/IllegalArgumentException" (va_A [(h0, .inr (0, [.ref row, .int 0, .int 0, .ref nb, .ref wi, .ref ga, .ref sg, .ref tc, .ref st, .ref hp, .ref ec, .ref row, .int 0, .int 0]))] sz)) 1 6 (va_A [(h0, .inr (0, [.ref row, .int 0, .int 0, .ref nb, .ref wi, .ref ga, .ref sg, .ref tc, .ref st, .ref hp, .ref ec, .ref row, .int 0, .int 0]))] sz) := by
  refine ux_ofW (cc := b_U_tick) (maxL := 9) (ret := some .int) (by decide) rfl ?_
  intro p e s m args below meth c s₁ B hml hv
  obtain ⟨⟨rfl, hsz, hP, hK, hD0, hT⟩, hH⟩ := hv
  have hx := B.exec
  have hb := B.bytes
  have hr := B.returns
  have hown : s.vm.findClass "UnikernelHttp" = some m.cls := findClass_of_methodNamed B.named
  have hlocks := B.notSynchronized
  subst hsz
  have hD := hD0.self (sz := s.heap.size)
  have hns := ux_ns hP
  generalize hAe : va_A [(h0, .inr (0, [.ref row, .int 0, .int 0, .ref nb, .ref wi, .ref ga, .ref sg, .ref tc, .ref st, .ref hp, .ref ec, .ref row, .int 0, .int 0]))] s.heap.size = A at hD hns ⊢
  have hA : ∀ q : Nat, s.heap.size ≤ q → A q := fun q h => by rw [← hAe]; exact Or.inr h
  have hS : va_S A s.heap s.heap [] := va_S.rf
  have hl := lv_entry ([.ref h0, .int p0]) (n := 9) (Nat.le_of_ble_eq_true rfl)
  rw [lg_entry_eq]
  generalize (lg_sl ([.ref h0, .int p0]) ++ List.replicate (9 - (lg_sl ([.ref h0, .int p0])).length) Slot.unset).toArray = ls at hl ⊢
  have hl : lv_has ls 9 [(0, .ref h0), (1, .int p0)] := hl
  have hfx : CallFix p m c b_U_tick 9 s ([.ref h0, .int p0] : List Value).toArray [] "UnikernelHttp" := ⟨hx, hb, hml, hown, fun _ h => by cases h⟩
  refine lv_iload_n hx hb d_U_tick_0 rfl (lv_at hl 1 rfl) ?_
  refine lv_if_lt (tgt := 10) hx hb d_U_tick_1 (by decide) (fun hc1 => ?_) (fun hc1 => ?_)
  · exact ux_throwX (own := "UnikernelHttp") (E := "java/lang/IllegalArgumentException") (names := ["java/lang/RuntimeException", "java/lang/Exception"]) (ic := 89) (iN := 87) hx (ux_off hfl B.admits) hb hlocks (B.noHandlers (atoms_spec (ws := [Cond.code y_U_tick b_U_tick 9 (some .int)]) B.pre _ List.mem_cons_self)) hown (by decide +kernel) (by decide +kernel) (at_89_U hT hH) (ux_T_at hT tw_571 rfl) (ux_T_at hT tw_19 rfl) (by rw [hml]; exact hl.1) d_U_tick_10 d_U_tick_13 d_U_tick_14 d_U_tick_17 (Nat.le_of_ble_eq_true rfl) (Nat.le_of_ble_eq_true rfl) (Nat.le_of_ble_eq_true rfl) (Nat.le_of_ble_eq_true rfl) (Nat.le_of_ble_eq_true rfl) (Nat.le_of_ble_eq_true rfl) hS hns
  · refine lv_iload_n hx hb d_U_tick_4 rfl (lv_at hl 1 rfl) ?_
    refine lv_ldc (own := "UnikernelHttp") (v := 100000) hx hb hown (ux_T_at hT tw_1387 rfl) d_U_tick_5 ?_
    refine lv_icmp_le (tgt := 18) hx hb d_U_tick_7 (by decide) (fun hc2 => by exfalso; simp only [Int32.lt_iff_toInt_lt, Int32.le_iff_toInt_le, ← Int32.toInt_inj, ux_l0, ux_l100000] at hc2 hc1; omega) (fun _ => ?_)
    exact ux_throwX (own := "UnikernelHttp") (E := "java/lang/IllegalArgumentException") (names := ["java/lang/RuntimeException", "java/lang/Exception"]) (ic := 89) (iN := 87) hx (ux_off hfl B.admits) hb hlocks (B.noHandlers (atoms_spec (ws := [Cond.code y_U_tick b_U_tick 9 (some .int)]) B.pre _ List.mem_cons_self)) hown (by decide +kernel) (by decide +kernel) (at_89_U hT hH) (ux_T_at hT tw_571 rfl) (ux_T_at hT tw_19 rfl) (by rw [hml]; exact hl.1) d_U_tick_10 d_U_tick_13 d_U_tick_14 d_U_tick_17 (Nat.le_of_ble_eq_true rfl) (Nat.le_of_ble_eq_true rfl) (Nat.le_of_ble_eq_true rfl) (Nat.le_of_ble_eq_true rfl) (Nat.le_of_ble_eq_true rfl) (Nat.le_of_ble_eq_true rfl) hS hns
set_option maxHeartbeats 4000000 in
set_option maxRecDepth 100000 in
theorem c_U_size (l : Launch) (hfl : l.flags = flags0) (dC : Nat → ClassId) (dI : Nat → Nat → Nat) (h0 : Nat) (row : Nat) (nb : Nat) (wi : Nat) (ga : Nat) (sg : Nat) (tc : Nat) (st : Nat) (hp : Nat) (ec : Nat) (w1 : Nat) (w2 : Nat) (p0 : Int32) (sz : Nat) : ux_Met l y_U_size [Cond.code y_U_size b_U_size 2 (some .int)] ({ frames := 100, cells := 1, slots := 6, locals := 1500 }) (ux_PcH [.ref h0, .int p0] (dC, dI) cls [(h0, .inr (0, [.ref row, .int 0, .int 0, .ref nb, .ref wi, .ref ga, .ref sg, .ref tc, .ref st, .ref hp, .ref ec, .ref row, .int 0, .int 0])), (wi, .inr (2, [.ref nb, .ref w1, .ref w2, .int 0, .int 0]))] [] sz) (ux_X "java/lang/IndexOutOfBoundsException" (va_A [(h0, .inr (0, [.ref row, .int 0, .int 0, .ref nb, .ref wi, .ref ga, .ref sg, .ref tc, .ref st, .ref hp, .ref ec, .ref row, .int 0, .int 0])), (wi, .inr (2, [.ref nb, .ref w1, .ref w2, .int 0, .int 0]))] sz)) 1 6 (va_A [(h0, .inr (0, [.ref row, .int 0, .int 0, .ref nb, .ref wi, .ref ga, .ref sg, .ref tc, .ref st, .ref hp, .ref ec, .ref row, .int 0, .int 0])), (wi, .inr (2, [.ref nb, .ref w1, .ref w2, .int 0, .int 0]))] sz) := by
  refine ux_ofW (cc := b_U_size) (maxL := 2) (ret := some .int) (by decide) rfl ?_
  intro p e s m args below meth c s₁ B hml hv
  obtain ⟨⟨rfl, hsz, hP, hK, hD0, hT⟩, hH⟩ := hv
  have hx := B.exec
  have hb := B.bytes
  have hr := B.returns
  have hown : s.vm.findClass "UnikernelHttp" = some m.cls := findClass_of_methodNamed B.named
  have hlocks := B.notSynchronized
  subst hsz
  have hD := hD0.self (sz := s.heap.size)
  have hns := ux_ns hP
  generalize hAe : va_A [(h0, .inr (0, [.ref row, .int 0, .int 0, .ref nb, .ref wi, .ref ga, .ref sg, .ref tc, .ref st, .ref hp, .ref ec, .ref row, .int 0, .int 0])), (wi, .inr (2, [.ref nb, .ref w1, .ref w2, .int 0, .int 0]))] s.heap.size = A at hD hns ⊢
  have hA : ∀ q : Nat, s.heap.size ≤ q → A q := fun q h => by rw [← hAe]; exact Or.inr h
  have hS : va_S A s.heap s.heap [] := va_S.rf
  have hl := lv_entry ([.ref h0, .int p0]) (n := 2) (Nat.le_of_ble_eq_true rfl)
  rw [lg_entry_eq]
  generalize (lg_sl ([.ref h0, .int p0]) ++ List.replicate (2 - (lg_sl ([.ref h0, .int p0])).length) Slot.unset).toArray = ls at hl ⊢
  have hl : lv_has ls 2 [(0, .ref h0), (1, .int p0)] := hl
  have hfx : CallFix p m c b_U_size 2 s ([.ref h0, .int p0] : List Value).toArray [] "UnikernelHttp" := ⟨hx, hb, hml, hown, fun _ h => by cases h⟩
  refine lv_aload_n hx hb d_U_size_0 rfl (lv_at hl 0 rfl) ?_
  refine va_get (D := (dC, dI)) (ci := 0) (v := .ref wi) (C := R_U) (T := F_U) (N := 14) hx hb (u_U hT) (fun _ h => h) hown hK hP 0 rfl rfl 4 (by decide) (ux_T_at hT tw_447 rfl) (fun _ h9 => h9) rfl d_U_size_1 ?_
  refine lv_iload_n hx hb d_U_size_4 rfl (lv_at hl 1 rfl) ?_
  have hPc := hP.sub (ws' := [(wi, .inr (2, [.ref nb, .ref w1, .ref w2, .int 0, .int 0]))]) [1] rfl
  have hDc := hD.sub (ws' := [(wi, .inr (2, [.ref nb, .ref w1, .ref w2, .int 0, .int 0]))]) [1] (by decide) rfl
  have hKc := hK.sub (tys' := []) [] rfl
  have hFc := va_free (wc := [(wi, .inr (2, [.ref nb, .ref w1, .ref w2, .int 0, .int 0]))]) hD hS hA [1] rfl
  have hkc : 0 + 0 ≤ 1 := (Nat.le_of_ble_eq_true rfl)
  refine va_calli (va_runVN (As := [.int p0]) (rest := []) hfx (c_Wi_keeps l dC dI wi nb w1 w2 p0 s.heap.size) ⟨(ux_cn 1 hT tw_1434 tw_1431 tw_3 rfl rfl (by decide +kernel) ⟨(Nat.le_of_ble_eq_true rfl), (Nat.le_of_ble_eq_true rfl)⟩), (ux_T_at hT tw_1433 rfl), (ux_T_at hT (ux_tp (q := (⟨"UnikernelHttp$Wire", "keeps", "(I)Z"⟩, 5)) (by decide +kernel)) rfl)⟩ (ux_preV (r := (R_Wi, F_Wi, 5)) (ci := 2) (q0 := 0) [.int p0] hT hPc hKc hDc rfl rfl) rfl rfl hl.1 rfl (lv_room (Nat.le_of_ble_eq_true rfl)) d_U_size_5 ⟨(Nat.le_of_ble_eq_true rfl), (Nat.le_of_ble_eq_true rfl)⟩) hS (fun q _ h => hFc q h) hFc (fun r1 u t H1 locs ht hvm hw hB hz1 hk1 hS => ?_)
  obtain ⟨hP1, hK1, hD1⟩ := hB
  rw [ht] at hP1
  have hK1 := va_K.moved hvm.symm hK1
  obtain ⟨hP, hD⟩ := va_join (wr := [(h0, .inr (0, [.ref row, .int 0, .int 0, .ref nb, .ref wi, .ref ga, .ref sg, .ref tc, .ref st, .ref hp, .ref ec, .ref row, .int 0, .int 0]))]) (w1 := [(wi, .inr (2, [.ref nb, .ref w1, .ref w2, .int 0, .int 0]))]) hP hD [1] [0] rfl rfl (by decide) (by decide) hk1 hFc hP1 hD1
  have hK := (hK.sub (tys' := []) [] rfl).app hK1
  generalize H1 = H at hP hS ⊢
  have hP : va_P (dC, dI) cls [(h0, .inr (0, [.ref row, .int 0, .int 0, .ref nb, .ref wi, .ref ga, .ref sg, .ref tc, .ref st, .ref hp, .ref ec, .ref row, .int 0, .int 0])), (wi, .inr (2, [.ref nb, .ref w1, .ref w2, .int 0, .int 0]))] H := hP
  have hD : va_D A [(h0, .inr (0, [.ref row, .int 0, .int 0, .ref nb, .ref wi, .ref ga, .ref sg, .ref tc, .ref st, .ref hp, .ref ec, .ref row, .int 0, .int 0])), (wi, .inr (2, [.ref nb, .ref w1, .ref w2, .int 0, .int 0]))] := hD
  have hK : va_K (dC, dI) cls [] s := hK
  obtain rfl : r1 = 0 := hw
  refine lv_if_ne (tgt := 19) hx hb d_U_size_8 (by decide) (fun hc => absurd (by decide) hc) (fun _ => ?_)
  exact ux_throwX (own := "UnikernelHttp") (E := "java/lang/IndexOutOfBoundsException") (names := ["java/lang/RuntimeException", "java/lang/Exception"]) (ic := 137) (iN := 135) hx (ux_off hfl B.admits) hb hlocks (B.noHandlers (atoms_spec (ws := [Cond.code y_U_size b_U_size 2 (some .int)]) B.pre _ List.mem_cons_self)) hown (by decide +kernel) (by decide +kernel) (at_137_U hT hH) (ux_T_at hT tw_1365 rfl) (ux_T_at hT tw_31 rfl) (by rw [hml]; exact hl.1) d_U_size_11 d_U_size_14 d_U_size_15 d_U_size_18 (Nat.le_of_ble_eq_true rfl) (Nat.le_of_ble_eq_true rfl) (Nat.le_of_ble_eq_true rfl) (Nat.le_of_ble_eq_true rfl) (Nat.le_of_ble_eq_true rfl) (Nat.le_of_ble_eq_true rfl) hS hns
set_option maxHeartbeats 4000000 in
set_option maxRecDepth 100000 in
theorem c_U_bytes (l : Launch) (hfl : l.flags = flags0) (dC : Nat → ClassId) (dI : Nat → Nat → Nat) (h0 : Nat) (row : Nat) (nb : Nat) (wi : Nat) (ga : Nat) (sg : Nat) (tc : Nat) (st : Nat) (hp : Nat) (ec : Nat) (w1 : Nat) (w2 : Nat) (p0 : Int32) (p1 : Int32) (sz : Nat) : ux_Met l y_U_bytes [Cond.code y_U_bytes b_U_bytes 3 (some .long)] ({ frames := 100, cells := 1, slots := 6, locals := 1500 }) (ux_PcH [.ref h0, .int p0, .int p1] (dC, dI) cls [(h0, .inr (0, [.ref row, .int 0, .int 0, .ref nb, .ref wi, .ref ga, .ref sg, .ref tc, .ref st, .ref hp, .ref ec, .ref row, .int 0, .int 0])), (wi, .inr (2, [.ref nb, .ref w1, .ref w2, .int 0, .int 0]))] [] sz) (ux_X "java/lang/IndexOutOfBoundsException" (va_A [(h0, .inr (0, [.ref row, .int 0, .int 0, .ref nb, .ref wi, .ref ga, .ref sg, .ref tc, .ref st, .ref hp, .ref ec, .ref row, .int 0, .int 0])), (wi, .inr (2, [.ref nb, .ref w1, .ref w2, .int 0, .int 0]))] sz)) 1 6 (va_A [(h0, .inr (0, [.ref row, .int 0, .int 0, .ref nb, .ref wi, .ref ga, .ref sg, .ref tc, .ref st, .ref hp, .ref ec, .ref row, .int 0, .int 0])), (wi, .inr (2, [.ref nb, .ref w1, .ref w2, .int 0, .int 0]))] sz) := by
  refine ux_ofW (cc := b_U_bytes) (maxL := 3) (ret := some .long) (by decide) rfl ?_
  intro p e s m args below meth c s₁ B hml hv
  obtain ⟨⟨rfl, hsz, hP, hK, hD0, hT⟩, hH⟩ := hv
  have hx := B.exec
  have hb := B.bytes
  have hr := B.returns
  have hown : s.vm.findClass "UnikernelHttp" = some m.cls := findClass_of_methodNamed B.named
  have hlocks := B.notSynchronized
  subst hsz
  have hD := hD0.self (sz := s.heap.size)
  have hns := ux_ns hP
  generalize hAe : va_A [(h0, .inr (0, [.ref row, .int 0, .int 0, .ref nb, .ref wi, .ref ga, .ref sg, .ref tc, .ref st, .ref hp, .ref ec, .ref row, .int 0, .int 0])), (wi, .inr (2, [.ref nb, .ref w1, .ref w2, .int 0, .int 0]))] s.heap.size = A at hD hns ⊢
  have hA : ∀ q : Nat, s.heap.size ≤ q → A q := fun q h => by rw [← hAe]; exact Or.inr h
  have hS : va_S A s.heap s.heap [] := va_S.rf
  have hl := lv_entry ([.ref h0, .int p0, .int p1]) (n := 3) (Nat.le_of_ble_eq_true rfl)
  rw [lg_entry_eq]
  generalize (lg_sl ([.ref h0, .int p0, .int p1]) ++ List.replicate (3 - (lg_sl ([.ref h0, .int p0, .int p1])).length) Slot.unset).toArray = ls at hl ⊢
  have hl : lv_has ls 3 [(0, .ref h0), (1, .int p0), (2, .int p1)] := hl
  have hfx : CallFix p m c b_U_bytes 3 s ([.ref h0, .int p0, .int p1] : List Value).toArray [] "UnikernelHttp" := ⟨hx, hb, hml, hown, fun _ h => by cases h⟩
  refine lv_aload_n hx hb d_U_bytes_0 rfl (lv_at hl 0 rfl) ?_
  refine va_get (D := (dC, dI)) (ci := 0) (v := .ref wi) (C := R_U) (T := F_U) (N := 14) hx hb (u_U hT) (fun _ h => h) hown hK hP 0 rfl rfl 4 (by decide) (ux_T_at hT tw_447 rfl) (fun _ h9 => h9) rfl d_U_bytes_1 ?_
  refine lv_iload_n hx hb d_U_bytes_4 rfl (lv_at hl 1 rfl) ?_
  have hPc := hP.sub (ws' := [(wi, .inr (2, [.ref nb, .ref w1, .ref w2, .int 0, .int 0]))]) [1] rfl
  have hDc := hD.sub (ws' := [(wi, .inr (2, [.ref nb, .ref w1, .ref w2, .int 0, .int 0]))]) [1] (by decide) rfl
  have hKc := hK.sub (tys' := []) [] rfl
  have hFc := va_free (wc := [(wi, .inr (2, [.ref nb, .ref w1, .ref w2, .int 0, .int 0]))]) hD hS hA [1] rfl
  have hkc : 0 + 0 ≤ 1 := (Nat.le_of_ble_eq_true rfl)
  refine va_calli (va_runVN (As := [.int p0]) (rest := []) hfx (c_Wi_keeps l dC dI wi nb w1 w2 p0 s.heap.size) ⟨(ux_cn 1 hT tw_1434 tw_1431 tw_3 rfl rfl (by decide +kernel) ⟨(Nat.le_of_ble_eq_true rfl), (Nat.le_of_ble_eq_true rfl)⟩), (ux_T_at hT tw_1433 rfl), (ux_T_at hT (ux_tp (q := (⟨"UnikernelHttp$Wire", "keeps", "(I)Z"⟩, 5)) (by decide +kernel)) rfl)⟩ (ux_preV (r := (R_Wi, F_Wi, 5)) (ci := 2) (q0 := 0) [.int p0] hT hPc hKc hDc rfl rfl) rfl rfl hl.1 rfl (lv_room (Nat.le_of_ble_eq_true rfl)) d_U_bytes_5 ⟨(Nat.le_of_ble_eq_true rfl), (Nat.le_of_ble_eq_true rfl)⟩) hS (fun q _ h => hFc q h) hFc (fun r1 u t H1 locs ht hvm hw hB hz1 hk1 hS => ?_)
  obtain ⟨hP1, hK1, hD1⟩ := hB
  rw [ht] at hP1
  have hK1 := va_K.moved hvm.symm hK1
  obtain ⟨hP, hD⟩ := va_join (wr := [(h0, .inr (0, [.ref row, .int 0, .int 0, .ref nb, .ref wi, .ref ga, .ref sg, .ref tc, .ref st, .ref hp, .ref ec, .ref row, .int 0, .int 0]))]) (w1 := [(wi, .inr (2, [.ref nb, .ref w1, .ref w2, .int 0, .int 0]))]) hP hD [1] [0] rfl rfl (by decide) (by decide) hk1 hFc hP1 hD1
  have hK := (hK.sub (tys' := []) [] rfl).app hK1
  generalize H1 = H at hP hS ⊢
  have hP : va_P (dC, dI) cls [(h0, .inr (0, [.ref row, .int 0, .int 0, .ref nb, .ref wi, .ref ga, .ref sg, .ref tc, .ref st, .ref hp, .ref ec, .ref row, .int 0, .int 0])), (wi, .inr (2, [.ref nb, .ref w1, .ref w2, .int 0, .int 0]))] H := hP
  have hD : va_D A [(h0, .inr (0, [.ref row, .int 0, .int 0, .ref nb, .ref wi, .ref ga, .ref sg, .ref tc, .ref st, .ref hp, .ref ec, .ref row, .int 0, .int 0])), (wi, .inr (2, [.ref nb, .ref w1, .ref w2, .int 0, .int 0]))] := hD
  have hK : va_K (dC, dI) cls [] s := hK
  obtain rfl : r1 = 0 := hw
  refine lv_if_eq (tgt := 22) hx hb d_U_bytes_8 (by decide) (fun _ => ?_) (fun hc => absurd (by decide) hc)
  exact ux_throwX (own := "UnikernelHttp") (E := "java/lang/IndexOutOfBoundsException") (names := ["java/lang/RuntimeException", "java/lang/Exception"]) (ic := 137) (iN := 135) hx (ux_off hfl B.admits) hb hlocks (B.noHandlers (atoms_spec (ws := [Cond.code y_U_bytes b_U_bytes 3 (some .long)]) B.pre _ List.mem_cons_self)) hown (by decide +kernel) (by decide +kernel) (at_137_U hT hH) (ux_T_at hT tw_1365 rfl) (ux_T_at hT tw_31 rfl) (by rw [hml]; exact hl.1) d_U_bytes_22 d_U_bytes_25 d_U_bytes_26 d_U_bytes_29 (Nat.le_of_ble_eq_true rfl) (Nat.le_of_ble_eq_true rfl) (Nat.le_of_ble_eq_true rfl) (Nat.le_of_ble_eq_true rfl) (Nat.le_of_ble_eq_true rfl) (Nat.le_of_ble_eq_true rfl) hS hns
set_option maxHeartbeats 4000000 in
set_option maxRecDepth 100000 in
theorem c_U_count_0 (l : Launch) (dC : Nat → ClassId) (dI : Nat → Nat → Nat) (h0 : Nat) (row : Nat) (nb : Nat) (wi : Nat) (ga : Nat) (sg : Nat) (tc : Nat) (st : Nat) (hp : Nat) (ec : Nat) (w1 : Nat) (w2 : Nat) (t1 : Nat) (t2 : Nat) (n1 : Nat) (n2 : Nat) (n3 : Nat) (g1 : Nat) (s1 : Nat) (s2 : Nat) (s3 : Nat) (s4 : Nat) (s5 : Nat) (sz : Nat) : Met l y_U_count [Cond.code y_U_count b_U_count 2 (some .int)] ({ frames := 100, cells := 0, slots := 0, locals := 1500 }) (ux_Pc [.ref h0, .int 0] (dC, dI) cls [(h0, .inr (0, [.ref row, .int 0, .int 0, .ref nb, .ref wi, .ref ga, .ref sg, .ref tc, .ref st, .ref hp, .ref ec, .ref row, .int 0, .int 0])), (wi, .inr (2, [.ref nb, .ref w1, .ref w2, .int 0, .int 0])), (tc, .inr (6, [.ref t1, .ref t2, .ref wi, .int 0, .int 0])), (nb, .inr (1, [.ref n1, .ref n2, .ref n3, .int 0, .int 0])), (ga, .inr (3, [.ref g1, .int 0])), (st, .inr (10, [.ref s1, .ref s2, .ref s3, .ref s4, .ref s5, .int 0]))] [] sz) (va_Qi (fun (r : Int32) (_ : Unit) => r = 0) (fun (_ : Unit) (t : State) => ux_B (dC, dI) cls (va_A [(h0, .inr (0, [.ref row, .int 0, .int 0, .ref nb, .ref wi, .ref ga, .ref sg, .ref tc, .ref st, .ref hp, .ref ec, .ref row, .int 0, .int 0])), (wi, .inr (2, [.ref nb, .ref w1, .ref w2, .int 0, .int 0])), (tc, .inr (6, [.ref t1, .ref t2, .ref wi, .int 0, .int 0])), (nb, .inr (1, [.ref n1, .ref n2, .ref n3, .int 0, .int 0])), (ga, .inr (3, [.ref g1, .int 0])), (st, .inr (10, [.ref s1, .ref s2, .ref s3, .ref s4, .ref s5, .int 0]))] sz) [] [] t) (va_A [(h0, .inr (0, [.ref row, .int 0, .int 0, .ref nb, .ref wi, .ref ga, .ref sg, .ref tc, .ref st, .ref hp, .ref ec, .ref row, .int 0, .int 0])), (wi, .inr (2, [.ref nb, .ref w1, .ref w2, .int 0, .int 0])), (tc, .inr (6, [.ref t1, .ref t2, .ref wi, .int 0, .int 0])), (nb, .inr (1, [.ref n1, .ref n2, .ref n3, .int 0, .int 0])), (ga, .inr (3, [.ref g1, .int 0])), (st, .inr (10, [.ref s1, .ref s2, .ref s3, .ref s4, .ref s5, .int 0]))] sz)) 0 0 (va_A [(h0, .inr (0, [.ref row, .int 0, .int 0, .ref nb, .ref wi, .ref ga, .ref sg, .ref tc, .ref st, .ref hp, .ref ec, .ref row, .int 0, .int 0])), (wi, .inr (2, [.ref nb, .ref w1, .ref w2, .int 0, .int 0])), (tc, .inr (6, [.ref t1, .ref t2, .ref wi, .int 0, .int 0])), (nb, .inr (1, [.ref n1, .ref n2, .ref n3, .int 0, .int 0])), (ga, .inr (3, [.ref g1, .int 0])), (st, .inr (10, [.ref s1, .ref s2, .ref s3, .ref s4, .ref s5, .int 0]))] sz) := by
  refine Met.ofW (cc := b_U_count) (maxL := 2) (ret := some .int) (by decide) rfl ?_
  intro p e s m args below meth c s₁ B hml hv
  obtain ⟨rfl, hsz, hP, hK, hD0, hT⟩ := hv
  have hx := B.exec
  have hb := B.bytes
  have hr := B.returns
  have hown : s.vm.findClass "UnikernelHttp" = some m.cls := findClass_of_methodNamed B.named
  have hlocks := B.notSynchronized
  subst hsz
  have hD := hD0.self (sz := s.heap.size)
  have hns := ux_ns hP
  generalize hAe : va_A [(h0, .inr (0, [.ref row, .int 0, .int 0, .ref nb, .ref wi, .ref ga, .ref sg, .ref tc, .ref st, .ref hp, .ref ec, .ref row, .int 0, .int 0])), (wi, .inr (2, [.ref nb, .ref w1, .ref w2, .int 0, .int 0])), (tc, .inr (6, [.ref t1, .ref t2, .ref wi, .int 0, .int 0])), (nb, .inr (1, [.ref n1, .ref n2, .ref n3, .int 0, .int 0])), (ga, .inr (3, [.ref g1, .int 0])), (st, .inr (10, [.ref s1, .ref s2, .ref s3, .ref s4, .ref s5, .int 0]))] s.heap.size = A at hD hns ⊢
  have hA : ∀ q : Nat, s.heap.size ≤ q → A q := fun q h => by rw [← hAe]; exact Or.inr h
  have hS : va_S A s.heap s.heap [] := va_S.rf
  have hl := lv_entry ([.ref h0, .int 0]) (n := 2) (Nat.le_of_ble_eq_true rfl)
  rw [lg_entry_eq]
  generalize (lg_sl ([.ref h0, .int 0]) ++ List.replicate (2 - (lg_sl ([.ref h0, .int 0])).length) Slot.unset).toArray = ls at hl ⊢
  have hl : lv_has ls 2 [(0, .ref h0), (1, .int 0)] := hl
  have hfx : CallFix p m c b_U_count 2 s ([.ref h0, .int 0] : List Value).toArray [] "UnikernelHttp" := ⟨hx, hb, hml, hown, fun _ h => by cases h⟩
  refine lv_iload_n hx hb d_U_count_0 rfl (lv_at hl 1 rfl) ?_
  refine lv_tableIn (tgt := 48) hx hb d_U_count_1 (by decide) (by decide) rfl (by decide) ?_
  refine lv_aload_n hx hb d_U_count_48 rfl (lv_at hl 0 rfl) ?_
  refine va_get (D := (dC, dI)) (ci := 0) (v := .ref wi) (C := R_U) (T := F_U) (N := 14) hx hb (u_U hT) (fun _ h => h) hown hK hP 0 rfl rfl 4 (by decide) (ux_T_at hT tw_447 rfl) (fun _ h9 => h9) rfl d_U_count_49 ?_
  refine va_getN (D := (dC, dI)) (ci := 2) (v := .int 0) (C := R_Wi) (T := F_Wi) (N := 5) hx hb (u_Wi hT) (fun _ h => h) hown hK hP 1 rfl rfl 3 (by decide) (ux_T_at hT tw_81 rfl) (fun _ h9 => h9) rfl d_U_count_52 ?_
  have hP9 := hP.sub (ws' := []) [] rfl
  have hD9 := hD.sub (ws' := []) [] (by decide) rfl
  have hK9 := hK.sub (tys' := []) [] rfl
  refine W.widen (k := 0) (n := 0) (Nat.le_of_ble_eq_true rfl) (Nat.le_of_ble_eq_true rfl) ?_
  exact W.iret (v := 0) hx hb hr (fun t ht hW => ⟨⟨_, (), rfl, rfl, by rw [ht]; exact hP9, va_K.moved hW.alike hK9, hD9⟩, hS.F ht⟩) hS.2.2 d_U_count_55
set_option maxHeartbeats 4000000 in
set_option maxRecDepth 100000 in
theorem c_U_count_1 (l : Launch) (dC : Nat → ClassId) (dI : Nat → Nat → Nat) (h0 : Nat) (row : Nat) (nb : Nat) (wi : Nat) (ga : Nat) (sg : Nat) (tc : Nat) (st : Nat) (hp : Nat) (ec : Nat) (w1 : Nat) (w2 : Nat) (t1 : Nat) (t2 : Nat) (n1 : Nat) (n2 : Nat) (n3 : Nat) (g1 : Nat) (s1 : Nat) (s2 : Nat) (s3 : Nat) (s4 : Nat) (s5 : Nat) (sz : Nat) : Met l y_U_count [Cond.code y_U_count b_U_count 2 (some .int)] ({ frames := 100, cells := 0, slots := 0, locals := 1500 }) (ux_Pc [.ref h0, .int 1] (dC, dI) cls [(h0, .inr (0, [.ref row, .int 0, .int 0, .ref nb, .ref wi, .ref ga, .ref sg, .ref tc, .ref st, .ref hp, .ref ec, .ref row, .int 0, .int 0])), (wi, .inr (2, [.ref nb, .ref w1, .ref w2, .int 0, .int 0])), (tc, .inr (6, [.ref t1, .ref t2, .ref wi, .int 0, .int 0])), (nb, .inr (1, [.ref n1, .ref n2, .ref n3, .int 0, .int 0])), (ga, .inr (3, [.ref g1, .int 0])), (st, .inr (10, [.ref s1, .ref s2, .ref s3, .ref s4, .ref s5, .int 0]))] [] sz) (va_Qi (fun (r : Int32) (_ : Unit) => r = 0) (fun (_ : Unit) (t : State) => ux_B (dC, dI) cls (va_A [(h0, .inr (0, [.ref row, .int 0, .int 0, .ref nb, .ref wi, .ref ga, .ref sg, .ref tc, .ref st, .ref hp, .ref ec, .ref row, .int 0, .int 0])), (wi, .inr (2, [.ref nb, .ref w1, .ref w2, .int 0, .int 0])), (tc, .inr (6, [.ref t1, .ref t2, .ref wi, .int 0, .int 0])), (nb, .inr (1, [.ref n1, .ref n2, .ref n3, .int 0, .int 0])), (ga, .inr (3, [.ref g1, .int 0])), (st, .inr (10, [.ref s1, .ref s2, .ref s3, .ref s4, .ref s5, .int 0]))] sz) [] [] t) (va_A [(h0, .inr (0, [.ref row, .int 0, .int 0, .ref nb, .ref wi, .ref ga, .ref sg, .ref tc, .ref st, .ref hp, .ref ec, .ref row, .int 0, .int 0])), (wi, .inr (2, [.ref nb, .ref w1, .ref w2, .int 0, .int 0])), (tc, .inr (6, [.ref t1, .ref t2, .ref wi, .int 0, .int 0])), (nb, .inr (1, [.ref n1, .ref n2, .ref n3, .int 0, .int 0])), (ga, .inr (3, [.ref g1, .int 0])), (st, .inr (10, [.ref s1, .ref s2, .ref s3, .ref s4, .ref s5, .int 0]))] sz)) 0 0 (va_A [(h0, .inr (0, [.ref row, .int 0, .int 0, .ref nb, .ref wi, .ref ga, .ref sg, .ref tc, .ref st, .ref hp, .ref ec, .ref row, .int 0, .int 0])), (wi, .inr (2, [.ref nb, .ref w1, .ref w2, .int 0, .int 0])), (tc, .inr (6, [.ref t1, .ref t2, .ref wi, .int 0, .int 0])), (nb, .inr (1, [.ref n1, .ref n2, .ref n3, .int 0, .int 0])), (ga, .inr (3, [.ref g1, .int 0])), (st, .inr (10, [.ref s1, .ref s2, .ref s3, .ref s4, .ref s5, .int 0]))] sz) := by
  refine Met.ofW (cc := b_U_count) (maxL := 2) (ret := some .int) (by decide) rfl ?_
  intro p e s m args below meth c s₁ B hml hv
  obtain ⟨rfl, hsz, hP, hK, hD0, hT⟩ := hv
  have hx := B.exec
  have hb := B.bytes
  have hr := B.returns
  have hown : s.vm.findClass "UnikernelHttp" = some m.cls := findClass_of_methodNamed B.named
  have hlocks := B.notSynchronized
  subst hsz
  have hD := hD0.self (sz := s.heap.size)
  have hns := ux_ns hP
  generalize hAe : va_A [(h0, .inr (0, [.ref row, .int 0, .int 0, .ref nb, .ref wi, .ref ga, .ref sg, .ref tc, .ref st, .ref hp, .ref ec, .ref row, .int 0, .int 0])), (wi, .inr (2, [.ref nb, .ref w1, .ref w2, .int 0, .int 0])), (tc, .inr (6, [.ref t1, .ref t2, .ref wi, .int 0, .int 0])), (nb, .inr (1, [.ref n1, .ref n2, .ref n3, .int 0, .int 0])), (ga, .inr (3, [.ref g1, .int 0])), (st, .inr (10, [.ref s1, .ref s2, .ref s3, .ref s4, .ref s5, .int 0]))] s.heap.size = A at hD hns ⊢
  have hA : ∀ q : Nat, s.heap.size ≤ q → A q := fun q h => by rw [← hAe]; exact Or.inr h
  have hS : va_S A s.heap s.heap [] := va_S.rf
  have hl := lv_entry ([.ref h0, .int 1]) (n := 2) (Nat.le_of_ble_eq_true rfl)
  rw [lg_entry_eq]
  generalize (lg_sl ([.ref h0, .int 1]) ++ List.replicate (2 - (lg_sl ([.ref h0, .int 1])).length) Slot.unset).toArray = ls at hl ⊢
  have hl : lv_has ls 2 [(0, .ref h0), (1, .int 1)] := hl
  have hfx : CallFix p m c b_U_count 2 s ([.ref h0, .int 1] : List Value).toArray [] "UnikernelHttp" := ⟨hx, hb, hml, hown, fun _ h => by cases h⟩
  refine lv_iload_n hx hb d_U_count_0 rfl (lv_at hl 1 rfl) ?_
  refine lv_tableIn (tgt := 56) hx hb d_U_count_1 (by decide) (by decide) rfl (by decide) ?_
  refine lv_aload_n hx hb d_U_count_56 rfl (lv_at hl 0 rfl) ?_
  refine va_get (D := (dC, dI)) (ci := 0) (v := .int 0) (C := R_U) (T := F_U) (N := 14) hx hb (u_U hT) (fun _ h => h) hown hK hP 0 rfl rfl 2 (by decide) (ux_T_at hT tw_445 rfl) (fun _ h9 => h9) rfl d_U_count_57 ?_
  have hP9 := hP.sub (ws' := []) [] rfl
  have hD9 := hD.sub (ws' := []) [] (by decide) rfl
  have hK9 := hK.sub (tys' := []) [] rfl
  refine W.widen (k := 0) (n := 0) (Nat.le_of_ble_eq_true rfl) (Nat.le_of_ble_eq_true rfl) ?_
  exact W.iret (v := 0) hx hb hr (fun t ht hW => ⟨⟨_, (), rfl, rfl, by rw [ht]; exact hP9, va_K.moved hW.alike hK9, hD9⟩, hS.F ht⟩) hS.2.2 d_U_count_60
set_option maxHeartbeats 4000000 in
set_option maxRecDepth 100000 in
theorem c_U_count_2 (l : Launch) (dC : Nat → ClassId) (dI : Nat → Nat → Nat) (h0 : Nat) (row : Nat) (nb : Nat) (wi : Nat) (ga : Nat) (sg : Nat) (tc : Nat) (st : Nat) (hp : Nat) (ec : Nat) (w1 : Nat) (w2 : Nat) (t1 : Nat) (t2 : Nat) (n1 : Nat) (n2 : Nat) (n3 : Nat) (g1 : Nat) (s1 : Nat) (s2 : Nat) (s3 : Nat) (s4 : Nat) (s5 : Nat) (sz : Nat) : Met l y_U_count [Cond.code y_U_count b_U_count 2 (some .int)] ({ frames := 100, cells := 0, slots := 0, locals := 1500 }) (ux_Pc [.ref h0, .int 2] (dC, dI) cls [(h0, .inr (0, [.ref row, .int 0, .int 0, .ref nb, .ref wi, .ref ga, .ref sg, .ref tc, .ref st, .ref hp, .ref ec, .ref row, .int 0, .int 0])), (wi, .inr (2, [.ref nb, .ref w1, .ref w2, .int 0, .int 0])), (tc, .inr (6, [.ref t1, .ref t2, .ref wi, .int 0, .int 0])), (nb, .inr (1, [.ref n1, .ref n2, .ref n3, .int 0, .int 0])), (ga, .inr (3, [.ref g1, .int 0])), (st, .inr (10, [.ref s1, .ref s2, .ref s3, .ref s4, .ref s5, .int 0]))] [] sz) (va_Qi (fun (r : Int32) (_ : Unit) => r = 0) (fun (_ : Unit) (t : State) => ux_B (dC, dI) cls (va_A [(h0, .inr (0, [.ref row, .int 0, .int 0, .ref nb, .ref wi, .ref ga, .ref sg, .ref tc, .ref st, .ref hp, .ref ec, .ref row, .int 0, .int 0])), (wi, .inr (2, [.ref nb, .ref w1, .ref w2, .int 0, .int 0])), (tc, .inr (6, [.ref t1, .ref t2, .ref wi, .int 0, .int 0])), (nb, .inr (1, [.ref n1, .ref n2, .ref n3, .int 0, .int 0])), (ga, .inr (3, [.ref g1, .int 0])), (st, .inr (10, [.ref s1, .ref s2, .ref s3, .ref s4, .ref s5, .int 0]))] sz) [] [] t) (va_A [(h0, .inr (0, [.ref row, .int 0, .int 0, .ref nb, .ref wi, .ref ga, .ref sg, .ref tc, .ref st, .ref hp, .ref ec, .ref row, .int 0, .int 0])), (wi, .inr (2, [.ref nb, .ref w1, .ref w2, .int 0, .int 0])), (tc, .inr (6, [.ref t1, .ref t2, .ref wi, .int 0, .int 0])), (nb, .inr (1, [.ref n1, .ref n2, .ref n3, .int 0, .int 0])), (ga, .inr (3, [.ref g1, .int 0])), (st, .inr (10, [.ref s1, .ref s2, .ref s3, .ref s4, .ref s5, .int 0]))] sz)) 0 0 (va_A [(h0, .inr (0, [.ref row, .int 0, .int 0, .ref nb, .ref wi, .ref ga, .ref sg, .ref tc, .ref st, .ref hp, .ref ec, .ref row, .int 0, .int 0])), (wi, .inr (2, [.ref nb, .ref w1, .ref w2, .int 0, .int 0])), (tc, .inr (6, [.ref t1, .ref t2, .ref wi, .int 0, .int 0])), (nb, .inr (1, [.ref n1, .ref n2, .ref n3, .int 0, .int 0])), (ga, .inr (3, [.ref g1, .int 0])), (st, .inr (10, [.ref s1, .ref s2, .ref s3, .ref s4, .ref s5, .int 0]))] sz) := by
  refine Met.ofW (cc := b_U_count) (maxL := 2) (ret := some .int) (by decide) rfl ?_
  intro p e s m args below meth c s₁ B hml hv
  obtain ⟨rfl, hsz, hP, hK, hD0, hT⟩ := hv
  have hx := B.exec
  have hb := B.bytes
  have hr := B.returns
  have hown : s.vm.findClass "UnikernelHttp" = some m.cls := findClass_of_methodNamed B.named
  have hlocks := B.notSynchronized
  subst hsz
  have hD := hD0.self (sz := s.heap.size)
  have hns := ux_ns hP
  generalize hAe : va_A [(h0, .inr (0, [.ref row, .int 0, .int 0, .ref nb, .ref wi, .ref ga, .ref sg, .ref tc, .ref st, .ref hp, .ref ec, .ref row, .int 0, .int 0])), (wi, .inr (2, [.ref nb, .ref w1, .ref w2, .int 0, .int 0])), (tc, .inr (6, [.ref t1, .ref t2, .ref wi, .int 0, .int 0])), (nb, .inr (1, [.ref n1, .ref n2, .ref n3, .int 0, .int 0])), (ga, .inr (3, [.ref g1, .int 0])), (st, .inr (10, [.ref s1, .ref s2, .ref s3, .ref s4, .ref s5, .int 0]))] s.heap.size = A at hD hns ⊢
  have hA : ∀ q : Nat, s.heap.size ≤ q → A q := fun q h => by rw [← hAe]; exact Or.inr h
  have hS : va_S A s.heap s.heap [] := va_S.rf
  have hl := lv_entry ([.ref h0, .int 2]) (n := 2) (Nat.le_of_ble_eq_true rfl)
  rw [lg_entry_eq]
  generalize (lg_sl ([.ref h0, .int 2]) ++ List.replicate (2 - (lg_sl ([.ref h0, .int 2])).length) Slot.unset).toArray = ls at hl ⊢
  have hl : lv_has ls 2 [(0, .ref h0), (1, .int 2)] := hl
  have hfx : CallFix p m c b_U_count 2 s ([.ref h0, .int 2] : List Value).toArray [] "UnikernelHttp" := ⟨hx, hb, hml, hown, fun _ h => by cases h⟩
  refine lv_iload_n hx hb d_U_count_0 rfl (lv_at hl 1 rfl) ?_
  refine lv_tableIn (tgt := 61) hx hb d_U_count_1 (by decide) (by decide) rfl (by decide) ?_
  refine lv_aload_n hx hb d_U_count_61 rfl (lv_at hl 0 rfl) ?_
  refine va_get (D := (dC, dI)) (ci := 0) (v := .ref tc) (C := R_U) (T := F_U) (N := 14) hx hb (u_U hT) (fun _ h => h) hown hK hP 0 rfl rfl 7 (by decide) (ux_T_at hT tw_450 rfl) (fun _ h9 => h9) rfl d_U_count_62 ?_
  refine va_getN (D := (dC, dI)) (ci := 6) (v := .int 0) (C := R_Tc) (T := F_Tc) (N := 5) hx hb (u_Tc hT) (fun _ h => h) hown hK hP 2 rfl rfl 3 (by decide) (ux_T_at hT tw_374 rfl) (fun _ h9 => h9) rfl d_U_count_65 ?_
  have hP9 := hP.sub (ws' := []) [] rfl
  have hD9 := hD.sub (ws' := []) [] (by decide) rfl
  have hK9 := hK.sub (tys' := []) [] rfl
  refine W.widen (k := 0) (n := 0) (Nat.le_of_ble_eq_true rfl) (Nat.le_of_ble_eq_true rfl) ?_
  exact W.iret (v := 0) hx hb hr (fun t ht hW => ⟨⟨_, (), rfl, rfl, by rw [ht]; exact hP9, va_K.moved hW.alike hK9, hD9⟩, hS.F ht⟩) hS.2.2 d_U_count_68
set_option maxHeartbeats 4000000 in
set_option maxRecDepth 100000 in
theorem c_U_count_3 (l : Launch) (dC : Nat → ClassId) (dI : Nat → Nat → Nat) (h0 : Nat) (row : Nat) (nb : Nat) (wi : Nat) (ga : Nat) (sg : Nat) (tc : Nat) (st : Nat) (hp : Nat) (ec : Nat) (w1 : Nat) (w2 : Nat) (t1 : Nat) (t2 : Nat) (n1 : Nat) (n2 : Nat) (n3 : Nat) (g1 : Nat) (s1 : Nat) (s2 : Nat) (s3 : Nat) (s4 : Nat) (s5 : Nat) (sz : Nat) : Met l y_U_count [Cond.code y_U_count b_U_count 2 (some .int)] ({ frames := 100, cells := 0, slots := 0, locals := 1500 }) (ux_Pc [.ref h0, .int 3] (dC, dI) cls [(h0, .inr (0, [.ref row, .int 0, .int 0, .ref nb, .ref wi, .ref ga, .ref sg, .ref tc, .ref st, .ref hp, .ref ec, .ref row, .int 0, .int 0])), (wi, .inr (2, [.ref nb, .ref w1, .ref w2, .int 0, .int 0])), (tc, .inr (6, [.ref t1, .ref t2, .ref wi, .int 0, .int 0])), (nb, .inr (1, [.ref n1, .ref n2, .ref n3, .int 0, .int 0])), (ga, .inr (3, [.ref g1, .int 0])), (st, .inr (10, [.ref s1, .ref s2, .ref s3, .ref s4, .ref s5, .int 0]))] [] sz) (va_Qi (fun (r : Int32) (_ : Unit) => r = 0) (fun (_ : Unit) (t : State) => ux_B (dC, dI) cls (va_A [(h0, .inr (0, [.ref row, .int 0, .int 0, .ref nb, .ref wi, .ref ga, .ref sg, .ref tc, .ref st, .ref hp, .ref ec, .ref row, .int 0, .int 0])), (wi, .inr (2, [.ref nb, .ref w1, .ref w2, .int 0, .int 0])), (tc, .inr (6, [.ref t1, .ref t2, .ref wi, .int 0, .int 0])), (nb, .inr (1, [.ref n1, .ref n2, .ref n3, .int 0, .int 0])), (ga, .inr (3, [.ref g1, .int 0])), (st, .inr (10, [.ref s1, .ref s2, .ref s3, .ref s4, .ref s5, .int 0]))] sz) [] [] t) (va_A [(h0, .inr (0, [.ref row, .int 0, .int 0, .ref nb, .ref wi, .ref ga, .ref sg, .ref tc, .ref st, .ref hp, .ref ec, .ref row, .int 0, .int 0])), (wi, .inr (2, [.ref nb, .ref w1, .ref w2, .int 0, .int 0])), (tc, .inr (6, [.ref t1, .ref t2, .ref wi, .int 0, .int 0])), (nb, .inr (1, [.ref n1, .ref n2, .ref n3, .int 0, .int 0])), (ga, .inr (3, [.ref g1, .int 0])), (st, .inr (10, [.ref s1, .ref s2, .ref s3, .ref s4, .ref s5, .int 0]))] sz)) 0 0 (va_A [(h0, .inr (0, [.ref row, .int 0, .int 0, .ref nb, .ref wi, .ref ga, .ref sg, .ref tc, .ref st, .ref hp, .ref ec, .ref row, .int 0, .int 0])), (wi, .inr (2, [.ref nb, .ref w1, .ref w2, .int 0, .int 0])), (tc, .inr (6, [.ref t1, .ref t2, .ref wi, .int 0, .int 0])), (nb, .inr (1, [.ref n1, .ref n2, .ref n3, .int 0, .int 0])), (ga, .inr (3, [.ref g1, .int 0])), (st, .inr (10, [.ref s1, .ref s2, .ref s3, .ref s4, .ref s5, .int 0]))] sz) := by
  refine Met.ofW (cc := b_U_count) (maxL := 2) (ret := some .int) (by decide) rfl ?_
  intro p e s m args below meth c s₁ B hml hv
  obtain ⟨rfl, hsz, hP, hK, hD0, hT⟩ := hv
  have hx := B.exec
  have hb := B.bytes
  have hr := B.returns
  have hown : s.vm.findClass "UnikernelHttp" = some m.cls := findClass_of_methodNamed B.named
  have hlocks := B.notSynchronized
  subst hsz
  have hD := hD0.self (sz := s.heap.size)
  have hns := ux_ns hP
  generalize hAe : va_A [(h0, .inr (0, [.ref row, .int 0, .int 0, .ref nb, .ref wi, .ref ga, .ref sg, .ref tc, .ref st, .ref hp, .ref ec, .ref row, .int 0, .int 0])), (wi, .inr (2, [.ref nb, .ref w1, .ref w2, .int 0, .int 0])), (tc, .inr (6, [.ref t1, .ref t2, .ref wi, .int 0, .int 0])), (nb, .inr (1, [.ref n1, .ref n2, .ref n3, .int 0, .int 0])), (ga, .inr (3, [.ref g1, .int 0])), (st, .inr (10, [.ref s1, .ref s2, .ref s3, .ref s4, .ref s5, .int 0]))] s.heap.size = A at hD hns ⊢
  have hA : ∀ q : Nat, s.heap.size ≤ q → A q := fun q h => by rw [← hAe]; exact Or.inr h
  have hS : va_S A s.heap s.heap [] := va_S.rf
  have hl := lv_entry ([.ref h0, .int 3]) (n := 2) (Nat.le_of_ble_eq_true rfl)
  rw [lg_entry_eq]
  generalize (lg_sl ([.ref h0, .int 3]) ++ List.replicate (2 - (lg_sl ([.ref h0, .int 3])).length) Slot.unset).toArray = ls at hl ⊢
  have hl : lv_has ls 2 [(0, .ref h0), (1, .int 3)] := hl
  have hfx : CallFix p m c b_U_count 2 s ([.ref h0, .int 3] : List Value).toArray [] "UnikernelHttp" := ⟨hx, hb, hml, hown, fun _ h => by cases h⟩
  refine lv_iload_n hx hb d_U_count_0 rfl (lv_at hl 1 rfl) ?_
  refine lv_tableIn (tgt := 69) hx hb d_U_count_1 (by decide) (by decide) rfl (by decide) ?_
  refine lv_aload_n hx hb d_U_count_69 rfl (lv_at hl 0 rfl) ?_
  refine va_get (D := (dC, dI)) (ci := 0) (v := .ref tc) (C := R_U) (T := F_U) (N := 14) hx hb (u_U hT) (fun _ h => h) hown hK hP 0 rfl rfl 7 (by decide) (ux_T_at hT tw_450 rfl) (fun _ h9 => h9) rfl d_U_count_70 ?_
  refine va_getN (D := (dC, dI)) (ci := 6) (v := .int 0) (C := R_Tc) (T := F_Tc) (N := 5) hx hb (u_Tc hT) (fun _ h => h) hown hK hP 2 rfl rfl 4 (by decide) (ux_T_at hT tw_376 rfl) (fun _ h9 => h9) rfl d_U_count_73 ?_
  have hP9 := hP.sub (ws' := []) [] rfl
  have hD9 := hD.sub (ws' := []) [] (by decide) rfl
  have hK9 := hK.sub (tys' := []) [] rfl
  refine W.widen (k := 0) (n := 0) (Nat.le_of_ble_eq_true rfl) (Nat.le_of_ble_eq_true rfl) ?_
  exact W.iret (v := 0) hx hb hr (fun t ht hW => ⟨⟨_, (), rfl, rfl, by rw [ht]; exact hP9, va_K.moved hW.alike hK9, hD9⟩, hS.F ht⟩) hS.2.2 d_U_count_76
set_option maxHeartbeats 4000000 in
set_option maxRecDepth 100000 in
theorem c_U_count_4 (l : Launch) (dC : Nat → ClassId) (dI : Nat → Nat → Nat) (h0 : Nat) (row : Nat) (nb : Nat) (wi : Nat) (ga : Nat) (sg : Nat) (tc : Nat) (st : Nat) (hp : Nat) (ec : Nat) (w1 : Nat) (w2 : Nat) (t1 : Nat) (t2 : Nat) (n1 : Nat) (n2 : Nat) (n3 : Nat) (g1 : Nat) (s1 : Nat) (s2 : Nat) (s3 : Nat) (s4 : Nat) (s5 : Nat) (sz : Nat) : Met l y_U_count [Cond.code y_U_count b_U_count 2 (some .int)] ({ frames := 100, cells := 0, slots := 0, locals := 1500 }) (ux_Pc [.ref h0, .int 4] (dC, dI) cls [(h0, .inr (0, [.ref row, .int 0, .int 0, .ref nb, .ref wi, .ref ga, .ref sg, .ref tc, .ref st, .ref hp, .ref ec, .ref row, .int 0, .int 0])), (wi, .inr (2, [.ref nb, .ref w1, .ref w2, .int 0, .int 0])), (tc, .inr (6, [.ref t1, .ref t2, .ref wi, .int 0, .int 0])), (nb, .inr (1, [.ref n1, .ref n2, .ref n3, .int 0, .int 0])), (ga, .inr (3, [.ref g1, .int 0])), (st, .inr (10, [.ref s1, .ref s2, .ref s3, .ref s4, .ref s5, .int 0]))] [] sz) (va_Qi (fun (r : Int32) (_ : Unit) => r = 0) (fun (_ : Unit) (t : State) => ux_B (dC, dI) cls (va_A [(h0, .inr (0, [.ref row, .int 0, .int 0, .ref nb, .ref wi, .ref ga, .ref sg, .ref tc, .ref st, .ref hp, .ref ec, .ref row, .int 0, .int 0])), (wi, .inr (2, [.ref nb, .ref w1, .ref w2, .int 0, .int 0])), (tc, .inr (6, [.ref t1, .ref t2, .ref wi, .int 0, .int 0])), (nb, .inr (1, [.ref n1, .ref n2, .ref n3, .int 0, .int 0])), (ga, .inr (3, [.ref g1, .int 0])), (st, .inr (10, [.ref s1, .ref s2, .ref s3, .ref s4, .ref s5, .int 0]))] sz) [] [] t) (va_A [(h0, .inr (0, [.ref row, .int 0, .int 0, .ref nb, .ref wi, .ref ga, .ref sg, .ref tc, .ref st, .ref hp, .ref ec, .ref row, .int 0, .int 0])), (wi, .inr (2, [.ref nb, .ref w1, .ref w2, .int 0, .int 0])), (tc, .inr (6, [.ref t1, .ref t2, .ref wi, .int 0, .int 0])), (nb, .inr (1, [.ref n1, .ref n2, .ref n3, .int 0, .int 0])), (ga, .inr (3, [.ref g1, .int 0])), (st, .inr (10, [.ref s1, .ref s2, .ref s3, .ref s4, .ref s5, .int 0]))] sz)) 0 0 (va_A [(h0, .inr (0, [.ref row, .int 0, .int 0, .ref nb, .ref wi, .ref ga, .ref sg, .ref tc, .ref st, .ref hp, .ref ec, .ref row, .int 0, .int 0])), (wi, .inr (2, [.ref nb, .ref w1, .ref w2, .int 0, .int 0])), (tc, .inr (6, [.ref t1, .ref t2, .ref wi, .int 0, .int 0])), (nb, .inr (1, [.ref n1, .ref n2, .ref n3, .int 0, .int 0])), (ga, .inr (3, [.ref g1, .int 0])), (st, .inr (10, [.ref s1, .ref s2, .ref s3, .ref s4, .ref s5, .int 0]))] sz) := by
  refine Met.ofW (cc := b_U_count) (maxL := 2) (ret := some .int) (by decide) rfl ?_
  intro p e s m args below meth c s₁ B hml hv
  obtain ⟨rfl, hsz, hP, hK, hD0, hT⟩ := hv
  have hx := B.exec
  have hb := B.bytes
  have hr := B.returns
  have hown : s.vm.findClass "UnikernelHttp" = some m.cls := findClass_of_methodNamed B.named
  have hlocks := B.notSynchronized
  subst hsz
  have hD := hD0.self (sz := s.heap.size)
  have hns := ux_ns hP
  generalize hAe : va_A [(h0, .inr (0, [.ref row, .int 0, .int 0, .ref nb, .ref wi, .ref ga, .ref sg, .ref tc, .ref st, .ref hp, .ref ec, .ref row, .int 0, .int 0])), (wi, .inr (2, [.ref nb, .ref w1, .ref w2, .int 0, .int 0])), (tc, .inr (6, [.ref t1, .ref t2, .ref wi, .int 0, .int 0])), (nb, .inr (1, [.ref n1, .ref n2, .ref n3, .int 0, .int 0])), (ga, .inr (3, [.ref g1, .int 0])), (st, .inr (10, [.ref s1, .ref s2, .ref s3, .ref s4, .ref s5, .int 0]))] s.heap.size = A at hD hns ⊢
  have hA : ∀ q : Nat, s.heap.size ≤ q → A q := fun q h => by rw [← hAe]; exact Or.inr h
  have hS : va_S A s.heap s.heap [] := va_S.rf
  have hl := lv_entry ([.ref h0, .int 4]) (n := 2) (Nat.le_of_ble_eq_true rfl)
  rw [lg_entry_eq]
  generalize (lg_sl ([.ref h0, .int 4]) ++ List.replicate (2 - (lg_sl ([.ref h0, .int 4])).length) Slot.unset).toArray = ls at hl ⊢
  have hl : lv_has ls 2 [(0, .ref h0), (1, .int 4)] := hl
  have hfx : CallFix p m c b_U_count 2 s ([.ref h0, .int 4] : List Value).toArray [] "UnikernelHttp" := ⟨hx, hb, hml, hown, fun _ h => by cases h⟩
  refine lv_iload_n hx hb d_U_count_0 rfl (lv_at hl 1 rfl) ?_
  refine lv_tableIn (tgt := 77) hx hb d_U_count_1 (by decide) (by decide) rfl (by decide) ?_
  refine lv_aload_n hx hb d_U_count_77 rfl (lv_at hl 0 rfl) ?_
  refine va_get (D := (dC, dI)) (ci := 0) (v := .ref nb) (C := R_U) (T := F_U) (N := 14) hx hb (u_U hT) (fun _ h => h) hown hK hP 0 rfl rfl 3 (by decide) (ux_T_at hT tw_446 rfl) (fun _ h9 => h9) rfl d_U_count_78 ?_
  refine va_getN (D := (dC, dI)) (ci := 1) (v := .int 0) (C := R_N) (T := F_N) (N := 5) hx hb (u_N hT) (fun _ h => h) hown hK hP 3 rfl rfl 3 (by decide) (ux_T_at hT tw_53 rfl) (fun _ h9 => h9) rfl d_U_count_81 ?_
  have hP9 := hP.sub (ws' := []) [] rfl
  have hD9 := hD.sub (ws' := []) [] (by decide) rfl
  have hK9 := hK.sub (tys' := []) [] rfl
  refine W.widen (k := 0) (n := 0) (Nat.le_of_ble_eq_true rfl) (Nat.le_of_ble_eq_true rfl) ?_
  exact W.iret (v := 0) hx hb hr (fun t ht hW => ⟨⟨_, (), rfl, rfl, by rw [ht]; exact hP9, va_K.moved hW.alike hK9, hD9⟩, hS.F ht⟩) hS.2.2 d_U_count_84
set_option maxHeartbeats 4000000 in
set_option maxRecDepth 100000 in
theorem c_U_count_5 (l : Launch) (dC : Nat → ClassId) (dI : Nat → Nat → Nat) (h0 : Nat) (row : Nat) (nb : Nat) (wi : Nat) (ga : Nat) (sg : Nat) (tc : Nat) (st : Nat) (hp : Nat) (ec : Nat) (w1 : Nat) (w2 : Nat) (t1 : Nat) (t2 : Nat) (n1 : Nat) (n2 : Nat) (n3 : Nat) (g1 : Nat) (s1 : Nat) (s2 : Nat) (s3 : Nat) (s4 : Nat) (s5 : Nat) (sz : Nat) : Met l y_U_count [Cond.code y_U_count b_U_count 2 (some .int)] ({ frames := 100, cells := 0, slots := 0, locals := 1500 }) (ux_Pc [.ref h0, .int 5] (dC, dI) cls [(h0, .inr (0, [.ref row, .int 0, .int 0, .ref nb, .ref wi, .ref ga, .ref sg, .ref tc, .ref st, .ref hp, .ref ec, .ref row, .int 0, .int 0])), (wi, .inr (2, [.ref nb, .ref w1, .ref w2, .int 0, .int 0])), (tc, .inr (6, [.ref t1, .ref t2, .ref wi, .int 0, .int 0])), (nb, .inr (1, [.ref n1, .ref n2, .ref n3, .int 0, .int 0])), (ga, .inr (3, [.ref g1, .int 0])), (st, .inr (10, [.ref s1, .ref s2, .ref s3, .ref s4, .ref s5, .int 0]))] [] sz) (va_Qi (fun (r : Int32) (_ : Unit) => r = 0) (fun (_ : Unit) (t : State) => ux_B (dC, dI) cls (va_A [(h0, .inr (0, [.ref row, .int 0, .int 0, .ref nb, .ref wi, .ref ga, .ref sg, .ref tc, .ref st, .ref hp, .ref ec, .ref row, .int 0, .int 0])), (wi, .inr (2, [.ref nb, .ref w1, .ref w2, .int 0, .int 0])), (tc, .inr (6, [.ref t1, .ref t2, .ref wi, .int 0, .int 0])), (nb, .inr (1, [.ref n1, .ref n2, .ref n3, .int 0, .int 0])), (ga, .inr (3, [.ref g1, .int 0])), (st, .inr (10, [.ref s1, .ref s2, .ref s3, .ref s4, .ref s5, .int 0]))] sz) [] [] t) (va_A [(h0, .inr (0, [.ref row, .int 0, .int 0, .ref nb, .ref wi, .ref ga, .ref sg, .ref tc, .ref st, .ref hp, .ref ec, .ref row, .int 0, .int 0])), (wi, .inr (2, [.ref nb, .ref w1, .ref w2, .int 0, .int 0])), (tc, .inr (6, [.ref t1, .ref t2, .ref wi, .int 0, .int 0])), (nb, .inr (1, [.ref n1, .ref n2, .ref n3, .int 0, .int 0])), (ga, .inr (3, [.ref g1, .int 0])), (st, .inr (10, [.ref s1, .ref s2, .ref s3, .ref s4, .ref s5, .int 0]))] sz)) 0 0 (va_A [(h0, .inr (0, [.ref row, .int 0, .int 0, .ref nb, .ref wi, .ref ga, .ref sg, .ref tc, .ref st, .ref hp, .ref ec, .ref row, .int 0, .int 0])), (wi, .inr (2, [.ref nb, .ref w1, .ref w2, .int 0, .int 0])), (tc, .inr (6, [.ref t1, .ref t2, .ref wi, .int 0, .int 0])), (nb, .inr (1, [.ref n1, .ref n2, .ref n3, .int 0, .int 0])), (ga, .inr (3, [.ref g1, .int 0])), (st, .inr (10, [.ref s1, .ref s2, .ref s3, .ref s4, .ref s5, .int 0]))] sz) := by
  refine Met.ofW (cc := b_U_count) (maxL := 2) (ret := some .int) (by decide) rfl ?_
  intro p e s m args below meth c s₁ B hml hv
  obtain ⟨rfl, hsz, hP, hK, hD0, hT⟩ := hv
  have hx := B.exec
  have hb := B.bytes
  have hr := B.returns
  have hown : s.vm.findClass "UnikernelHttp" = some m.cls := findClass_of_methodNamed B.named
  have hlocks := B.notSynchronized
  subst hsz
  have hD := hD0.self (sz := s.heap.size)
  have hns := ux_ns hP
  generalize hAe : va_A [(h0, .inr (0, [.ref row, .int 0, .int 0, .ref nb, .ref wi, .ref ga, .ref sg, .ref tc, .ref st, .ref hp, .ref ec, .ref row, .int 0, .int 0])), (wi, .inr (2, [.ref nb, .ref w1, .ref w2, .int 0, .int 0])), (tc, .inr (6, [.ref t1, .ref t2, .ref wi, .int 0, .int 0])), (nb, .inr (1, [.ref n1, .ref n2, .ref n3, .int 0, .int 0])), (ga, .inr (3, [.ref g1, .int 0])), (st, .inr (10, [.ref s1, .ref s2, .ref s3, .ref s4, .ref s5, .int 0]))] s.heap.size = A at hD hns ⊢
  have hA : ∀ q : Nat, s.heap.size ≤ q → A q := fun q h => by rw [← hAe]; exact Or.inr h
  have hS : va_S A s.heap s.heap [] := va_S.rf
  have hl := lv_entry ([.ref h0, .int 5]) (n := 2) (Nat.le_of_ble_eq_true rfl)
  rw [lg_entry_eq]
  generalize (lg_sl ([.ref h0, .int 5]) ++ List.replicate (2 - (lg_sl ([.ref h0, .int 5])).length) Slot.unset).toArray = ls at hl ⊢
  have hl : lv_has ls 2 [(0, .ref h0), (1, .int 5)] := hl
  have hfx : CallFix p m c b_U_count 2 s ([.ref h0, .int 5] : List Value).toArray [] "UnikernelHttp" := ⟨hx, hb, hml, hown, fun _ h => by cases h⟩
  refine lv_iload_n hx hb d_U_count_0 rfl (lv_at hl 1 rfl) ?_
  refine lv_tableIn (tgt := 85) hx hb d_U_count_1 (by decide) (by decide) rfl (by decide) ?_
  refine lv_aload_n hx hb d_U_count_85 rfl (lv_at hl 0 rfl) ?_
  refine va_get (D := (dC, dI)) (ci := 0) (v := .ref ga) (C := R_U) (T := F_U) (N := 14) hx hb (u_U hT) (fun _ h => h) hown hK hP 0 rfl rfl 5 (by decide) (ux_T_at hT tw_448 rfl) (fun _ h9 => h9) rfl d_U_count_86 ?_
  refine va_getN (D := (dC, dI)) (ci := 3) (v := .int 0) (C := R_Gs) (T := F_Gs) (N := 2) hx hb (u_Gs hT) (fun _ h => h) hown hK hP 4 rfl rfl 1 (by decide) (ux_T_at hT tw_144 rfl) (fun _ h9 => h9) rfl d_U_count_89 ?_
  have hP9 := hP.sub (ws' := []) [] rfl
  have hD9 := hD.sub (ws' := []) [] (by decide) rfl
  have hK9 := hK.sub (tys' := []) [] rfl
  refine W.widen (k := 0) (n := 0) (Nat.le_of_ble_eq_true rfl) (Nat.le_of_ble_eq_true rfl) ?_
  exact W.iret (v := 0) hx hb hr (fun t ht hW => ⟨⟨_, (), rfl, rfl, by rw [ht]; exact hP9, va_K.moved hW.alike hK9, hD9⟩, hS.F ht⟩) hS.2.2 d_U_count_92
set_option maxHeartbeats 4000000 in
set_option maxRecDepth 100000 in
theorem c_U_count_6 (l : Launch) (dC : Nat → ClassId) (dI : Nat → Nat → Nat) (h0 : Nat) (row : Nat) (nb : Nat) (wi : Nat) (ga : Nat) (sg : Nat) (tc : Nat) (st : Nat) (hp : Nat) (ec : Nat) (w1 : Nat) (w2 : Nat) (t1 : Nat) (t2 : Nat) (n1 : Nat) (n2 : Nat) (n3 : Nat) (g1 : Nat) (s1 : Nat) (s2 : Nat) (s3 : Nat) (s4 : Nat) (s5 : Nat) (sz : Nat) : Met l y_U_count [Cond.code y_U_count b_U_count 2 (some .int)] ({ frames := 100, cells := 0, slots := 0, locals := 1500 }) (ux_Pc [.ref h0, .int 6] (dC, dI) cls [(h0, .inr (0, [.ref row, .int 0, .int 0, .ref nb, .ref wi, .ref ga, .ref sg, .ref tc, .ref st, .ref hp, .ref ec, .ref row, .int 0, .int 0])), (wi, .inr (2, [.ref nb, .ref w1, .ref w2, .int 0, .int 0])), (tc, .inr (6, [.ref t1, .ref t2, .ref wi, .int 0, .int 0])), (nb, .inr (1, [.ref n1, .ref n2, .ref n3, .int 0, .int 0])), (ga, .inr (3, [.ref g1, .int 0])), (st, .inr (10, [.ref s1, .ref s2, .ref s3, .ref s4, .ref s5, .int 0]))] [] sz) (va_Qi (fun (r : Int32) (_ : Unit) => r = 0) (fun (_ : Unit) (t : State) => ux_B (dC, dI) cls (va_A [(h0, .inr (0, [.ref row, .int 0, .int 0, .ref nb, .ref wi, .ref ga, .ref sg, .ref tc, .ref st, .ref hp, .ref ec, .ref row, .int 0, .int 0])), (wi, .inr (2, [.ref nb, .ref w1, .ref w2, .int 0, .int 0])), (tc, .inr (6, [.ref t1, .ref t2, .ref wi, .int 0, .int 0])), (nb, .inr (1, [.ref n1, .ref n2, .ref n3, .int 0, .int 0])), (ga, .inr (3, [.ref g1, .int 0])), (st, .inr (10, [.ref s1, .ref s2, .ref s3, .ref s4, .ref s5, .int 0]))] sz) [] [] t) (va_A [(h0, .inr (0, [.ref row, .int 0, .int 0, .ref nb, .ref wi, .ref ga, .ref sg, .ref tc, .ref st, .ref hp, .ref ec, .ref row, .int 0, .int 0])), (wi, .inr (2, [.ref nb, .ref w1, .ref w2, .int 0, .int 0])), (tc, .inr (6, [.ref t1, .ref t2, .ref wi, .int 0, .int 0])), (nb, .inr (1, [.ref n1, .ref n2, .ref n3, .int 0, .int 0])), (ga, .inr (3, [.ref g1, .int 0])), (st, .inr (10, [.ref s1, .ref s2, .ref s3, .ref s4, .ref s5, .int 0]))] sz)) 0 0 (va_A [(h0, .inr (0, [.ref row, .int 0, .int 0, .ref nb, .ref wi, .ref ga, .ref sg, .ref tc, .ref st, .ref hp, .ref ec, .ref row, .int 0, .int 0])), (wi, .inr (2, [.ref nb, .ref w1, .ref w2, .int 0, .int 0])), (tc, .inr (6, [.ref t1, .ref t2, .ref wi, .int 0, .int 0])), (nb, .inr (1, [.ref n1, .ref n2, .ref n3, .int 0, .int 0])), (ga, .inr (3, [.ref g1, .int 0])), (st, .inr (10, [.ref s1, .ref s2, .ref s3, .ref s4, .ref s5, .int 0]))] sz) := by
  refine Met.ofW (cc := b_U_count) (maxL := 2) (ret := some .int) (by decide) rfl ?_
  intro p e s m args below meth c s₁ B hml hv
  obtain ⟨rfl, hsz, hP, hK, hD0, hT⟩ := hv
  have hx := B.exec
  have hb := B.bytes
  have hr := B.returns
  have hown : s.vm.findClass "UnikernelHttp" = some m.cls := findClass_of_methodNamed B.named
  have hlocks := B.notSynchronized
  subst hsz
  have hD := hD0.self (sz := s.heap.size)
  have hns := ux_ns hP
  generalize hAe : va_A [(h0, .inr (0, [.ref row, .int 0, .int 0, .ref nb, .ref wi, .ref ga, .ref sg, .ref tc, .ref st, .ref hp, .ref ec, .ref row, .int 0, .int 0])), (wi, .inr (2, [.ref nb, .ref w1, .ref w2, .int 0, .int 0])), (tc, .inr (6, [.ref t1, .ref t2, .ref wi, .int 0, .int 0])), (nb, .inr (1, [.ref n1, .ref n2, .ref n3, .int 0, .int 0])), (ga, .inr (3, [.ref g1, .int 0])), (st, .inr (10, [.ref s1, .ref s2, .ref s3, .ref s4, .ref s5, .int 0]))] s.heap.size = A at hD hns ⊢
  have hA : ∀ q : Nat, s.heap.size ≤ q → A q := fun q h => by rw [← hAe]; exact Or.inr h
  have hS : va_S A s.heap s.heap [] := va_S.rf
  have hl := lv_entry ([.ref h0, .int 6]) (n := 2) (Nat.le_of_ble_eq_true rfl)
  rw [lg_entry_eq]
  generalize (lg_sl ([.ref h0, .int 6]) ++ List.replicate (2 - (lg_sl ([.ref h0, .int 6])).length) Slot.unset).toArray = ls at hl ⊢
  have hl : lv_has ls 2 [(0, .ref h0), (1, .int 6)] := hl
  have hfx : CallFix p m c b_U_count 2 s ([.ref h0, .int 6] : List Value).toArray [] "UnikernelHttp" := ⟨hx, hb, hml, hown, fun _ h => by cases h⟩
  refine lv_iload_n hx hb d_U_count_0 rfl (lv_at hl 1 rfl) ?_
  refine lv_tableIn (tgt := 93) hx hb d_U_count_1 (by decide) (by decide) rfl (by decide) ?_
  refine lv_aload_n hx hb d_U_count_93 rfl (lv_at hl 0 rfl) ?_
  refine va_get (D := (dC, dI)) (ci := 0) (v := .ref st) (C := R_U) (T := F_U) (N := 14) hx hb (u_U hT) (fun _ h => h) hown hK hP 0 rfl rfl 8 (by decide) (ux_T_at hT tw_451 rfl) (fun _ h9 => h9) rfl d_U_count_94 ?_
  refine va_getN (D := (dC, dI)) (ci := 10) (v := .int 0) (C := R_So) (T := F_So) (N := 6) hx hb (u_So hT) (fun _ h => h) hown hK hP 5 rfl rfl 5 (by decide) (ux_T_at hT tw_406 rfl) (fun _ h9 => h9) rfl d_U_count_97 ?_
  have hP9 := hP.sub (ws' := []) [] rfl
  have hD9 := hD.sub (ws' := []) [] (by decide) rfl
  have hK9 := hK.sub (tys' := []) [] rfl
  refine W.widen (k := 0) (n := 0) (Nat.le_of_ble_eq_true rfl) (Nat.le_of_ble_eq_true rfl) ?_
  exact W.iret (v := 0) hx hb hr (fun t ht hW => ⟨⟨_, (), rfl, rfl, by rw [ht]; exact hP9, va_K.moved hW.alike hK9, hD9⟩, hS.F ht⟩) hS.2.2 d_U_count_100
set_option maxHeartbeats 4000000 in
set_option maxRecDepth 100000 in
theorem c_U_count_7 (l : Launch) (dC : Nat → ClassId) (dI : Nat → Nat → Nat) (h0 : Nat) (row : Nat) (nb : Nat) (wi : Nat) (ga : Nat) (sg : Nat) (tc : Nat) (st : Nat) (hp : Nat) (ec : Nat) (w1 : Nat) (w2 : Nat) (t1 : Nat) (t2 : Nat) (n1 : Nat) (n2 : Nat) (n3 : Nat) (g1 : Nat) (s1 : Nat) (s2 : Nat) (s3 : Nat) (s4 : Nat) (s5 : Nat) (sz : Nat) : Met l y_U_count [Cond.code y_U_count b_U_count 2 (some .int)] ({ frames := 100, cells := 0, slots := 0, locals := 1500 }) (ux_Pc [.ref h0, .int 7] (dC, dI) cls [(h0, .inr (0, [.ref row, .int 0, .int 0, .ref nb, .ref wi, .ref ga, .ref sg, .ref tc, .ref st, .ref hp, .ref ec, .ref row, .int 0, .int 0])), (wi, .inr (2, [.ref nb, .ref w1, .ref w2, .int 0, .int 0])), (tc, .inr (6, [.ref t1, .ref t2, .ref wi, .int 0, .int 0])), (nb, .inr (1, [.ref n1, .ref n2, .ref n3, .int 0, .int 0])), (ga, .inr (3, [.ref g1, .int 0])), (st, .inr (10, [.ref s1, .ref s2, .ref s3, .ref s4, .ref s5, .int 0]))] [] sz) (va_Qi (fun (r : Int32) (_ : Unit) => r = 0) (fun (_ : Unit) (t : State) => ux_B (dC, dI) cls (va_A [(h0, .inr (0, [.ref row, .int 0, .int 0, .ref nb, .ref wi, .ref ga, .ref sg, .ref tc, .ref st, .ref hp, .ref ec, .ref row, .int 0, .int 0])), (wi, .inr (2, [.ref nb, .ref w1, .ref w2, .int 0, .int 0])), (tc, .inr (6, [.ref t1, .ref t2, .ref wi, .int 0, .int 0])), (nb, .inr (1, [.ref n1, .ref n2, .ref n3, .int 0, .int 0])), (ga, .inr (3, [.ref g1, .int 0])), (st, .inr (10, [.ref s1, .ref s2, .ref s3, .ref s4, .ref s5, .int 0]))] sz) [] [] t) (va_A [(h0, .inr (0, [.ref row, .int 0, .int 0, .ref nb, .ref wi, .ref ga, .ref sg, .ref tc, .ref st, .ref hp, .ref ec, .ref row, .int 0, .int 0])), (wi, .inr (2, [.ref nb, .ref w1, .ref w2, .int 0, .int 0])), (tc, .inr (6, [.ref t1, .ref t2, .ref wi, .int 0, .int 0])), (nb, .inr (1, [.ref n1, .ref n2, .ref n3, .int 0, .int 0])), (ga, .inr (3, [.ref g1, .int 0])), (st, .inr (10, [.ref s1, .ref s2, .ref s3, .ref s4, .ref s5, .int 0]))] sz)) 0 0 (va_A [(h0, .inr (0, [.ref row, .int 0, .int 0, .ref nb, .ref wi, .ref ga, .ref sg, .ref tc, .ref st, .ref hp, .ref ec, .ref row, .int 0, .int 0])), (wi, .inr (2, [.ref nb, .ref w1, .ref w2, .int 0, .int 0])), (tc, .inr (6, [.ref t1, .ref t2, .ref wi, .int 0, .int 0])), (nb, .inr (1, [.ref n1, .ref n2, .ref n3, .int 0, .int 0])), (ga, .inr (3, [.ref g1, .int 0])), (st, .inr (10, [.ref s1, .ref s2, .ref s3, .ref s4, .ref s5, .int 0]))] sz) := by
  refine Met.ofW (cc := b_U_count) (maxL := 2) (ret := some .int) (by decide) rfl ?_
  intro p e s m args below meth c s₁ B hml hv
  obtain ⟨rfl, hsz, hP, hK, hD0, hT⟩ := hv
  have hx := B.exec
  have hb := B.bytes
  have hr := B.returns
  have hown : s.vm.findClass "UnikernelHttp" = some m.cls := findClass_of_methodNamed B.named
  have hlocks := B.notSynchronized
  subst hsz
  have hD := hD0.self (sz := s.heap.size)
  have hns := ux_ns hP
  generalize hAe : va_A [(h0, .inr (0, [.ref row, .int 0, .int 0, .ref nb, .ref wi, .ref ga, .ref sg, .ref tc, .ref st, .ref hp, .ref ec, .ref row, .int 0, .int 0])), (wi, .inr (2, [.ref nb, .ref w1, .ref w2, .int 0, .int 0])), (tc, .inr (6, [.ref t1, .ref t2, .ref wi, .int 0, .int 0])), (nb, .inr (1, [.ref n1, .ref n2, .ref n3, .int 0, .int 0])), (ga, .inr (3, [.ref g1, .int 0])), (st, .inr (10, [.ref s1, .ref s2, .ref s3, .ref s4, .ref s5, .int 0]))] s.heap.size = A at hD hns ⊢
  have hA : ∀ q : Nat, s.heap.size ≤ q → A q := fun q h => by rw [← hAe]; exact Or.inr h
  have hS : va_S A s.heap s.heap [] := va_S.rf
  have hl := lv_entry ([.ref h0, .int 7]) (n := 2) (Nat.le_of_ble_eq_true rfl)
  rw [lg_entry_eq]
  generalize (lg_sl ([.ref h0, .int 7]) ++ List.replicate (2 - (lg_sl ([.ref h0, .int 7])).length) Slot.unset).toArray = ls at hl ⊢
  have hl : lv_has ls 2 [(0, .ref h0), (1, .int 7)] := hl
  have hfx : CallFix p m c b_U_count 2 s ([.ref h0, .int 7] : List Value).toArray [] "UnikernelHttp" := ⟨hx, hb, hml, hown, fun _ h => by cases h⟩
  refine lv_iload_n hx hb d_U_count_0 rfl (lv_at hl 1 rfl) ?_
  refine lv_tableIn (tgt := 101) hx hb d_U_count_1 (by decide) (by decide) rfl (by decide) ?_
  refine lv_aload_n hx hb d_U_count_101 rfl (lv_at hl 0 rfl) ?_
  refine va_get (D := (dC, dI)) (ci := 0) (v := .ref wi) (C := R_U) (T := F_U) (N := 14) hx hb (u_U hT) (fun _ h => h) hown hK hP 0 rfl rfl 4 (by decide) (ux_T_at hT tw_447 rfl) (fun _ h9 => h9) rfl d_U_count_102 ?_
  refine va_getN (D := (dC, dI)) (ci := 2) (v := .int 0) (C := R_Wi) (T := F_Wi) (N := 5) hx hb (u_Wi hT) (fun _ h => h) hown hK hP 1 rfl rfl 4 (by decide) (ux_T_at hT tw_83 rfl) (fun _ h9 => h9) rfl d_U_count_105 ?_
  have hP9 := hP.sub (ws' := []) [] rfl
  have hD9 := hD.sub (ws' := []) [] (by decide) rfl
  have hK9 := hK.sub (tys' := []) [] rfl
  refine W.widen (k := 0) (n := 0) (Nat.le_of_ble_eq_true rfl) (Nat.le_of_ble_eq_true rfl) ?_
  exact W.iret (v := 0) hx hb hr (fun t ht hW => ⟨⟨_, (), rfl, rfl, by rw [ht]; exact hP9, va_K.moved hW.alike hK9, hD9⟩, hS.F ht⟩) hS.2.2 d_U_count_108
set_option maxHeartbeats 4000000 in
set_option maxRecDepth 100000 in
theorem c_U_count_no (l : Launch) (hfl : l.flags = flags0) (dC : Nat → ClassId) (dI : Nat → Nat → Nat) (h0 : Nat) (row : Nat) (nb : Nat) (wi : Nat) (ga : Nat) (sg : Nat) (tc : Nat) (st : Nat) (hp : Nat) (ec : Nat) (p0 : Int32) (hn : p0.toInt < 0 ∨ 7 < p0.toInt) (sz : Nat) : ux_Met l y_U_count [Cond.code y_U_count b_U_count 2 (some .int)] ({ frames := 100, cells := 1, slots := 6, locals := 1500 }) (ux_PcH [.ref h0, .int p0] (dC, dI) cls [(h0, .inr (0, [.ref row, .int 0, .int 0, .ref nb, .ref wi, .ref ga, .ref sg, .ref tc, .ref st, .ref hp, .ref ec, .ref row, .int 0, .int 0]))] [] sz) (ux_X "java/lang/IllegalArgumentException" (va_A [(h0, .inr (0, [.ref row, .int 0, .int 0, .ref nb, .ref wi, .ref ga, .ref sg, .ref tc, .ref st, .ref hp, .ref ec, .ref row, .int 0, .int 0]))] sz)) 1 6 (va_A [(h0, .inr (0, [.ref row, .int 0, .int 0, .ref nb, .ref wi, .ref ga, .ref sg, .ref tc, .ref st, .ref hp, .ref ec, .ref row, .int 0, .int 0]))] sz) := by
  refine ux_ofW (cc := b_U_count) (maxL := 2) (ret := some .int) (by decide) rfl ?_
  intro p e s m args below meth c s₁ B hml hv
  obtain ⟨⟨rfl, hsz, hP, hK, hD0, hT⟩, hH⟩ := hv
  have hx := B.exec
  have hb := B.bytes
  have hr := B.returns
  have hown : s.vm.findClass "UnikernelHttp" = some m.cls := findClass_of_methodNamed B.named
  have hlocks := B.notSynchronized
  subst hsz
  have hD := hD0.self (sz := s.heap.size)
  have hns := ux_ns hP
  generalize hAe : va_A [(h0, .inr (0, [.ref row, .int 0, .int 0, .ref nb, .ref wi, .ref ga, .ref sg, .ref tc, .ref st, .ref hp, .ref ec, .ref row, .int 0, .int 0]))] s.heap.size = A at hD hns ⊢
  have hA : ∀ q : Nat, s.heap.size ≤ q → A q := fun q h => by rw [← hAe]; exact Or.inr h
  have hS : va_S A s.heap s.heap [] := va_S.rf
  have hl := lv_entry ([.ref h0, .int p0]) (n := 2) (Nat.le_of_ble_eq_true rfl)
  rw [lg_entry_eq]
  generalize (lg_sl ([.ref h0, .int p0]) ++ List.replicate (2 - (lg_sl ([.ref h0, .int p0])).length) Slot.unset).toArray = ls at hl ⊢
  have hl : lv_has ls 2 [(0, .ref h0), (1, .int p0)] := hl
  have hfx : CallFix p m c b_U_count 2 s ([.ref h0, .int p0] : List Value).toArray [] "UnikernelHttp" := ⟨hx, hb, hml, hown, fun _ h => by cases h⟩
  refine lv_iload_n hx hb d_U_count_0 rfl (lv_at hl 1 rfl) ?_
  refine lv_tableOut (tgt := 109) hx hb d_U_count_1 (by omega) (by decide) ?_
  exact ux_throwX (own := "UnikernelHttp") (E := "java/lang/IllegalArgumentException") (names := ["java/lang/RuntimeException", "java/lang/Exception"]) (ic := 89) (iN := 87) hx (ux_off hfl B.admits) hb hlocks (B.noHandlers (atoms_spec (ws := [Cond.code y_U_count b_U_count 2 (some .int)]) B.pre _ List.mem_cons_self)) hown (by decide +kernel) (by decide +kernel) (at_89_U hT hH) (ux_T_at hT tw_571 rfl) (ux_T_at hT tw_19 rfl) (by rw [hml]; exact hl.1) d_U_count_109 d_U_count_112 d_U_count_113 d_U_count_116 (Nat.le_of_ble_eq_true rfl) (Nat.le_of_ble_eq_true rfl) (Nat.le_of_ble_eq_true rfl) (Nat.le_of_ble_eq_true rfl) (Nat.le_of_ble_eq_true rfl) (Nat.le_of_ble_eq_true rfl) hS hns
set_option maxHeartbeats 4000000 in
set_option maxRecDepth 100000 in
theorem c_U_connection (l : Launch) (hfl : l.flags = flags0) (dC : Nat → ClassId) (dI : Nat → Nat → Nat) (h0 : Nat) (row : Nat) (nb : Nat) (wi : Nat) (ga : Nat) (sg : Nat) (tc : Nat) (st : Nat) (hp : Nat) (ec : Nat) (t1 : Nat) (t2 : Nat) (p0 : Int32) (p1 : Int32) (p2 : Int32) (sz : Nat) : ux_Met l y_U_connection [Cond.code y_U_connection b_U_connection 5 (some .int)] ({ frames := 100, cells := 1, slots := 6, locals := 1500 }) (ux_PcH [.ref h0, .int p0, .int p1, .int p2] (dC, dI) cls [(h0, .inr (0, [.ref row, .int 0, .int 0, .ref nb, .ref wi, .ref ga, .ref sg, .ref tc, .ref st, .ref hp, .ref ec, .ref row, .int 0, .int 0])), (tc, .inr (6, [.ref t1, .ref t2, .ref wi, .int 0, .int 0]))] [] sz) (ux_X "java/util/NoSuchElementException" (va_A [(h0, .inr (0, [.ref row, .int 0, .int 0, .ref nb, .ref wi, .ref ga, .ref sg, .ref tc, .ref st, .ref hp, .ref ec, .ref row, .int 0, .int 0])), (tc, .inr (6, [.ref t1, .ref t2, .ref wi, .int 0, .int 0]))] sz)) 1 6 (va_A [(h0, .inr (0, [.ref row, .int 0, .int 0, .ref nb, .ref wi, .ref ga, .ref sg, .ref tc, .ref st, .ref hp, .ref ec, .ref row, .int 0, .int 0])), (tc, .inr (6, [.ref t1, .ref t2, .ref wi, .int 0, .int 0]))] sz) := by
  refine ux_ofW (cc := b_U_connection) (maxL := 5) (ret := some .int) (by decide) rfl ?_
  intro p e s m args below meth c s₁ B hml hv
  obtain ⟨⟨rfl, hsz, hP, hK, hD0, hT⟩, hH⟩ := hv
  have hx := B.exec
  have hb := B.bytes
  have hr := B.returns
  have hown : s.vm.findClass "UnikernelHttp" = some m.cls := findClass_of_methodNamed B.named
  have hlocks := B.notSynchronized
  subst hsz
  have hD := hD0.self (sz := s.heap.size)
  have hns := ux_ns hP
  generalize hAe : va_A [(h0, .inr (0, [.ref row, .int 0, .int 0, .ref nb, .ref wi, .ref ga, .ref sg, .ref tc, .ref st, .ref hp, .ref ec, .ref row, .int 0, .int 0])), (tc, .inr (6, [.ref t1, .ref t2, .ref wi, .int 0, .int 0]))] s.heap.size = A at hD hns ⊢
  have hA : ∀ q : Nat, s.heap.size ≤ q → A q := fun q h => by rw [← hAe]; exact Or.inr h
  have hS : va_S A s.heap s.heap [] := va_S.rf
  have hl := lv_entry ([.ref h0, .int p0, .int p1, .int p2]) (n := 5) (Nat.le_of_ble_eq_true rfl)
  rw [lg_entry_eq]
  generalize (lg_sl ([.ref h0, .int p0, .int p1, .int p2]) ++ List.replicate (5 - (lg_sl ([.ref h0, .int p0, .int p1, .int p2])).length) Slot.unset).toArray = ls at hl ⊢
  have hl : lv_has ls 5 [(0, .ref h0), (1, .int p0), (2, .int p1), (3, .int p2)] := hl
  have hfx : CallFix p m c b_U_connection 5 s ([.ref h0, .int p0, .int p1, .int p2] : List Value).toArray [] "UnikernelHttp" := ⟨hx, hb, hml, hown, fun _ h => by cases h⟩
  refine lv_aload_n hx hb d_U_connection_0 rfl (lv_at hl 0 rfl) ?_
  refine va_get (D := (dC, dI)) (ci := 0) (v := .ref tc) (C := R_U) (T := F_U) (N := 14) hx hb (u_U hT) (fun _ h => h) hown hK hP 0 rfl rfl 7 (by decide) (ux_T_at hT tw_450 rfl) (fun _ h9 => h9) rfl d_U_connection_1 ?_
  refine lv_iload_n hx hb d_U_connection_4 rfl (lv_at hl 1 rfl) ?_
  refine lv_iload_n hx hb d_U_connection_5 rfl (lv_at hl 2 rfl) ?_
  have hPc := hP.sub (ws' := [(tc, .inr (6, [.ref t1, .ref t2, .ref wi, .int 0, .int 0]))]) [1] rfl
  have hDc := hD.sub (ws' := [(tc, .inr (6, [.ref t1, .ref t2, .ref wi, .int 0, .int 0]))]) [1] (by decide) rfl
  have hKc := hK.sub (tys' := []) [] rfl
  have hFc := va_free (wc := [(tc, .inr (6, [.ref t1, .ref t2, .ref wi, .int 0, .int 0]))]) hD hS hA [1] rfl
  have hkc : 0 + 0 ≤ 1 := (Nat.le_of_ble_eq_true rfl)
  refine va_callq (va_runVN (As := [.int p0, .int p1]) (rest := []) hfx (c_Tc_find l dC dI tc t1 t2 wi p0 p1 s.heap.size) ⟨(ux_cn 2 hT tw_760 tw_757 tw_7 rfl rfl (by decide +kernel) ⟨(Nat.le_of_ble_eq_true rfl), (Nat.le_of_ble_eq_true rfl)⟩), (ux_T_at hT tw_759 rfl), (ux_T_at hT (ux_tp (q := (⟨"UnikernelHttp$Tcp", "find", "(II)LUnikernelHttp$Connection;"⟩, 5)) (by decide +kernel)) rfl)⟩ (ux_preV (r := (R_Tc, F_Tc, 5)) (ci := 6) (q0 := 0) [.int p0, .int p1] hT hPc hKc hDc rfl rfl) rfl rfl hl.1 rfl (lv_room (Nat.le_of_ble_eq_true rfl)) d_U_connection_6 ⟨(Nat.le_of_ble_eq_true rfl), (Nat.le_of_ble_eq_true rfl)⟩) hS (fun q _ h => hFc q h) hFc (fun r1 u t H1 locs ht hvm hw hB hz1 hk1 hS => ?_)
  obtain ⟨hP1, hK1, hD1⟩ := hB
  rw [ht] at hP1
  have hK1 := va_K.moved hvm.symm hK1
  obtain ⟨hP, hD⟩ := va_join (wr := [(h0, .inr (0, [.ref row, .int 0, .int 0, .ref nb, .ref wi, .ref ga, .ref sg, .ref tc, .ref st, .ref hp, .ref ec, .ref row, .int 0, .int 0]))]) (w1 := [(tc, .inr (6, [.ref t1, .ref t2, .ref wi, .int 0, .int 0]))]) hP hD [1] [0] rfl rfl (by decide) (by decide) hk1 hFc hP1 hD1
  have hK := (hK.sub (tys' := []) [] rfl).app hK1
  generalize H1 = H at hP hS ⊢
  have hP : va_P (dC, dI) cls [(h0, .inr (0, [.ref row, .int 0, .int 0, .ref nb, .ref wi, .ref ga, .ref sg, .ref tc, .ref st, .ref hp, .ref ec, .ref row, .int 0, .int 0])), (tc, .inr (6, [.ref t1, .ref t2, .ref wi, .int 0, .int 0]))] H := hP
  have hD : va_D A [(h0, .inr (0, [.ref row, .int 0, .int 0, .ref nb, .ref wi, .ref ga, .ref sg, .ref tc, .ref st, .ref hp, .ref ec, .ref row, .int 0, .int 0])), (tc, .inr (6, [.ref t1, .ref t2, .ref wi, .int 0, .int 0]))] := hD
  have hK : va_K (dC, dI) cls [] s := hK
  obtain rfl : r1 = none := hw
  refine W.eq (g2 := F0 m 9 ls [.null]) rfl ?_
  refine lv_astoreN hx hb d_U_connection_9 hl (by decide) rfl (fun ls hl => ?_)
  have hl : lv_has ls 5 [(4, .null), (0, .ref h0), (1, .int p0), (2, .int p1), (3, .int p2)] := hl
  refine lv_aloadN hx hb d_U_connection_11 (lv_at hl 0 rfl) ?_
  refine lv_ifnonnullN hx hb d_U_connection_13 ?_
  exact ux_throwX (own := "UnikernelHttp") (E := "java/util/NoSuchElementException") (names := ["java/lang/RuntimeException", "java/lang/Exception"]) (ic := 198) (iN := 196) hx (ux_off hfl B.admits) hb hlocks (B.noHandlers (atoms_spec (ws := [Cond.code y_U_connection b_U_connection 5 (some .int)]) B.pre _ List.mem_cons_self)) hown (by decide +kernel) (by decide +kernel) (at_198_U hT hH) (ux_T_at hT tw_1463 rfl) (ux_T_at hT tw_33 rfl) (by rw [hml]; exact hl.1) d_U_connection_16 d_U_connection_19 d_U_connection_20 d_U_connection_23 (Nat.le_of_ble_eq_true rfl) (Nat.le_of_ble_eq_true rfl) (Nat.le_of_ble_eq_true rfl) (Nat.le_of_ble_eq_true rfl) (Nat.le_of_ble_eq_true rfl) (Nat.le_of_ble_eq_true rfl) hS hns
end
section
theorem i_vc : Claimed_1_1 ∧ Claimed_1_2 := sorry
end
