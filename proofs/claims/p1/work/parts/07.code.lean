/-! Names of the methods, their code, and what each instruction is: by program out of the listing. -/
abbrev b_N_init : ByteArray := prog_7_method_1_code
abbrev y_N_init : MethodName := ⟨"UnikernelHttp$Neighbours", "<init>", "()V"⟩
theorem d_N_init_0 : decode b_N_init 0 = .ok (.aload_n 0, 1) := by decide +kernel
theorem d_N_init_1 : decode b_N_init 1 = .ok (.invokespecial 3, 3) := by decide +kernel
theorem d_N_init_4 : decode b_N_init 4 = .ok (.aload_n 0, 1) := by decide +kernel
theorem d_N_init_5 : decode b_N_init 5 = .ok (.bipush 16, 2) := by decide +kernel
theorem d_N_init_7 : decode b_N_init 7 = .ok (.newarray .int, 2) := by decide +kernel
theorem d_N_init_9 : decode b_N_init 9 = .ok (.putfield 9, 3) := by decide +kernel
theorem d_N_init_12 : decode b_N_init 12 = .ok (.aload_n 0, 1) := by decide +kernel
theorem d_N_init_13 : decode b_N_init 13 = .ok (.bipush 16, 2) := by decide +kernel
theorem d_N_init_15 : decode b_N_init 15 = .ok (.newarray .long, 2) := by decide +kernel
theorem d_N_init_17 : decode b_N_init 17 = .ok (.putfield 15, 3) := by decide +kernel
theorem d_N_init_20 : decode b_N_init 20 = .ok (.aload_n 0, 1) := by decide +kernel
theorem d_N_init_21 : decode b_N_init 21 = .ok (.bipush 16, 2) := by decide +kernel
theorem d_N_init_23 : decode b_N_init 23 = .ok (.newarray .int, 2) := by decide +kernel
theorem d_N_init_25 : decode b_N_init 25 = .ok (.putfield 19, 3) := by decide +kernel
theorem d_N_init_28 : decode b_N_init 28 = .ok (.return_, 1) := by decide +kernel
abbrev b_Wi_init : ByteArray := prog_12_method_1_code
abbrev y_Wi_init : MethodName := ⟨"UnikernelHttp$Wire", "<init>", "(LUnikernelHttp$Neighbours;)V"⟩
theorem d_Wi_init_0 : decode b_Wi_init 0 = .ok (.aload_n 0, 1) := by decide +kernel
theorem d_Wi_init_1 : decode b_Wi_init 1 = .ok (.invokespecial 3, 3) := by decide +kernel
theorem d_Wi_init_4 : decode b_Wi_init 4 = .ok (.aload_n 0, 1) := by decide +kernel
theorem d_Wi_init_5 : decode b_Wi_init 5 = .ok (.ldc 9, 2) := by decide +kernel
theorem d_Wi_init_7 : decode b_Wi_init 7 = .ok (.newarray .byte, 2) := by decide +kernel
theorem d_Wi_init_9 : decode b_Wi_init 9 = .ok (.putfield 10, 3) := by decide +kernel
theorem d_Wi_init_12 : decode b_Wi_init 12 = .ok (.aload_n 0, 1) := by decide +kernel
theorem d_Wi_init_13 : decode b_Wi_init 13 = .ok (.bipush 64, 2) := by decide +kernel
theorem d_Wi_init_15 : decode b_Wi_init 15 = .ok (.newarray .int, 2) := by decide +kernel
theorem d_Wi_init_17 : decode b_Wi_init 17 = .ok (.putfield 16, 3) := by decide +kernel
theorem d_Wi_init_20 : decode b_Wi_init 20 = .ok (.aload_n 0, 1) := by decide +kernel
theorem d_Wi_init_21 : decode b_Wi_init 21 = .ok (.aload_n 1, 1) := by decide +kernel
theorem d_Wi_init_22 : decode b_Wi_init 22 = .ok (.putfield 20, 3) := by decide +kernel
theorem d_Wi_init_25 : decode b_Wi_init 25 = .ok (.return_, 1) := by decide +kernel
abbrev b_G_init : ByteArray := prog_3_method_1_code
abbrev y_G_init : MethodName := ⟨"UnikernelHttp$Gathering", "<init>", "()V"⟩
theorem d_G_init_0 : decode b_G_init 0 = .ok (.aload_n 0, 1) := by decide +kernel
theorem d_G_init_1 : decode b_G_init 1 = .ok (.invokespecial 3, 3) := by decide +kernel
theorem d_G_init_4 : decode b_G_init 4 = .ok (.aload_n 0, 1) := by decide +kernel
theorem d_G_init_5 : decode b_G_init 5 = .ok (.sipush 4096, 3) := by decide +kernel
theorem d_G_init_8 : decode b_G_init 8 = .ok (.newarray .byte, 2) := by decide +kernel
theorem d_G_init_10 : decode b_G_init 10 = .ok (.putfield 9, 3) := by decide +kernel
theorem d_G_init_13 : decode b_G_init 13 = .ok (.aload_n 0, 1) := by decide +kernel
theorem d_G_init_14 : decode b_G_init 14 = .ok (.sipush 4096, 3) := by decide +kernel
theorem d_G_init_17 : decode b_G_init 17 = .ok (.newarray .byte, 2) := by decide +kernel
theorem d_G_init_19 : decode b_G_init 19 = .ok (.putfield 15, 3) := by decide +kernel
theorem d_G_init_22 : decode b_G_init 22 = .ok (.return_, 1) := by decide +kernel
abbrev b_Gs_init : ByteArray := prog_4_method_1_code
abbrev y_Gs_init : MethodName := ⟨"UnikernelHttp$Gatherings", "<init>", "()V"⟩
theorem d_Gs_init_0 : decode b_Gs_init 0 = .ok (.aload_n 0, 1) := by decide +kernel
theorem d_Gs_init_1 : decode b_Gs_init 1 = .ok (.invokespecial 3, 3) := by decide +kernel
theorem d_Gs_init_4 : decode b_Gs_init 4 = .ok (.aload_n 0, 1) := by decide +kernel
theorem d_Gs_init_5 : decode b_Gs_init 5 = .ok (.iconst 4, 1) := by decide +kernel
theorem d_Gs_init_6 : decode b_Gs_init 6 = .ok (.anewarray 9, 3) := by decide +kernel
theorem d_Gs_init_9 : decode b_Gs_init 9 = .ok (.putfield 11, 3) := by decide +kernel
theorem d_Gs_init_12 : decode b_Gs_init 12 = .ok (.iconst 0, 1) := by decide +kernel
theorem d_Gs_init_13 : decode b_Gs_init 13 = .ok (.istore_n 1, 1) := by decide +kernel
theorem d_Gs_init_14 : decode b_Gs_init 14 = .ok (.iload_n 1, 1) := by decide +kernel
theorem d_Gs_init_15 : decode b_Gs_init 15 = .ok (.iconst 4, 1) := by decide +kernel
theorem d_Gs_init_16 : decode b_Gs_init 16 = .ok (.if_icmp .ge 22, 3) := by decide +kernel
theorem d_Gs_init_19 : decode b_Gs_init 19 = .ok (.aload_n 0, 1) := by decide +kernel
theorem d_Gs_init_20 : decode b_Gs_init 20 = .ok (.getfield 11, 3) := by decide +kernel
theorem d_Gs_init_23 : decode b_Gs_init 23 = .ok (.iload_n 1, 1) := by decide +kernel
theorem d_Gs_init_24 : decode b_Gs_init 24 = .ok (.new 9, 3) := by decide +kernel
theorem d_Gs_init_27 : decode b_Gs_init 27 = .ok (.dup, 1) := by decide +kernel
theorem d_Gs_init_28 : decode b_Gs_init 28 = .ok (.invokespecial 17, 3) := by decide +kernel
theorem d_Gs_init_31 : decode b_Gs_init 31 = .ok (.aastore, 1) := by decide +kernel
theorem d_Gs_init_32 : decode b_Gs_init 32 = .ok (.iinc 1 1, 3) := by decide +kernel
theorem d_Gs_init_35 : decode b_Gs_init 35 = .ok (.goto (-21), 3) := by decide +kernel
theorem d_Gs_init_38 : decode b_Gs_init 38 = .ok (.return_, 1) := by decide +kernel
abbrev b_Sg_init : ByteArray := prog_9_method_1_code
abbrev y_Sg_init : MethodName := ⟨"UnikernelHttp$Segment", "<init>", "()V"⟩
theorem d_Sg_init_0 : decode b_Sg_init 0 = .ok (.aload_n 0, 1) := by decide +kernel
theorem d_Sg_init_1 : decode b_Sg_init 1 = .ok (.invokespecial 3, 3) := by decide +kernel
theorem d_Sg_init_4 : decode b_Sg_init 4 = .ok (.aload_n 0, 1) := by decide +kernel
theorem d_Sg_init_5 : decode b_Sg_init 5 = .ok (.iconst 0, 1) := by decide +kernel
theorem d_Sg_init_6 : decode b_Sg_init 6 = .ok (.newarray .byte, 2) := by decide +kernel
theorem d_Sg_init_8 : decode b_Sg_init 8 = .ok (.putfield 9, 3) := by decide +kernel
theorem d_Sg_init_11 : decode b_Sg_init 11 = .ok (.return_, 1) := by decide +kernel
abbrev b_In_init : ByteArray := prog_6_method_1_code
abbrev y_In_init : MethodName := ⟨"UnikernelHttp$Inbox", "<init>", "()V"⟩
theorem d_In_init_0 : decode b_In_init 0 = .ok (.aload_n 0, 1) := by decide +kernel
theorem d_In_init_1 : decode b_In_init 1 = .ok (.invokespecial 3, 3) := by decide +kernel
theorem d_In_init_4 : decode b_In_init 4 = .ok (.aload_n 0, 1) := by decide +kernel
theorem d_In_init_5 : decode b_In_init 5 = .ok (.sipush 2048, 3) := by decide +kernel
theorem d_In_init_8 : decode b_In_init 8 = .ok (.newarray .byte, 2) := by decide +kernel
theorem d_In_init_10 : decode b_In_init 10 = .ok (.putfield 9, 3) := by decide +kernel
theorem d_In_init_13 : decode b_In_init 13 = .ok (.aload_n 0, 1) := by decide +kernel
theorem d_In_init_14 : decode b_In_init 14 = .ok (.sipush 2048, 3) := by decide +kernel
theorem d_In_init_17 : decode b_In_init 17 = .ok (.newarray .byte, 2) := by decide +kernel
theorem d_In_init_19 : decode b_In_init 19 = .ok (.putfield 15, 3) := by decide +kernel
theorem d_In_init_22 : decode b_In_init 22 = .ok (.return_, 1) := by decide +kernel
abbrev b_Ou_init : ByteArray := prog_8_method_1_code
abbrev y_Ou_init : MethodName := ⟨"UnikernelHttp$Outbox", "<init>", "()V"⟩
theorem d_Ou_init_0 : decode b_Ou_init 0 = .ok (.aload_n 0, 1) := by decide +kernel
theorem d_Ou_init_1 : decode b_Ou_init 1 = .ok (.invokespecial 3, 3) := by decide +kernel
theorem d_Ou_init_4 : decode b_Ou_init 4 = .ok (.aload_n 0, 1) := by decide +kernel
theorem d_Ou_init_5 : decode b_Ou_init 5 = .ok (.sipush 4096, 3) := by decide +kernel
theorem d_Ou_init_8 : decode b_Ou_init 8 = .ok (.newarray .byte, 2) := by decide +kernel
theorem d_Ou_init_10 : decode b_Ou_init 10 = .ok (.putfield 9, 3) := by decide +kernel
theorem d_Ou_init_13 : decode b_Ou_init 13 = .ok (.return_, 1) := by decide +kernel
abbrev b_Co_init : ByteArray := prog_2_method_1_code
abbrev y_Co_init : MethodName := ⟨"UnikernelHttp$Connection", "<init>", "()V"⟩
theorem d_Co_init_0 : decode b_Co_init 0 = .ok (.aload_n 0, 1) := by decide +kernel
theorem d_Co_init_1 : decode b_Co_init 1 = .ok (.invokespecial 3, 3) := by decide +kernel
theorem d_Co_init_4 : decode b_Co_init 4 = .ok (.aload_n 0, 1) := by decide +kernel
theorem d_Co_init_5 : decode b_Co_init 5 = .ok (.new 9, 3) := by decide +kernel
theorem d_Co_init_8 : decode b_Co_init 8 = .ok (.dup, 1) := by decide +kernel
theorem d_Co_init_9 : decode b_Co_init 9 = .ok (.invokespecial 11, 3) := by decide +kernel
theorem d_Co_init_12 : decode b_Co_init 12 = .ok (.putfield 12, 3) := by decide +kernel
theorem d_Co_init_15 : decode b_Co_init 15 = .ok (.aload_n 0, 1) := by decide +kernel
theorem d_Co_init_16 : decode b_Co_init 16 = .ok (.new 18, 3) := by decide +kernel
theorem d_Co_init_19 : decode b_Co_init 19 = .ok (.dup, 1) := by decide +kernel
theorem d_Co_init_20 : decode b_Co_init 20 = .ok (.invokespecial 20, 3) := by decide +kernel
theorem d_Co_init_23 : decode b_Co_init 23 = .ok (.putfield 21, 3) := by decide +kernel
theorem d_Co_init_26 : decode b_Co_init 26 = .ok (.return_, 1) := by decide +kernel
abbrev b_Tc_init : ByteArray := prog_11_method_1_code
abbrev y_Tc_init : MethodName := ⟨"UnikernelHttp$Tcp", "<init>", "(LUnikernelHttp$Wire;)V"⟩
theorem d_Tc_init_0 : decode b_Tc_init 0 = .ok (.aload_n 0, 1) := by decide +kernel
theorem d_Tc_init_1 : decode b_Tc_init 1 = .ok (.invokespecial 3, 3) := by decide +kernel
theorem d_Tc_init_4 : decode b_Tc_init 4 = .ok (.aload_n 0, 1) := by decide +kernel
theorem d_Tc_init_5 : decode b_Tc_init 5 = .ok (.bipush 8, 2) := by decide +kernel
theorem d_Tc_init_7 : decode b_Tc_init 7 = .ok (.anewarray 9, 3) := by decide +kernel
theorem d_Tc_init_10 : decode b_Tc_init 10 = .ok (.putfield 11, 3) := by decide +kernel
theorem d_Tc_init_13 : decode b_Tc_init 13 = .ok (.aload_n 0, 1) := by decide +kernel
theorem d_Tc_init_14 : decode b_Tc_init 14 = .ok (.sipush 560, 3) := by decide +kernel
theorem d_Tc_init_17 : decode b_Tc_init 17 = .ok (.newarray .byte, 2) := by decide +kernel
theorem d_Tc_init_19 : decode b_Tc_init 19 = .ok (.putfield 17, 3) := by decide +kernel
theorem d_Tc_init_22 : decode b_Tc_init 22 = .ok (.aload_n 0, 1) := by decide +kernel
theorem d_Tc_init_23 : decode b_Tc_init 23 = .ok (.aload_n 1, 1) := by decide +kernel
theorem d_Tc_init_24 : decode b_Tc_init 24 = .ok (.putfield 21, 3) := by decide +kernel
theorem d_Tc_init_27 : decode b_Tc_init 27 = .ok (.iconst 0, 1) := by decide +kernel
theorem d_Tc_init_28 : decode b_Tc_init 28 = .ok (.istore_n 2, 1) := by decide +kernel
theorem d_Tc_init_29 : decode b_Tc_init 29 = .ok (.iload_n 2, 1) := by decide +kernel
theorem d_Tc_init_30 : decode b_Tc_init 30 = .ok (.bipush 8, 2) := by decide +kernel
theorem d_Tc_init_32 : decode b_Tc_init 32 = .ok (.if_icmp .ge 22, 3) := by decide +kernel
theorem d_Tc_init_35 : decode b_Tc_init 35 = .ok (.aload_n 0, 1) := by decide +kernel
theorem d_Tc_init_36 : decode b_Tc_init 36 = .ok (.getfield 11, 3) := by decide +kernel
theorem d_Tc_init_39 : decode b_Tc_init 39 = .ok (.iload_n 2, 1) := by decide +kernel
theorem d_Tc_init_40 : decode b_Tc_init 40 = .ok (.new 9, 3) := by decide +kernel
theorem d_Tc_init_43 : decode b_Tc_init 43 = .ok (.dup, 1) := by decide +kernel
theorem d_Tc_init_44 : decode b_Tc_init 44 = .ok (.invokespecial 25, 3) := by decide +kernel
theorem d_Tc_init_47 : decode b_Tc_init 47 = .ok (.aastore, 1) := by decide +kernel
theorem d_Tc_init_48 : decode b_Tc_init 48 = .ok (.iinc 2 1, 3) := by decide +kernel
theorem d_Tc_init_51 : decode b_Tc_init 51 = .ok (.goto (-22), 3) := by decide +kernel
theorem d_Tc_init_54 : decode b_Tc_init 54 = .ok (.return_, 1) := by decide +kernel
abbrev b_So_init : ByteArray := prog_10_method_1_code
abbrev y_So_init : MethodName := ⟨"UnikernelHttp$Store", "<init>", "()V"⟩
theorem d_So_init_0 : decode b_So_init 0 = .ok (.aload_n 0, 1) := by decide +kernel
theorem d_So_init_1 : decode b_So_init 1 = .ok (.invokespecial 3, 3) := by decide +kernel
theorem d_So_init_4 : decode b_So_init 4 = .ok (.aload_n 0, 1) := by decide +kernel
theorem d_So_init_5 : decode b_So_init 5 = .ok (.bipush 32, 2) := by decide +kernel
theorem d_So_init_7 : decode b_So_init 7 = .ok (.bipush 64, 2) := by decide +kernel
theorem d_So_init_9 : decode b_So_init 9 = .ok (.multianewarray 9 2, 4) := by decide +kernel
theorem d_So_init_13 : decode b_So_init 13 = .ok (.putfield 11, 3) := by decide +kernel
theorem d_So_init_16 : decode b_So_init 16 = .ok (.aload_n 0, 1) := by decide +kernel
theorem d_So_init_17 : decode b_So_init 17 = .ok (.bipush 32, 2) := by decide +kernel
theorem d_So_init_19 : decode b_So_init 19 = .ok (.newarray .int, 2) := by decide +kernel
theorem d_So_init_21 : decode b_So_init 21 = .ok (.putfield 16, 3) := by decide +kernel
theorem d_So_init_24 : decode b_So_init 24 = .ok (.aload_n 0, 1) := by decide +kernel
theorem d_So_init_25 : decode b_So_init 25 = .ok (.bipush 32, 2) := by decide +kernel
theorem d_So_init_27 : decode b_So_init 27 = .ok (.sipush 1500, 3) := by decide +kernel
theorem d_So_init_30 : decode b_So_init 30 = .ok (.multianewarray 9 2, 4) := by decide +kernel
theorem d_So_init_34 : decode b_So_init 34 = .ok (.putfield 20, 3) := by decide +kernel
theorem d_So_init_37 : decode b_So_init 37 = .ok (.aload_n 0, 1) := by decide +kernel
theorem d_So_init_38 : decode b_So_init 38 = .ok (.bipush 32, 2) := by decide +kernel
theorem d_So_init_40 : decode b_So_init 40 = .ok (.newarray .int, 2) := by decide +kernel
theorem d_So_init_42 : decode b_So_init 42 = .ok (.putfield 23, 3) := by decide +kernel
theorem d_So_init_45 : decode b_So_init 45 = .ok (.aload_n 0, 1) := by decide +kernel
theorem d_So_init_46 : decode b_So_init 46 = .ok (.bipush 32, 2) := by decide +kernel
theorem d_So_init_48 : decode b_So_init 48 = .ok (.newarray .int, 2) := by decide +kernel
theorem d_So_init_50 : decode b_So_init 50 = .ok (.putfield 26, 3) := by decide +kernel
theorem d_So_init_53 : decode b_So_init 53 = .ok (.return_, 1) := by decide +kernel
abbrev b_Ht_init : ByteArray := prog_5_method_1_code
abbrev y_Ht_init : MethodName := ⟨"UnikernelHttp$Http", "<init>", "(LUnikernelHttp$Store;)V"⟩
theorem d_Ht_init_0 : decode b_Ht_init 0 = .ok (.aload_n 0, 1) := by decide +kernel
theorem d_Ht_init_1 : decode b_Ht_init 1 = .ok (.invokespecial 3, 3) := by decide +kernel
theorem d_Ht_init_4 : decode b_Ht_init 4 = .ok (.aload_n 0, 1) := by decide +kernel
theorem d_Ht_init_5 : decode b_Ht_init 5 = .ok (.sipush 1700, 3) := by decide +kernel
theorem d_Ht_init_8 : decode b_Ht_init 8 = .ok (.newarray .byte, 2) := by decide +kernel
theorem d_Ht_init_10 : decode b_Ht_init 10 = .ok (.putfield 9, 3) := by decide +kernel
theorem d_Ht_init_13 : decode b_Ht_init 13 = .ok (.aload_n 0, 1) := by decide +kernel
theorem d_Ht_init_14 : decode b_Ht_init 14 = .ok (.aload_n 1, 1) := by decide +kernel
theorem d_Ht_init_15 : decode b_Ht_init 15 = .ok (.putfield 15, 3) := by decide +kernel
theorem d_Ht_init_18 : decode b_Ht_init 18 = .ok (.return_, 1) := by decide +kernel
