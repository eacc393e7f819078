/-! Names of the methods, their code, and what each instruction is: by program out of the listing. -/
abbrev b_N_init : ByteArray := prog_7_method_1_code
abbrev y_N_init : MethodName := ⟨"UnikernelHttp$Neighbours", "<init>", "()V"⟩
theorem d_N_init_0 : decode b_N_init 0 = .ok (.aload_n 0, 1) := by decide +kernel
theorem d_N_init_1 : decode b_N_init 1 = .ok (.invokespecial 3, 3) := by decide +kernel
theorem d_N_init_4 : decode b_N_init 4 = .ok (.aload_n 0, 1) := by decide +kernel
theorem d_N_init_5 : decode b_N_init 5 = .ok (.bipush 16, 2) := by decide +kernel
theorem d_N_init_7 : decode b_N_init 7 = .ok (.newarray .int, 2) := by decide +kernel
theorem d_N_init_9 : decode b_N_init 9 = .ok (.putfield 9, 3) := by decide +kernel
theorem d_N_init_12 : decode b_N_init 12 = .ok (.aload_n 0, 1) := by decide +kernel
theorem d_N_init_13 : decode b_N_init 13 = .ok (.bipush 16, 2) := by decide +kernel
theorem d_N_init_15 : decode b_N_init 15 = .ok (.newarray .long, 2) := by decide +kernel
theorem d_N_init_17 : decode b_N_init 17 = .ok (.putfield 15, 3) := by decide +kernel
theorem d_N_init_20 : decode b_N_init 20 = .ok (.aload_n 0, 1) := by decide +kernel
theorem d_N_init_21 : decode b_N_init 21 = .ok (.bipush 16, 2) := by decide +kernel
theorem d_N_init_23 : decode b_N_init 23 = .ok (.newarray .int, 2) := by decide +kernel
theorem d_N_init_25 : decode b_N_init 25 = .ok (.putfield 19, 3) := by decide +kernel
theorem d_N_init_28 : decode b_N_init 28 = .ok (.return_, 1) := by decide +kernel
abbrev b_Wi_init : ByteArray := prog_12_method_1_code
abbrev y_Wi_init : MethodName := ⟨"UnikernelHttp$Wire", "<init>", "(LUnikernelHttp$Neighbours;)V"⟩
theorem d_Wi_init_0 : decode b_Wi_init 0 = .ok (.aload_n 0, 1) := by decide +kernel
theorem d_Wi_init_1 : decode b_Wi_init 1 = .ok (.invokespecial 3, 3) := by decide +kernel
theorem d_Wi_init_4 : decode b_Wi_init 4 = .ok (.aload_n 0, 1) := by decide +kernel
theorem d_Wi_init_5 : decode b_Wi_init 5 = .ok (.ldc 9, 2) := by decide +kernel
theorem d_Wi_init_7 : decode b_Wi_init 7 = .ok (.newarray .byte, 2) := by decide +kernel
theorem d_Wi_init_9 : decode b_Wi_init 9 = .ok (.putfield 10, 3) := by decide +kernel
theorem d_Wi_init_12 : decode b_Wi_init 12 = .ok (.aload_n 0, 1) := by decide +kernel
theorem d_Wi_init_13 : decode b_Wi_init 13 = .ok (.bipush 64, 2) := by decide +kernel
theorem d_Wi_init_15 : decode b_Wi_init 15 = .ok (.newarray .int, 2) := by decide +kernel
theorem d_Wi_init_17 : decode b_Wi_init 17 = .ok (.putfield 16, 3) := by decide +kernel
theorem d_Wi_init_20 : decode b_Wi_init 20 = .ok (.aload_n 0, 1) := by decide +kernel
theorem d_Wi_init_21 : decode b_Wi_init 21 = .ok (.aload_n 1, 1) := by decide +kernel
theorem d_Wi_init_22 : decode b_Wi_init 22 = .ok (.putfield 20, 3) := by decide +kernel
theorem d_Wi_init_25 : decode b_Wi_init 25 = .ok (.return_, 1) := by decide +kernel
abbrev b_G_init : ByteArray := prog_3_method_1_code
abbrev y_G_init : MethodName := ⟨"UnikernelHttp$Gathering", "<init>", "()V"⟩
theorem d_G_init_0 : decode b_G_init 0 = .ok (.aload_n 0, 1) := by decide +kernel
theorem d_G_init_1 : decode b_G_init 1 = .ok (.invokespecial 3, 3) := by decide +kernel
theorem d_G_init_4 : decode b_G_init 4 = .ok (.aload_n 0, 1) := by decide +kernel
theorem d_G_init_5 : decode b_G_init 5 = .ok (.sipush 4096, 3) := by decide +kernel
theorem d_G_init_8 : decode b_G_init 8 = .ok (.newarray .byte, 2) := by decide +kernel
theorem d_G_init_10 : decode b_G_init 10 = .ok (.putfield 9, 3) := by decide +kernel
theorem d_G_init_13 : decode b_G_init 13 = .ok (.aload_n 0, 1) := by decide +kernel
theorem d_G_init_14 : decode b_G_init 14 = .ok (.sipush 4096, 3) := by decide +kernel
theorem d_G_init_17 : decode b_G_init 17 = .ok (.newarray .byte, 2) := by decide +kernel
theorem d_G_init_19 : decode b_G_init 19 = .ok (.putfield 15, 3) := by decide +kernel
theorem d_G_init_22 : decode b_G_init 22 = .ok (.return_, 1) := by decide +kernel
abbrev b_Gs_init : ByteArray := prog_4_method_1_code
abbrev y_Gs_init : MethodName := ⟨"UnikernelHttp$Gatherings", "<init>", "()V"⟩
theorem d_Gs_init_0 : decode b_Gs_init 0 = .ok (.aload_n 0, 1) := by decide +kernel
theorem d_Gs_init_1 : decode b_Gs_init 1 = .ok (.invokespecial 3, 3) := by decide +kernel
theorem d_Gs_init_4 : decode b_Gs_init 4 = .ok (.aload_n 0, 1) := by decide +kernel
theorem d_Gs_init_5 : decode b_Gs_init 5 = .ok (.iconst 4, 1) := by decide +kernel
theorem d_Gs_init_6 : decode b_Gs_init 6 = .ok (.anewarray 9, 3) := by decide +kernel
theorem d_Gs_init_9 : decode b_Gs_init 9 = .ok (.putfield 11, 3) := by decide +kernel
theorem d_Gs_init_12 : decode b_Gs_init 12 = .ok (.iconst 0, 1) := by decide +kernel
theorem d_Gs_init_13 : decode b_Gs_init 13 = .ok (.istore_n 1, 1) := by decide +kernel
theorem d_Gs_init_14 : decode b_Gs_init 14 = .ok (.iload_n 1, 1) := by decide +kernel
theorem d_Gs_init_15 : decode b_Gs_init 15 = .ok (.iconst 4, 1) := by decide +kernel
theorem d_Gs_init_16 : decode b_Gs_init 16 = .ok (.if_icmp .ge 22, 3) := by decide +kernel
theorem d_Gs_init_19 : decode b_Gs_init 19 = .ok (.aload_n 0, 1) := by decide +kernel
theorem d_Gs_init_20 : decode b_Gs_init 20 = .ok (.getfield 11, 3) := by decide +kernel
theorem d_Gs_init_23 : decode b_Gs_init 23 = .ok (.iload_n 1, 1) := by decide +kernel
theorem d_Gs_init_24 : decode b_Gs_init 24 = .ok (.new 9, 3) := by decide +kernel
theorem d_Gs_init_27 : decode b_Gs_init 27 = .ok (.dup, 1) := by decide +kernel
theorem d_Gs_init_28 : decode b_Gs_init 28 = .ok (.invokespecial 17, 3) := by decide +kernel
theorem d_Gs_init_31 : decode b_Gs_init 31 = .ok (.aastore, 1) := by decide +kernel
theorem d_Gs_init_32 : decode b_Gs_init 32 = .ok (.iinc 1 1, 3) := by decide +kernel
theorem d_Gs_init_35 : decode b_Gs_init 35 = .ok (.goto (-21), 3) := by decide +kernel
theorem d_Gs_init_38 : decode b_Gs_init 38 = .ok (.return_, 1) := by decide +kernel
abbrev b_Sg_init : ByteArray := prog_9_method_1_code
abbrev y_Sg_init : MethodName := ⟨"UnikernelHttp$Segment", "<init>", "()V"⟩
theorem d_Sg_init_0 : decode b_Sg_init 0 = .ok (.aload_n 0, 1) := by decide +kernel
theorem d_Sg_init_1 : decode b_Sg_init 1 = .ok (.invokespecial 3, 3) := by decide +kernel
theorem d_Sg_init_4 : decode b_Sg_init 4 = .ok (.aload_n 0, 1) := by decide +kernel
theorem d_Sg_init_5 : decode b_Sg_init 5 = .ok (.iconst 0, 1) := by decide +kernel
theorem d_Sg_init_6 : decode b_Sg_init 6 = .ok (.newarray .byte, 2) := by decide +kernel
theorem d_Sg_init_8 : decode b_Sg_init 8 = .ok (.putfield 9, 3) := by decide +kernel
theorem d_Sg_init_11 : decode b_Sg_init 11 = .ok (.return_, 1) := by decide +kernel
abbrev b_In_init : ByteArray := prog_6_method_1_code
abbrev y_In_init : MethodName := ⟨"UnikernelHttp$Inbox", "<init>", "()V"⟩
theorem d_In_init_0 : decode b_In_init 0 = .ok (.aload_n 0, 1) := by decide +kernel
theorem d_In_init_1 : decode b_In_init 1 = .ok (.invokespecial 3, 3) := by decide +kernel
theorem d_In_init_4 : decode b_In_init 4 = .ok (.aload_n 0, 1) := by decide +kernel
theorem d_In_init_5 : decode b_In_init 5 = .ok (.sipush 2048, 3) := by decide +kernel
theorem d_In_init_8 : decode b_In_init 8 = .ok (.newarray .byte, 2) := by decide +kernel
theorem d_In_init_10 : decode b_In_init 10 = .ok (.putfield 9, 3) := by decide +kernel
theorem d_In_init_13 : decode b_In_init 13 = .ok (.aload_n 0, 1) := by decide +kernel
theorem d_In_init_14 : decode b_In_init 14 = .ok (.sipush 2048, 3) := by decide +kernel
theorem d_In_init_17 : decode b_In_init 17 = .ok (.newarray .byte, 2) := by decide +kernel
theorem d_In_init_19 : decode b_In_init 19 = .ok (.putfield 15, 3) := by decide +kernel
theorem d_In_init_22 : decode b_In_init 22 = .ok (.return_, 1) := by decide +kernel
abbrev b_Ou_init : ByteArray := prog_8_method_1_code
abbrev y_Ou_init : MethodName := ⟨"UnikernelHttp$Outbox", "<init>", "()V"⟩
theorem d_Ou_init_0 : decode b_Ou_init 0 = .ok (.aload_n 0, 1) := by decide +kernel
theorem d_Ou_init_1 : decode b_Ou_init 1 = .ok (.invokespecial 3, 3) := by decide +kernel
theorem d_Ou_init_4 : decode b_Ou_init 4 = .ok (.aload_n 0, 1) := by decide +kernel
theorem d_Ou_init_5 : decode b_Ou_init 5 = .ok (.sipush 4096, 3) := by decide +kernel
theorem d_Ou_init_8 : decode b_Ou_init 8 = .ok (.newarray .byte, 2) := by decide +kernel
theorem d_Ou_init_10 : decode b_Ou_init 10 = .ok (.putfield 9, 3) := by decide +kernel
theorem d_Ou_init_13 : decode b_Ou_init 13 = .ok (.return_, 1) := by decide +kernel
abbrev b_Co_init : ByteArray := prog_2_method_1_code
abbrev y_Co_init : MethodName := ⟨"UnikernelHttp$Connection", "<init>", "()V"⟩
theorem d_Co_init_0 : decode b_Co_init 0 = .ok (.aload_n 0, 1) := by decide +kernel
theorem d_Co_init_1 : decode b_Co_init 1 = .ok (.invokespecial 3, 3) := by decide +kernel
theorem d_Co_init_4 : decode b_Co_init 4 = .ok (.aload_n 0, 1) := by decide +kernel
theorem d_Co_init_5 : decode b_Co_init 5 = .ok (.new 9, 3) := by decide +kernel
theorem d_Co_init_8 : decode b_Co_init 8 = .ok (.dup, 1) := by decide +kernel
theorem d_Co_init_9 : decode b_Co_init 9 = .ok (.invokespecial 11, 3) := by decide +kernel
theorem d_Co_init_12 : decode b_Co_init 12 = .ok (.putfield 12, 3) := by decide +kernel
theorem d_Co_init_15 : decode b_Co_init 15 = .ok (.aload_n 0, 1) := by decide +kernel
theorem d_Co_init_16 : decode b_Co_init 16 = .ok (.new 18, 3) := by decide +kernel
theorem d_Co_init_19 : decode b_Co_init 19 = .ok (.dup, 1) := by decide +kernel
theorem d_Co_init_20 : decode b_Co_init 20 = .ok (.invokespecial 20, 3) := by decide +kernel
theorem d_Co_init_23 : decode b_Co_init 23 = .ok (.putfield 21, 3) := by decide +kernel
theorem d_Co_init_26 : decode b_Co_init 26 = .ok (.return_, 1) := by decide +kernel
abbrev b_Tc_init : ByteArray := prog_11_method_1_code
abbrev y_Tc_init : MethodName := ⟨"UnikernelHttp$Tcp", "<init>", "(LUnikernelHttp$Wire;)V"⟩
theorem d_Tc_init_0 : decode b_Tc_init 0 = .ok (.aload_n 0, 1) := by decide +kernel
theorem d_Tc_init_1 : decode b_Tc_init 1 = .ok (.invokespecial 3, 3) := by decide +kernel
theorem d_Tc_init_4 : decode b_Tc_init 4 = .ok (.aload_n 0, 1) := by decide +kernel
theorem d_Tc_init_5 : decode b_Tc_init 5 = .ok (.bipush 8, 2) := by decide +kernel
theorem d_Tc_init_7 : decode b_Tc_init 7 = .ok (.anewarray 9, 3) := by decide +kernel
theorem d_Tc_init_10 : decode b_Tc_init 10 = .ok (.putfield 11, 3) := by decide +kernel
theorem d_Tc_init_13 : decode b_Tc_init 13 = .ok (.aload_n 0, 1) := by decide +kernel
theorem d_Tc_init_14 : decode b_Tc_init 14 = .ok (.sipush 560, 3) := by decide +kernel
theorem d_Tc_init_17 : decode b_Tc_init 17 = .ok (.newarray .byte, 2) := by decide +kernel
theorem d_Tc_init_19 : decode b_Tc_init 19 = .ok (.putfield 17, 3) := by decide +kernel
theorem d_Tc_init_22 : decode b_Tc_init 22 = .ok (.aload_n 0, 1) := by decide +kernel
theorem d_Tc_init_23 : decode b_Tc_init 23 = .ok (.aload_n 1, 1) := by decide +kernel
theorem d_Tc_init_24 : decode b_Tc_init 24 = .ok (.putfield 21, 3) := by decide +kernel
theorem d_Tc_init_27 : decode b_Tc_init 27 = .ok (.iconst 0, 1) := by decide +kernel
theorem d_Tc_init_28 : decode b_Tc_init 28 = .ok (.istore_n 2, 1) := by decide +kernel
theorem d_Tc_init_29 : decode b_Tc_init 29 = .ok (.iload_n 2, 1) := by decide +kernel
theorem d_Tc_init_30 : decode b_Tc_init 30 = .ok (.bipush 8, 2) := by decide +kernel
theorem d_Tc_init_32 : decode b_Tc_init 32 = .ok (.if_icmp .ge 22, 3) := by decide +kernel
theorem d_Tc_init_35 : decode b_Tc_init 35 = .ok (.aload_n 0, 1) := by decide +kernel
theorem d_Tc_init_36 : decode b_Tc_init 36 = .ok (.getfield 11, 3) := by decide +kernel
theorem d_Tc_init_39 : decode b_Tc_init 39 = .ok (.iload_n 2, 1) := by decide +kernel
theorem d_Tc_init_40 : decode b_Tc_init 40 = .ok (.new 9, 3) := by decide +kernel
theorem d_Tc_init_43 : decode b_Tc_init 43 = .ok (.dup, 1) := by decide +kernel
theorem d_Tc_init_44 : decode b_Tc_init 44 = .ok (.invokespecial 25, 3) := by decide +kernel
theorem d_Tc_init_47 : decode b_Tc_init 47 = .ok (.aastore, 1) := by decide +kernel
theorem d_Tc_init_48 : decode b_Tc_init 48 = .ok (.iinc 2 1, 3) := by decide +kernel
theorem d_Tc_init_51 : decode b_Tc_init 51 = .ok (.goto (-22), 3) := by decide +kernel
theorem d_Tc_init_54 : decode b_Tc_init 54 = .ok (.return_, 1) := by decide +kernel
abbrev b_So_init : ByteArray := prog_10_method_1_code
abbrev y_So_init : MethodName := ⟨"UnikernelHttp$Store", "<init>", "()V"⟩
theorem d_So_init_0 : decode b_So_init 0 = .ok (.aload_n 0, 1) := by decide +kernel
theorem d_So_init_1 : decode b_So_init 1 = .ok (.invokespecial 3, 3) := by decide +kernel
theorem d_So_init_4 : decode b_So_init 4 = .ok (.aload_n 0, 1) := by decide +kernel
theorem d_So_init_5 : decode b_So_init 5 = .ok (.bipush 32, 2) := by decide +kernel
theorem d_So_init_7 : decode b_So_init 7 = .ok (.bipush 64, 2) := by decide +kernel
theorem d_So_init_9 : decode b_So_init 9 = .ok (.multianewarray 9 2, 4) := by decide +kernel
theorem d_So_init_13 : decode b_So_init 13 = .ok (.putfield 11, 3) := by decide +kernel
theorem d_So_init_16 : decode b_So_init 16 = .ok (.aload_n 0, 1) := by decide +kernel
theorem d_So_init_17 : decode b_So_init 17 = .ok (.bipush 32, 2) := by decide +kernel
theorem d_So_init_19 : decode b_So_init 19 = .ok (.newarray .int, 2) := by decide +kernel
theorem d_So_init_21 : decode b_So_init 21 = .ok (.putfield 16, 3) := by decide +kernel
theorem d_So_init_24 : decode b_So_init 24 = .ok (.aload_n 0, 1) := by decide +kernel
theorem d_So_init_25 : decode b_So_init 25 = .ok (.bipush 32, 2) := by decide +kernel
theorem d_So_init_27 : decode b_So_init 27 = .ok (.sipush 1500, 3) := by decide +kernel
theorem d_So_init_30 : decode b_So_init 30 = .ok (.multianewarray 9 2, 4) := by decide +kernel
theorem d_So_init_34 : decode b_So_init 34 = .ok (.putfield 20, 3) := by decide +kernel
theorem d_So_init_37 : decode b_So_init 37 = .ok (.aload_n 0, 1) := by decide +kernel
theorem d_So_init_38 : decode b_So_init 38 = .ok (.bipush 32, 2) := by decide +kernel
theorem d_So_init_40 : decode b_So_init 40 = .ok (.newarray .int, 2) := by decide +kernel
theorem d_So_init_42 : decode b_So_init 42 = .ok (.putfield 23, 3) := by decide +kernel
theorem d_So_init_45 : decode b_So_init 45 = .ok (.aload_n 0, 1) := by decide +kernel
theorem d_So_init_46 : decode b_So_init 46 = .ok (.bipush 32, 2) := by decide +kernel
theorem d_So_init_48 : decode b_So_init 48 = .ok (.newarray .int, 2) := by decide +kernel
theorem d_So_init_50 : decode b_So_init 50 = .ok (.putfield 26, 3) := by decide +kernel
theorem d_So_init_53 : decode b_So_init 53 = .ok (.return_, 1) := by decide +kernel
abbrev b_Ht_init : ByteArray := prog_5_method_1_code
abbrev y_Ht_init : MethodName := ⟨"UnikernelHttp$Http", "<init>", "(LUnikernelHttp$Store;)V"⟩
theorem d_Ht_init_0 : decode b_Ht_init 0 = .ok (.aload_n 0, 1) := by decide +kernel
theorem d_Ht_init_1 : decode b_Ht_init 1 = .ok (.invokespecial 3, 3) := by decide +kernel
theorem d_Ht_init_4 : decode b_Ht_init 4 = .ok (.aload_n 0, 1) := by decide +kernel
theorem d_Ht_init_5 : decode b_Ht_init 5 = .ok (.sipush 1700, 3) := by decide +kernel
theorem d_Ht_init_8 : decode b_Ht_init 8 = .ok (.newarray .byte, 2) := by decide +kernel
theorem d_Ht_init_10 : decode b_Ht_init 10 = .ok (.putfield 9, 3) := by decide +kernel
theorem d_Ht_init_13 : decode b_Ht_init 13 = .ok (.aload_n 0, 1) := by decide +kernel
theorem d_Ht_init_14 : decode b_Ht_init 14 = .ok (.aload_n 1, 1) := by decide +kernel
theorem d_Ht_init_15 : decode b_Ht_init 15 = .ok (.putfield 15, 3) := by decide +kernel
theorem d_Ht_init_18 : decode b_Ht_init 18 = .ok (.return_, 1) := by decide +kernel
abbrev b_U_init : ByteArray := prog_1_method_1_code
abbrev y_U_init : MethodName := ⟨"UnikernelHttp", "<init>", "()V"⟩
theorem d_U_init_0 : decode b_U_init 0 = .ok (.aload_n 0, 1) := by decide +kernel
theorem d_U_init_1 : decode b_U_init 1 = .ok (.invokespecial 5, 3) := by decide +kernel
theorem d_U_init_4 : decode b_U_init 4 = .ok (.aload_n 0, 1) := by decide +kernel
theorem d_U_init_5 : decode b_U_init 5 = .ok (.sipush 2000, 3) := by decide +kernel
theorem d_U_init_8 : decode b_U_init 8 = .ok (.newarray .byte, 2) := by decide +kernel
theorem d_U_init_10 : decode b_U_init 10 = .ok (.putfield 11, 3) := by decide +kernel
theorem d_U_init_13 : decode b_U_init 13 = .ok (.aload_n 0, 1) := by decide +kernel
theorem d_U_init_14 : decode b_U_init 14 = .ok (.new 15, 3) := by decide +kernel
theorem d_U_init_17 : decode b_U_init 17 = .ok (.dup, 1) := by decide +kernel
theorem d_U_init_18 : decode b_U_init 18 = .ok (.invokespecial 17, 3) := by decide +kernel
theorem d_U_init_21 : decode b_U_init 21 = .ok (.putfield 18, 3) := by decide +kernel
theorem d_U_init_24 : decode b_U_init 24 = .ok (.aload_n 0, 1) := by decide +kernel
theorem d_U_init_25 : decode b_U_init 25 = .ok (.new 22, 3) := by decide +kernel
theorem d_U_init_28 : decode b_U_init 28 = .ok (.dup, 1) := by decide +kernel
theorem d_U_init_29 : decode b_U_init 29 = .ok (.aload_n 0, 1) := by decide +kernel
theorem d_U_init_30 : decode b_U_init 30 = .ok (.getfield 18, 3) := by decide +kernel
theorem d_U_init_33 : decode b_U_init 33 = .ok (.invokespecial 24, 3) := by decide +kernel
theorem d_U_init_36 : decode b_U_init 36 = .ok (.putfield 27, 3) := by decide +kernel
theorem d_U_init_39 : decode b_U_init 39 = .ok (.aload_n 0, 1) := by decide +kernel
theorem d_U_init_40 : decode b_U_init 40 = .ok (.new 31, 3) := by decide +kernel
theorem d_U_init_43 : decode b_U_init 43 = .ok (.dup, 1) := by decide +kernel
theorem d_U_init_44 : decode b_U_init 44 = .ok (.invokespecial 33, 3) := by decide +kernel
theorem d_U_init_47 : decode b_U_init 47 = .ok (.putfield 34, 3) := by decide +kernel
theorem d_U_init_50 : decode b_U_init 50 = .ok (.aload_n 0, 1) := by decide +kernel
theorem d_U_init_51 : decode b_U_init 51 = .ok (.new 38, 3) := by decide +kernel
theorem d_U_init_54 : decode b_U_init 54 = .ok (.dup, 1) := by decide +kernel
theorem d_U_init_55 : decode b_U_init 55 = .ok (.invokespecial 40, 3) := by decide +kernel
theorem d_U_init_58 : decode b_U_init 58 = .ok (.putfield 41, 3) := by decide +kernel
theorem d_U_init_61 : decode b_U_init 61 = .ok (.aload_n 0, 1) := by decide +kernel
theorem d_U_init_62 : decode b_U_init 62 = .ok (.new 45, 3) := by decide +kernel
theorem d_U_init_65 : decode b_U_init 65 = .ok (.dup, 1) := by decide +kernel
theorem d_U_init_66 : decode b_U_init 66 = .ok (.aload_n 0, 1) := by decide +kernel
theorem d_U_init_67 : decode b_U_init 67 = .ok (.getfield 27, 3) := by decide +kernel
theorem d_U_init_70 : decode b_U_init 70 = .ok (.invokespecial 47, 3) := by decide +kernel
theorem d_U_init_73 : decode b_U_init 73 = .ok (.putfield 50, 3) := by decide +kernel
theorem d_U_init_76 : decode b_U_init 76 = .ok (.aload_n 0, 1) := by decide +kernel
theorem d_U_init_77 : decode b_U_init 77 = .ok (.new 54, 3) := by decide +kernel
theorem d_U_init_80 : decode b_U_init 80 = .ok (.dup, 1) := by decide +kernel
theorem d_U_init_81 : decode b_U_init 81 = .ok (.invokespecial 56, 3) := by decide +kernel
theorem d_U_init_84 : decode b_U_init 84 = .ok (.putfield 57, 3) := by decide +kernel
theorem d_U_init_87 : decode b_U_init 87 = .ok (.aload_n 0, 1) := by decide +kernel
theorem d_U_init_88 : decode b_U_init 88 = .ok (.new 61, 3) := by decide +kernel
theorem d_U_init_91 : decode b_U_init 91 = .ok (.dup, 1) := by decide +kernel
theorem d_U_init_92 : decode b_U_init 92 = .ok (.aload_n 0, 1) := by decide +kernel
theorem d_U_init_93 : decode b_U_init 93 = .ok (.getfield 57, 3) := by decide +kernel
theorem d_U_init_96 : decode b_U_init 96 = .ok (.invokespecial 63, 3) := by decide +kernel
theorem d_U_init_99 : decode b_U_init 99 = .ok (.putfield 66, 3) := by decide +kernel
theorem d_U_init_102 : decode b_U_init 102 = .ok (.aload_n 0, 1) := by decide +kernel
theorem d_U_init_103 : decode b_U_init 103 = .ok (.sipush 1484, 3) := by decide +kernel
theorem d_U_init_106 : decode b_U_init 106 = .ok (.newarray .byte, 2) := by decide +kernel
theorem d_U_init_108 : decode b_U_init 108 = .ok (.putfield 70, 3) := by decide +kernel
theorem d_U_init_111 : decode b_U_init 111 = .ok (.aload_n 0, 1) := by decide +kernel
theorem d_U_init_112 : decode b_U_init 112 = .ok (.aload_n 0, 1) := by decide +kernel
theorem d_U_init_113 : decode b_U_init 113 = .ok (.getfield 11, 3) := by decide +kernel
theorem d_U_init_116 : decode b_U_init 116 = .ok (.putfield 73, 3) := by decide +kernel
theorem d_U_init_119 : decode b_U_init 119 = .ok (.return_, 1) := by decide +kernel
abbrev b_Pe_init : ByteArray := prog_15_method_1_code
abbrev y_Pe_init : MethodName := ⟨"UnikernelHttpModel$Peer", "<init>", "()V"⟩
theorem d_Pe_init_0 : decode b_Pe_init 0 = .ok (.aload_n 0, 1) := by decide +kernel
theorem d_Pe_init_1 : decode b_Pe_init 1 = .ok (.invokespecial 3, 3) := by decide +kernel
theorem d_Pe_init_4 : decode b_Pe_init 4 = .ok (.aload_n 0, 1) := by decide +kernel
theorem d_Pe_init_5 : decode b_Pe_init 5 = .ok (.sipush 2048, 3) := by decide +kernel
theorem d_Pe_init_8 : decode b_Pe_init 8 = .ok (.newarray .byte, 2) := by decide +kernel
theorem d_Pe_init_10 : decode b_Pe_init 10 = .ok (.putfield 9, 3) := by decide +kernel
theorem d_Pe_init_13 : decode b_Pe_init 13 = .ok (.aload_n 0, 1) := by decide +kernel
theorem d_Pe_init_14 : decode b_Pe_init 14 = .ok (.sipush 2048, 3) := by decide +kernel
theorem d_Pe_init_17 : decode b_Pe_init 17 = .ok (.newarray .byte, 2) := by decide +kernel
theorem d_Pe_init_19 : decode b_Pe_init 19 = .ok (.putfield 15, 3) := by decide +kernel
theorem d_Pe_init_22 : decode b_Pe_init 22 = .ok (.aload_n 0, 1) := by decide +kernel
theorem d_Pe_init_23 : decode b_Pe_init 23 = .ok (.sipush 2048, 3) := by decide +kernel
theorem d_Pe_init_26 : decode b_Pe_init 26 = .ok (.newarray .boolean, 2) := by decide +kernel
theorem d_Pe_init_28 : decode b_Pe_init 28 = .ok (.putfield 18, 3) := by decide +kernel
theorem d_Pe_init_31 : decode b_Pe_init 31 = .ok (.aload_n 0, 1) := by decide +kernel
theorem d_Pe_init_32 : decode b_Pe_init 32 = .ok (.sipush 4096, 3) := by decide +kernel
theorem d_Pe_init_35 : decode b_Pe_init 35 = .ok (.newarray .byte, 2) := by decide +kernel
theorem d_Pe_init_37 : decode b_Pe_init 37 = .ok (.putfield 22, 3) := by decide +kernel
theorem d_Pe_init_40 : decode b_Pe_init 40 = .ok (.return_, 1) := by decide +kernel
abbrev b_Mo_init : ByteArray := prog_14_method_1_code
abbrev y_Mo_init : MethodName := ⟨"UnikernelHttpModel", "<init>", "()V"⟩
theorem d_Mo_init_0 : decode b_Mo_init 0 = .ok (.aload_n 0, 1) := by decide +kernel
theorem d_Mo_init_1 : decode b_Mo_init 1 = .ok (.invokespecial 1, 3) := by decide +kernel
theorem d_Mo_init_4 : decode b_Mo_init 4 = .ok (.aload_n 0, 1) := by decide +kernel
theorem d_Mo_init_5 : decode b_Mo_init 5 = .ok (.sipush 2000, 3) := by decide +kernel
theorem d_Mo_init_8 : decode b_Mo_init 8 = .ok (.newarray .byte, 2) := by decide +kernel
theorem d_Mo_init_10 : decode b_Mo_init 10 = .ok (.putfield 9, 3) := by decide +kernel
theorem d_Mo_init_13 : decode b_Mo_init 13 = .ok (.aload_n 0, 1) := by decide +kernel
theorem d_Mo_init_14 : decode b_Mo_init 14 = .ok (.sipush 5718, 3) := by decide +kernel
theorem d_Mo_init_17 : decode b_Mo_init 17 = .ok (.newarray .byte, 2) := by decide +kernel
theorem d_Mo_init_19 : decode b_Mo_init 19 = .ok (.putfield 13, 3) := by decide +kernel
theorem d_Mo_init_22 : decode b_Mo_init 22 = .ok (.aload_n 0, 1) := by decide +kernel
theorem d_Mo_init_23 : decode b_Mo_init 23 = .ok (.sipush 4300, 3) := by decide +kernel
theorem d_Mo_init_26 : decode b_Mo_init 26 = .ok (.newarray .byte, 2) := by decide +kernel
theorem d_Mo_init_28 : decode b_Mo_init 28 = .ok (.putfield 16, 3) := by decide +kernel
theorem d_Mo_init_31 : decode b_Mo_init 31 = .ok (.aload_n 0, 1) := by decide +kernel
theorem d_Mo_init_32 : decode b_Mo_init 32 = .ok (.ldc 19, 2) := by decide +kernel
theorem d_Mo_init_34 : decode b_Mo_init 34 = .ok (.newarray .byte, 2) := by decide +kernel
theorem d_Mo_init_36 : decode b_Mo_init 36 = .ok (.putfield 20, 3) := by decide +kernel
theorem d_Mo_init_39 : decode b_Mo_init 39 = .ok (.aload_n 0, 1) := by decide +kernel
theorem d_Mo_init_40 : decode b_Mo_init 40 = .ok (.bipush 64, 2) := by decide +kernel
theorem d_Mo_init_42 : decode b_Mo_init 42 = .ok (.newarray .int, 2) := by decide +kernel
theorem d_Mo_init_44 : decode b_Mo_init 44 = .ok (.putfield 23, 3) := by decide +kernel
theorem d_Mo_init_47 : decode b_Mo_init 47 = .ok (.aload_n 0, 1) := by decide +kernel
theorem d_Mo_init_48 : decode b_Mo_init 48 = .ok (.bipush 16, 2) := by decide +kernel
theorem d_Mo_init_50 : decode b_Mo_init 50 = .ok (.newarray .int, 2) := by decide +kernel
theorem d_Mo_init_52 : decode b_Mo_init 52 = .ok (.putfield 27, 3) := by decide +kernel
theorem d_Mo_init_55 : decode b_Mo_init 55 = .ok (.aload_n 0, 1) := by decide +kernel
theorem d_Mo_init_56 : decode b_Mo_init 56 = .ok (.bipush 16, 2) := by decide +kernel
theorem d_Mo_init_58 : decode b_Mo_init 58 = .ok (.newarray .int, 2) := by decide +kernel
theorem d_Mo_init_60 : decode b_Mo_init 60 = .ok (.putfield 30, 3) := by decide +kernel
theorem d_Mo_init_63 : decode b_Mo_init 63 = .ok (.aload_n 0, 1) := by decide +kernel
theorem d_Mo_init_64 : decode b_Mo_init 64 = .ok (.bipush 16, 2) := by decide +kernel
theorem d_Mo_init_66 : decode b_Mo_init 66 = .ok (.newarray .long, 2) := by decide +kernel
theorem d_Mo_init_68 : decode b_Mo_init 68 = .ok (.putfield 33, 3) := by decide +kernel
theorem d_Mo_init_71 : decode b_Mo_init 71 = .ok (.aload_n 0, 1) := by decide +kernel
theorem d_Mo_init_72 : decode b_Mo_init 72 = .ok (.iconst 4, 1) := by decide +kernel
theorem d_Mo_init_73 : decode b_Mo_init 73 = .ok (.newarray .int, 2) := by decide +kernel
theorem d_Mo_init_75 : decode b_Mo_init 75 = .ok (.putfield 37, 3) := by decide +kernel
theorem d_Mo_init_78 : decode b_Mo_init 78 = .ok (.aload_n 0, 1) := by decide +kernel
theorem d_Mo_init_79 : decode b_Mo_init 79 = .ok (.iconst 4, 1) := by decide +kernel
theorem d_Mo_init_80 : decode b_Mo_init 80 = .ok (.newarray .int, 2) := by decide +kernel
theorem d_Mo_init_82 : decode b_Mo_init 82 = .ok (.putfield 40, 3) := by decide +kernel
theorem d_Mo_init_85 : decode b_Mo_init 85 = .ok (.aload_n 0, 1) := by decide +kernel
theorem d_Mo_init_86 : decode b_Mo_init 86 = .ok (.iconst 4, 1) := by decide +kernel
theorem d_Mo_init_87 : decode b_Mo_init 87 = .ok (.newarray .int, 2) := by decide +kernel
theorem d_Mo_init_89 : decode b_Mo_init 89 = .ok (.putfield 43, 3) := by decide +kernel
theorem d_Mo_init_92 : decode b_Mo_init 92 = .ok (.aload_n 0, 1) := by decide +kernel
theorem d_Mo_init_93 : decode b_Mo_init 93 = .ok (.iconst 4, 1) := by decide +kernel
theorem d_Mo_init_94 : decode b_Mo_init 94 = .ok (.newarray .int, 2) := by decide +kernel
theorem d_Mo_init_96 : decode b_Mo_init 96 = .ok (.putfield 46, 3) := by decide +kernel
theorem d_Mo_init_99 : decode b_Mo_init 99 = .ok (.aload_n 0, 1) := by decide +kernel
theorem d_Mo_init_100 : decode b_Mo_init 100 = .ok (.iconst 4, 1) := by decide +kernel
theorem d_Mo_init_101 : decode b_Mo_init 101 = .ok (.newarray .int, 2) := by decide +kernel
theorem d_Mo_init_103 : decode b_Mo_init 103 = .ok (.putfield 49, 3) := by decide +kernel
theorem d_Mo_init_106 : decode b_Mo_init 106 = .ok (.aload_n 0, 1) := by decide +kernel
theorem d_Mo_init_107 : decode b_Mo_init 107 = .ok (.iconst 4, 1) := by decide +kernel
theorem d_Mo_init_108 : decode b_Mo_init 108 = .ok (.newarray .int, 2) := by decide +kernel
theorem d_Mo_init_110 : decode b_Mo_init 110 = .ok (.putfield 52, 3) := by decide +kernel
theorem d_Mo_init_113 : decode b_Mo_init 113 = .ok (.aload_n 0, 1) := by decide +kernel
theorem d_Mo_init_114 : decode b_Mo_init 114 = .ok (.sipush 16384, 3) := by decide +kernel
theorem d_Mo_init_117 : decode b_Mo_init 117 = .ok (.newarray .byte, 2) := by decide +kernel
theorem d_Mo_init_119 : decode b_Mo_init 119 = .ok (.putfield 55, 3) := by decide +kernel
theorem d_Mo_init_122 : decode b_Mo_init 122 = .ok (.aload_n 0, 1) := by decide +kernel
theorem d_Mo_init_123 : decode b_Mo_init 123 = .ok (.sipush 16384, 3) := by decide +kernel
theorem d_Mo_init_126 : decode b_Mo_init 126 = .ok (.newarray .boolean, 2) := by decide +kernel
theorem d_Mo_init_128 : decode b_Mo_init 128 = .ok (.putfield 58, 3) := by decide +kernel
theorem d_Mo_init_131 : decode b_Mo_init 131 = .ok (.aload_n 0, 1) := by decide +kernel
theorem d_Mo_init_132 : decode b_Mo_init 132 = .ok (.sipush 2048, 3) := by decide +kernel
theorem d_Mo_init_135 : decode b_Mo_init 135 = .ok (.newarray .byte, 2) := by decide +kernel
theorem d_Mo_init_137 : decode b_Mo_init 137 = .ok (.putfield 62, 3) := by decide +kernel
theorem d_Mo_init_140 : decode b_Mo_init 140 = .ok (.aload_n 0, 1) := by decide +kernel
theorem d_Mo_init_141 : decode b_Mo_init 141 = .ok (.ldc 65, 2) := by decide +kernel
theorem d_Mo_init_143 : decode b_Mo_init 143 = .ok (.newarray .byte, 2) := by decide +kernel
theorem d_Mo_init_145 : decode b_Mo_init 145 = .ok (.putfield 66, 3) := by decide +kernel
theorem d_Mo_init_148 : decode b_Mo_init 148 = .ok (.aload_n 0, 1) := by decide +kernel
theorem d_Mo_init_149 : decode b_Mo_init 149 = .ok (.bipush 32, 2) := by decide +kernel
theorem d_Mo_init_151 : decode b_Mo_init 151 = .ok (.newarray .int, 2) := by decide +kernel
theorem d_Mo_init_153 : decode b_Mo_init 153 = .ok (.putfield 69, 3) := by decide +kernel
theorem d_Mo_init_156 : decode b_Mo_init 156 = .ok (.aload_n 0, 1) := by decide +kernel
theorem d_Mo_init_157 : decode b_Mo_init 157 = .ok (.bipush 32, 2) := by decide +kernel
theorem d_Mo_init_159 : decode b_Mo_init 159 = .ok (.newarray .int, 2) := by decide +kernel
theorem d_Mo_init_161 : decode b_Mo_init 161 = .ok (.putfield 72, 3) := by decide +kernel
theorem d_Mo_init_164 : decode b_Mo_init 164 = .ok (.aload_n 0, 1) := by decide +kernel
theorem d_Mo_init_165 : decode b_Mo_init 165 = .ok (.bipush 32, 2) := by decide +kernel
theorem d_Mo_init_167 : decode b_Mo_init 167 = .ok (.newarray .int, 2) := by decide +kernel
theorem d_Mo_init_169 : decode b_Mo_init 169 = .ok (.putfield 75, 3) := by decide +kernel
theorem d_Mo_init_172 : decode b_Mo_init 172 = .ok (.aload_n 0, 1) := by decide +kernel
theorem d_Mo_init_173 : decode b_Mo_init 173 = .ok (.bipush 9, 2) := by decide +kernel
theorem d_Mo_init_175 : decode b_Mo_init 175 = .ok (.anewarray 78, 3) := by decide +kernel
theorem d_Mo_init_178 : decode b_Mo_init 178 = .ok (.putfield 80, 3) := by decide +kernel
theorem d_Mo_init_181 : decode b_Mo_init 181 = .ok (.aload_n 0, 1) := by decide +kernel
theorem d_Mo_init_182 : decode b_Mo_init 182 = .ok (.sipush 1800, 3) := by decide +kernel
theorem d_Mo_init_185 : decode b_Mo_init 185 = .ok (.newarray .byte, 2) := by decide +kernel
theorem d_Mo_init_187 : decode b_Mo_init 187 = .ok (.putfield 84, 3) := by decide +kernel
theorem d_Mo_init_190 : decode b_Mo_init 190 = .ok (.iconst 0, 1) := by decide +kernel
theorem d_Mo_init_191 : decode b_Mo_init 191 = .ok (.istore_n 1, 1) := by decide +kernel
theorem d_Mo_init_192 : decode b_Mo_init 192 = .ok (.iload_n 1, 1) := by decide +kernel
theorem d_Mo_init_193 : decode b_Mo_init 193 = .ok (.bipush 8, 2) := by decide +kernel
theorem d_Mo_init_195 : decode b_Mo_init 195 = .ok (.if_icmp .gt 22, 3) := by decide +kernel
theorem d_Mo_init_198 : decode b_Mo_init 198 = .ok (.aload_n 0, 1) := by decide +kernel
theorem d_Mo_init_199 : decode b_Mo_init 199 = .ok (.getfield 80, 3) := by decide +kernel
theorem d_Mo_init_202 : decode b_Mo_init 202 = .ok (.iload_n 1, 1) := by decide +kernel
theorem d_Mo_init_203 : decode b_Mo_init 203 = .ok (.new 78, 3) := by decide +kernel
theorem d_Mo_init_206 : decode b_Mo_init 206 = .ok (.dup, 1) := by decide +kernel
theorem d_Mo_init_207 : decode b_Mo_init 207 = .ok (.invokespecial 87, 3) := by decide +kernel
theorem d_Mo_init_210 : decode b_Mo_init 210 = .ok (.aastore, 1) := by decide +kernel
theorem d_Mo_init_211 : decode b_Mo_init 211 = .ok (.iinc 1 1, 3) := by decide +kernel
theorem d_Mo_init_214 : decode b_Mo_init 214 = .ok (.goto (-22), 3) := by decide +kernel
theorem d_Mo_init_217 : decode b_Mo_init 217 = .ok (.return_, 1) := by decide +kernel
