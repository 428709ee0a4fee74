theorem dm_L_0 : mj_dec code 0 = some (.new 7, 3) := by decide +kernel
theorem dm_L_3 : mj_dec code 3 = some (.dup, 1) := by decide +kernel
theorem dm_L_4 : mj_dec code 4 = some (.invokespecial 9, 3) := by decide +kernel
theorem dm_L_7 : mj_dec code 7 = some (.astore_n 1, 1) := by decide +kernel
theorem dm_L_8 : mj_dec code 8 = some (.new 10, 3) := by decide +kernel
theorem dm_L_11 : mj_dec code 11 = some (.dup, 1) := by decide +kernel
theorem dm_L_12 : mj_dec code 12 = some (.invokespecial 12, 3) := by decide +kernel
theorem dm_L_15 : mj_dec code 15 = some (.astore_n 2, 1) := by decide +kernel
theorem dm_L_16 : mj_dec code 16 = some (.iconst 0, 1) := by decide +kernel
theorem dm_L_17 : mj_dec code 17 = some (.istore_n 3, 1) := by decide +kernel
set_option maxRecDepth 20000 in
theorem pm_X11_init : mj_mmof pg_ms 0 = some ((⟨"ArrayCalculator", "<init>", "()V"⟩, prog_1_method_1_code, 1, (Option.none : Option Jvm.ClassFile.FieldType)), 11, true, mj_dec prog_1_method_1_code) := rfl
theorem dm_X11_init_0 : mj_dec prog_1_method_1_code 0 = some (.aload_n 0, 1) := by decide +kernel
theorem dm_X11_init_1 : mj_dec prog_1_method_1_code 1 = some (.invokespecial 1, 3) := by decide +kernel
theorem dm_X11_init_4 : mj_dec prog_1_method_1_code 4 = some (.aload_n 0, 1) := by decide +kernel
theorem dm_X11_init_5 : mj_dec prog_1_method_1_code 5 = some (.sipush 200, 3) := by decide +kernel
theorem dm_X11_init_8 : mj_dec prog_1_method_1_code 8 = some (.newarray .int, 2) := by decide +kernel
theorem dm_X11_init_10 : mj_dec prog_1_method_1_code 10 = some (.putfield 9, 3) := by decide +kernel
theorem dm_X11_init_13 : mj_dec prog_1_method_1_code 13 = some (.aload_n 0, 1) := by decide +kernel
theorem dm_X11_init_14 : mj_dec prog_1_method_1_code 14 = some (.new 13, 3) := by decide +kernel
theorem dm_X11_init_17 : mj_dec prog_1_method_1_code 17 = some (.dup, 1) := by decide +kernel
theorem dm_X11_init_18 : mj_dec prog_1_method_1_code 18 = some (.invokespecial 15, 3) := by decide +kernel
theorem dm_X11_init_21 : mj_dec prog_1_method_1_code 21 = some (.putfield 16, 3) := by decide +kernel
theorem dm_X11_init_24 : mj_dec prog_1_method_1_code 24 = some (.aload_n 0, 1) := by decide +kernel
theorem dm_X11_init_25 : mj_dec prog_1_method_1_code 25 = some (.new 20, 3) := by decide +kernel
theorem dm_X11_init_28 : mj_dec prog_1_method_1_code 28 = some (.dup, 1) := by decide +kernel
theorem dm_X11_init_29 : mj_dec prog_1_method_1_code 29 = some (.aload_n 0, 1) := by decide +kernel
theorem dm_X11_init_30 : mj_dec prog_1_method_1_code 30 = some (.getfield 9, 3) := by decide +kernel
theorem dm_X11_init_33 : mj_dec prog_1_method_1_code 33 = some (.aload_n 0, 1) := by decide +kernel
theorem dm_X11_init_34 : mj_dec prog_1_method_1_code 34 = some (.getfield 16, 3) := by decide +kernel
theorem dm_X11_init_37 : mj_dec prog_1_method_1_code 37 = some (.invokespecial 22, 3) := by decide +kernel
theorem dm_X11_init_40 : mj_dec prog_1_method_1_code 40 = some (.putfield 25, 3) := by decide +kernel
theorem dm_X11_init_43 : mj_dec prog_1_method_1_code 43 = some (.aload_n 0, 1) := by decide +kernel
theorem dm_X11_init_44 : mj_dec prog_1_method_1_code 44 = some (.new 29, 3) := by decide +kernel
theorem dm_X11_init_47 : mj_dec prog_1_method_1_code 47 = some (.dup, 1) := by decide +kernel
theorem dm_X11_init_48 : mj_dec prog_1_method_1_code 48 = some (.aload_n 0, 1) := by decide +kernel
theorem dm_X11_init_49 : mj_dec prog_1_method_1_code 49 = some (.getfield 25, 3) := by decide +kernel
theorem dm_X11_init_52 : mj_dec prog_1_method_1_code 52 = some (.invokespecial 31, 3) := by decide +kernel
theorem dm_X11_init_55 : mj_dec prog_1_method_1_code 55 = some (.putfield 34, 3) := by decide +kernel
theorem dm_X11_init_58 : mj_dec prog_1_method_1_code 58 = some (.aload_n 0, 1) := by decide +kernel
theorem dm_X11_init_59 : mj_dec prog_1_method_1_code 59 = some (.iconst 4, 1) := by decide +kernel
theorem dm_X11_init_60 : mj_dec prog_1_method_1_code 60 = some (.anewarray 13, 3) := by decide +kernel
theorem dm_X11_init_63 : mj_dec prog_1_method_1_code 63 = some (.putfield 38, 3) := by decide +kernel
theorem dm_X11_init_66 : mj_dec prog_1_method_1_code 66 = some (.aload_n 0, 1) := by decide +kernel
theorem dm_X11_init_67 : mj_dec prog_1_method_1_code 67 = some (.new 42, 3) := by decide +kernel
theorem dm_X11_init_70 : mj_dec prog_1_method_1_code 70 = some (.dup, 1) := by decide +kernel
theorem dm_X11_init_71 : mj_dec prog_1_method_1_code 71 = some (.aload_n 0, 1) := by decide +kernel
theorem dm_X11_init_72 : mj_dec prog_1_method_1_code 72 = some (.getfield 16, 3) := by decide +kernel
theorem dm_X11_init_75 : mj_dec prog_1_method_1_code 75 = some (.invokespecial 44, 3) := by decide +kernel
theorem dm_X11_init_78 : mj_dec prog_1_method_1_code 78 = some (.putfield 47, 3) := by decide +kernel
theorem dm_X11_init_81 : mj_dec prog_1_method_1_code 81 = some (.aload_n 0, 1) := by decide +kernel
theorem dm_X11_init_82 : mj_dec prog_1_method_1_code 82 = some (.new 51, 3) := by decide +kernel
theorem dm_X11_init_85 : mj_dec prog_1_method_1_code 85 = some (.dup, 1) := by decide +kernel
theorem dm_X11_init_86 : mj_dec prog_1_method_1_code 86 = some (.sipush 400, 3) := by decide +kernel
theorem dm_X11_init_89 : mj_dec prog_1_method_1_code 89 = some (.invokespecial 53, 3) := by decide +kernel
theorem dm_X11_init_92 : mj_dec prog_1_method_1_code 92 = some (.putfield 56, 3) := by decide +kernel
theorem dm_X11_init_95 : mj_dec prog_1_method_1_code 95 = some (.aload_n 0, 1) := by decide +kernel
theorem dm_X11_init_96 : mj_dec prog_1_method_1_code 96 = some (.lconst 0, 1) := by decide +kernel
theorem dm_X11_init_97 : mj_dec prog_1_method_1_code 97 = some (.invokestatic 60, 3) := by decide +kernel
theorem dm_X11_init_100 : mj_dec prog_1_method_1_code 100 = some (.putfield 66, 3) := by decide +kernel
theorem dm_X11_init_103 : mj_dec prog_1_method_1_code 103 = some (.aload_n 0, 1) := by decide +kernel
theorem dm_X11_init_104 : mj_dec prog_1_method_1_code 104 = some (.aload_n 0, 1) := by decide +kernel
theorem dm_X11_init_105 : mj_dec prog_1_method_1_code 105 = some (.getfield 66, 3) := by decide +kernel
theorem dm_X11_init_108 : mj_dec prog_1_method_1_code 108 = some (.putfield 70, 3) := by decide +kernel
theorem dm_X11_init_111 : mj_dec prog_1_method_1_code 111 = some (.aload_n 0, 1) := by decide +kernel
theorem dm_X11_init_112 : mj_dec prog_1_method_1_code 112 = some (.iconst (-1), 1) := by decide +kernel
theorem dm_X11_init_113 : mj_dec prog_1_method_1_code 113 = some (.putfield 73, 3) := by decide +kernel
theorem dm_X11_init_116 : mj_dec prog_1_method_1_code 116 = some (.return_, 1) := by decide +kernel
set_option maxRecDepth 20000 in
theorem pm_X2_init : mj_mmof pg_ms 1 = some ((⟨"ArrayCalculator$Names", "<init>", "()V"⟩, prog_4_method_1_code, 1, (Option.none : Option Jvm.ClassFile.FieldType)), 2, true, mj_dec prog_4_method_1_code) := rfl
theorem dm_X2_init_0 : mj_dec prog_4_method_1_code 0 = some (.aload_n 0, 1) := by decide +kernel
theorem dm_X2_init_1 : mj_dec prog_4_method_1_code 1 = some (.invokespecial 3, 3) := by decide +kernel
theorem dm_X2_init_4 : mj_dec prog_4_method_1_code 4 = some (.aload_n 0, 1) := by decide +kernel
theorem dm_X2_init_5 : mj_dec prog_4_method_1_code 5 = some (.bipush 40, 2) := by decide +kernel
theorem dm_X2_init_7 : mj_dec prog_4_method_1_code 7 = some (.newarray .long, 2) := by decide +kernel
theorem dm_X2_init_9 : mj_dec prog_4_method_1_code 9 = some (.putfield 9, 3) := by decide +kernel
theorem dm_X2_init_12 : mj_dec prog_4_method_1_code 12 = some (.aload_n 0, 1) := by decide +kernel
theorem dm_X2_init_13 : mj_dec prog_4_method_1_code 13 = some (.bipush 40, 2) := by decide +kernel
theorem dm_X2_init_15 : mj_dec prog_4_method_1_code 15 = some (.anewarray 15, 3) := by decide +kernel
theorem dm_X2_init_18 : mj_dec prog_4_method_1_code 18 = some (.putfield 17, 3) := by decide +kernel
theorem dm_X2_init_21 : mj_dec prog_4_method_1_code 21 = some (.aload_n 0, 1) := by decide +kernel
theorem dm_X2_init_22 : mj_dec prog_4_method_1_code 22 = some (.bipush 40, 2) := by decide +kernel
theorem dm_X2_init_24 : mj_dec prog_4_method_1_code 24 = some (.newarray .long, 2) := by decide +kernel
theorem dm_X2_init_26 : mj_dec prog_4_method_1_code 26 = some (.putfield 21, 3) := by decide +kernel
theorem dm_X2_init_29 : mj_dec prog_4_method_1_code 29 = some (.aload_n 0, 1) := by decide +kernel
theorem dm_X2_init_30 : mj_dec prog_4_method_1_code 30 = some (.bipush 40, 2) := by decide +kernel
theorem dm_X2_init_32 : mj_dec prog_4_method_1_code 32 = some (.anewarray 24, 3) := by decide +kernel
theorem dm_X2_init_35 : mj_dec prog_4_method_1_code 35 = some (.putfield 26, 3) := by decide +kernel
theorem dm_X2_init_38 : mj_dec prog_4_method_1_code 38 = some (.return_, 1) := by decide +kernel
set_option maxRecDepth 20000 in
theorem pm_X8_init : mj_mmof pg_ms 2 = some ((⟨"ArrayCalculator$Tokens", "<init>", "([ILArrayCalculator$Names;)V"⟩, prog_10_method_1_code, 3, (Option.none : Option Jvm.ClassFile.FieldType)), 8, true, mj_dec prog_10_method_1_code) := rfl
theorem dm_X8_init_0 : mj_dec prog_10_method_1_code 0 = some (.aload_n 0, 1) := by decide +kernel
theorem dm_X8_init_1 : mj_dec prog_10_method_1_code 1 = some (.invokespecial 3, 3) := by decide +kernel
theorem dm_X8_init_4 : mj_dec prog_10_method_1_code 4 = some (.aload_n 0, 1) := by decide +kernel
theorem dm_X8_init_5 : mj_dec prog_10_method_1_code 5 = some (.sipush 201, 3) := by decide +kernel
theorem dm_X8_init_8 : mj_dec prog_10_method_1_code 8 = some (.newarray .int, 2) := by decide +kernel
theorem dm_X8_init_10 : mj_dec prog_10_method_1_code 10 = some (.putfield 9, 3) := by decide +kernel
theorem dm_X8_init_13 : mj_dec prog_10_method_1_code 13 = some (.aload_n 0, 1) := by decide +kernel
theorem dm_X8_init_14 : mj_dec prog_10_method_1_code 14 = some (.sipush 201, 3) := by decide +kernel
theorem dm_X8_init_17 : mj_dec prog_10_method_1_code 17 = some (.newarray .int, 2) := by decide +kernel
theorem dm_X8_init_19 : mj_dec prog_10_method_1_code 19 = some (.putfield 15, 3) := by decide +kernel
theorem dm_X8_init_22 : mj_dec prog_10_method_1_code 22 = some (.aload_n 0, 1) := by decide +kernel
theorem dm_X8_init_23 : mj_dec prog_10_method_1_code 23 = some (.sipush 201, 3) := by decide +kernel
theorem dm_X8_init_26 : mj_dec prog_10_method_1_code 26 = some (.newarray .long, 2) := by decide +kernel
theorem dm_X8_init_28 : mj_dec prog_10_method_1_code 28 = some (.putfield 18, 3) := by decide +kernel
theorem dm_X8_init_31 : mj_dec prog_10_method_1_code 31 = some (.aload_n 0, 1) := by decide +kernel
theorem dm_X8_init_32 : mj_dec prog_10_method_1_code 32 = some (.aload_n 1, 1) := by decide +kernel
theorem dm_X8_init_33 : mj_dec prog_10_method_1_code 33 = some (.putfield 22, 3) := by decide +kernel
theorem dm_X8_init_36 : mj_dec prog_10_method_1_code 36 = some (.aload_n 0, 1) := by decide +kernel
theorem dm_X8_init_37 : mj_dec prog_10_method_1_code 37 = some (.aload_n 2, 1) := by decide +kernel
theorem dm_X8_init_38 : mj_dec prog_10_method_1_code 38 = some (.putfield 25, 3) := by decide +kernel
theorem dm_X8_init_41 : mj_dec prog_10_method_1_code 41 = some (.return_, 1) := by decide +kernel
set_option maxRecDepth 20000 in
theorem pm_X7_init : mj_mmof pg_ms 3 = some ((⟨"ArrayCalculator$Reader", "<init>", "(LArrayCalculator$Tokens;)V"⟩, prog_9_method_1_code, 2, (Option.none : Option Jvm.ClassFile.FieldType)), 7, true, mj_dec prog_9_method_1_code) := rfl
theorem dm_X7_init_0 : mj_dec prog_9_method_1_code 0 = some (.aload_n 0, 1) := by decide +kernel
theorem dm_X7_init_1 : mj_dec prog_9_method_1_code 1 = some (.invokespecial 3, 3) := by decide +kernel
theorem dm_X7_init_4 : mj_dec prog_9_method_1_code 4 = some (.aload_n 0, 1) := by decide +kernel
theorem dm_X7_init_5 : mj_dec prog_9_method_1_code 5 = some (.aload_n 1, 1) := by decide +kernel
theorem dm_X7_init_6 : mj_dec prog_9_method_1_code 6 = some (.putfield 9, 3) := by decide +kernel
theorem dm_X7_init_9 : mj_dec prog_9_method_1_code 9 = some (.aload_n 0, 1) := by decide +kernel
theorem dm_X7_init_10 : mj_dec prog_9_method_1_code 10 = some (.new 15, 3) := by decide +kernel
theorem dm_X7_init_13 : mj_dec prog_9_method_1_code 13 = some (.dup, 1) := by decide +kernel
theorem dm_X7_init_14 : mj_dec prog_9_method_1_code 14 = some (.iconst 0, 1) := by decide +kernel
theorem dm_X7_init_15 : mj_dec prog_9_method_1_code 15 = some (.iconst 0, 1) := by decide +kernel
theorem dm_X7_init_16 : mj_dec prog_9_method_1_code 16 = some (.aconst_null, 1) := by decide +kernel
theorem dm_X7_init_17 : mj_dec prog_9_method_1_code 17 = some (.invokespecial 17, 3) := by decide +kernel
theorem dm_X7_init_20 : mj_dec prog_9_method_1_code 20 = some (.putfield 20, 3) := by decide +kernel
theorem dm_X7_init_23 : mj_dec prog_9_method_1_code 23 = some (.return_, 1) := by decide +kernel
set_option maxRecDepth 20000 in
theorem pm_X4_init : mj_mmof pg_ms 4 = some ((⟨"ArrayCalculator$Op", "<init>", "(IILArrayCalculator$Op;)V"⟩, prog_6_method_1_code, 4, (Option.none : Option Jvm.ClassFile.FieldType)), 4, true, mj_dec prog_6_method_1_code) := rfl
theorem dm_X4_init_0 : mj_dec prog_6_method_1_code 0 = some (.aload_n 0, 1) := by decide +kernel
theorem dm_X4_init_1 : mj_dec prog_6_method_1_code 1 = some (.invokespecial 1, 3) := by decide +kernel
theorem dm_X4_init_4 : mj_dec prog_6_method_1_code 4 = some (.aload_n 0, 1) := by decide +kernel
theorem dm_X4_init_5 : mj_dec prog_6_method_1_code 5 = some (.iload_n 1, 1) := by decide +kernel
theorem dm_X4_init_6 : mj_dec prog_6_method_1_code 6 = some (.putfield 7, 3) := by decide +kernel
theorem dm_X4_init_9 : mj_dec prog_6_method_1_code 9 = some (.aload_n 0, 1) := by decide +kernel
theorem dm_X4_init_10 : mj_dec prog_6_method_1_code 10 = some (.iload_n 2, 1) := by decide +kernel
theorem dm_X4_init_11 : mj_dec prog_6_method_1_code 11 = some (.putfield 13, 3) := by decide +kernel
theorem dm_X4_init_14 : mj_dec prog_6_method_1_code 14 = some (.aload_n 0, 1) := by decide +kernel
theorem dm_X4_init_15 : mj_dec prog_6_method_1_code 15 = some (.aload_n 3, 1) := by decide +kernel
theorem dm_X4_init_16 : mj_dec prog_6_method_1_code 16 = some (.putfield 16, 3) := by decide +kernel
theorem dm_X4_init_19 : mj_dec prog_6_method_1_code 19 = some (.return_, 1) := by decide +kernel
set_option maxRecDepth 20000 in
theorem pm_X1_init : mj_mmof pg_ms 5 = some ((⟨"ArrayCalculator$Machine", "<init>", "(LArrayCalculator$Names;)V"⟩, prog_3_method_1_code, 3, (Option.none : Option Jvm.ClassFile.FieldType)), 1, true, mj_dec prog_3_method_1_code) := rfl
theorem dm_X1_init_0 : mj_dec prog_3_method_1_code 0 = some (.aload_n 0, 1) := by decide +kernel
theorem dm_X1_init_1 : mj_dec prog_3_method_1_code 1 = some (.invokespecial 3, 3) := by decide +kernel
theorem dm_X1_init_4 : mj_dec prog_3_method_1_code 4 = some (.aload_n 0, 1) := by decide +kernel
theorem dm_X1_init_5 : mj_dec prog_3_method_1_code 5 = some (.new 9, 3) := by decide +kernel
theorem dm_X1_init_8 : mj_dec prog_3_method_1_code 8 = some (.dup, 1) := by decide +kernel
theorem dm_X1_init_9 : mj_dec prog_3_method_1_code 9 = some (.invokespecial 11, 3) := by decide +kernel
theorem dm_X1_init_12 : mj_dec prog_3_method_1_code 12 = some (.putfield 12, 3) := by decide +kernel
theorem dm_X1_init_15 : mj_dec prog_3_method_1_code 15 = some (.aload_n 0, 1) := by decide +kernel
theorem dm_X1_init_16 : mj_dec prog_3_method_1_code 16 = some (.new 18, 3) := by decide +kernel
theorem dm_X1_init_19 : mj_dec prog_3_method_1_code 19 = some (.dup, 1) := by decide +kernel
theorem dm_X1_init_20 : mj_dec prog_3_method_1_code 20 = some (.invokespecial 20, 3) := by decide +kernel
theorem dm_X1_init_23 : mj_dec prog_3_method_1_code 23 = some (.putfield 21, 3) := by decide +kernel
theorem dm_X1_init_26 : mj_dec prog_3_method_1_code 26 = some (.aload_n 0, 1) := by decide +kernel
theorem dm_X1_init_27 : mj_dec prog_3_method_1_code 27 = some (.sipush 8192, 3) := by decide +kernel
theorem dm_X1_init_30 : mj_dec prog_3_method_1_code 30 = some (.anewarray 25, 3) := by decide +kernel
theorem dm_X1_init_33 : mj_dec prog_3_method_1_code 33 = some (.putfield 27, 3) := by decide +kernel
theorem dm_X1_init_36 : mj_dec prog_3_method_1_code 36 = some (.aload_n 0, 1) := by decide +kernel
theorem dm_X1_init_37 : mj_dec prog_3_method_1_code 37 = some (.bipush 64, 2) := by decide +kernel
theorem dm_X1_init_39 : mj_dec prog_3_method_1_code 39 = some (.anewarray 31, 3) := by decide +kernel
theorem dm_X1_init_42 : mj_dec prog_3_method_1_code 42 = some (.putfield 33, 3) := by decide +kernel
theorem dm_X1_init_45 : mj_dec prog_3_method_1_code 45 = some (.aload_n 0, 1) := by decide +kernel
theorem dm_X1_init_46 : mj_dec prog_3_method_1_code 46 = some (.ldc 37, 2) := by decide +kernel
theorem dm_X1_init_48 : mj_dec prog_3_method_1_code 48 = some (.putfield 38, 3) := by decide +kernel
theorem dm_X1_init_51 : mj_dec prog_3_method_1_code 51 = some (.aload_n 0, 1) := by decide +kernel
theorem dm_X1_init_52 : mj_dec prog_3_method_1_code 52 = some (.aload_n 1, 1) := by decide +kernel
theorem dm_X1_init_53 : mj_dec prog_3_method_1_code 53 = some (.putfield 42, 3) := by decide +kernel
theorem dm_X1_init_56 : mj_dec prog_3_method_1_code 56 = some (.iconst 0, 1) := by decide +kernel
theorem dm_X1_init_57 : mj_dec prog_3_method_1_code 57 = some (.istore_n 2, 1) := by decide +kernel
theorem dm_X1_init_58 : mj_dec prog_3_method_1_code 58 = some (.iload_n 2, 1) := by decide +kernel
theorem dm_X1_init_59 : mj_dec prog_3_method_1_code 59 = some (.aload_n 0, 1) := by decide +kernel
theorem dm_X1_init_60 : mj_dec prog_3_method_1_code 60 = some (.getfield 33, 3) := by decide +kernel
theorem dm_X1_init_63 : mj_dec prog_3_method_1_code 63 = some (.arraylength, 1) := by decide +kernel
theorem dm_X1_init_64 : mj_dec prog_3_method_1_code 64 = some (.if_icmp .ge 22, 3) := by decide +kernel
theorem dm_X1_init_67 : mj_dec prog_3_method_1_code 67 = some (.aload_n 0, 1) := by decide +kernel
theorem dm_X1_init_68 : mj_dec prog_3_method_1_code 68 = some (.getfield 33, 3) := by decide +kernel
theorem dm_X1_init_71 : mj_dec prog_3_method_1_code 71 = some (.iload_n 2, 1) := by decide +kernel
theorem dm_X1_init_72 : mj_dec prog_3_method_1_code 72 = some (.new 31, 3) := by decide +kernel
theorem dm_X1_init_75 : mj_dec prog_3_method_1_code 75 = some (.dup, 1) := by decide +kernel
theorem dm_X1_init_76 : mj_dec prog_3_method_1_code 76 = some (.invokespecial 46, 3) := by decide +kernel
theorem dm_X1_init_79 : mj_dec prog_3_method_1_code 79 = some (.aastore, 1) := by decide +kernel
theorem dm_X1_init_80 : mj_dec prog_3_method_1_code 80 = some (.iinc 2 1, 3) := by decide +kernel
theorem dm_X1_init_83 : mj_dec prog_3_method_1_code 83 = some (.goto (-25), 3) := by decide +kernel
theorem dm_X1_init_86 : mj_dec prog_3_method_1_code 86 = some (.return_, 1) := by decide +kernel
set_option maxRecDepth 20000 in
theorem pm_X3_init : mj_mmof pg_ms 6 = some ((⟨"ArrayCalculator$OneAct", "<init>", "()V"⟩, prog_5_method_1_code, 1, (Option.none : Option Jvm.ClassFile.FieldType)), 3, true, mj_dec prog_5_method_1_code) := rfl
theorem dm_X3_init_0 : mj_dec prog_5_method_1_code 0 = some (.aload_n 0, 1) := by decide +kernel
theorem dm_X3_init_1 : mj_dec prog_5_method_1_code 1 = some (.invokespecial 3, 3) := by decide +kernel
theorem dm_X3_init_4 : mj_dec prog_5_method_1_code 4 = some (.aload_n 0, 1) := by decide +kernel
theorem dm_X3_init_5 : mj_dec prog_5_method_1_code 5 = some (.sipush 144, 3) := by decide +kernel
theorem dm_X3_init_8 : mj_dec prog_5_method_1_code 8 = some (.newarray .int, 2) := by decide +kernel
theorem dm_X3_init_10 : mj_dec prog_5_method_1_code 10 = some (.putfield 9, 3) := by decide +kernel
theorem dm_X3_init_13 : mj_dec prog_5_method_1_code 13 = some (.aload_n 0, 1) := by decide +kernel
theorem dm_X3_init_14 : mj_dec prog_5_method_1_code 14 = some (.sipush 144, 3) := by decide +kernel
theorem dm_X3_init_17 : mj_dec prog_5_method_1_code 17 = some (.newarray .long, 2) := by decide +kernel
theorem dm_X3_init_19 : mj_dec prog_5_method_1_code 19 = some (.putfield 15, 3) := by decide +kernel
theorem dm_X3_init_22 : mj_dec prog_5_method_1_code 22 = some (.aload_n 0, 1) := by decide +kernel
theorem dm_X3_init_23 : mj_dec prog_5_method_1_code 23 = some (.new 19, 3) := by decide +kernel
theorem dm_X3_init_26 : mj_dec prog_5_method_1_code 26 = some (.dup, 1) := by decide +kernel
theorem dm_X3_init_27 : mj_dec prog_5_method_1_code 27 = some (.bipush 121, 2) := by decide +kernel
theorem dm_X3_init_29 : mj_dec prog_5_method_1_code 29 = some (.invokespecial 21, 3) := by decide +kernel
theorem dm_X3_init_32 : mj_dec prog_5_method_1_code 32 = some (.putfield 24, 3) := by decide +kernel
theorem dm_X3_init_35 : mj_dec prog_5_method_1_code 35 = some (.aload_n 0, 1) := by decide +kernel
theorem dm_X3_init_36 : mj_dec prog_5_method_1_code 36 = some (.new 28, 3) := by decide +kernel
theorem dm_X3_init_39 : mj_dec prog_5_method_1_code 39 = some (.dup, 1) := by decide +kernel
theorem dm_X3_init_40 : mj_dec prog_5_method_1_code 40 = some (.invokespecial 30, 3) := by decide +kernel
theorem dm_X3_init_43 : mj_dec prog_5_method_1_code 43 = some (.putfield 31, 3) := by decide +kernel
theorem dm_X3_init_46 : mj_dec prog_5_method_1_code 46 = some (.aload_n 0, 1) := by decide +kernel
theorem dm_X3_init_47 : mj_dec prog_5_method_1_code 47 = some (.lconst 0, 1) := by decide +kernel
theorem dm_X3_init_48 : mj_dec prog_5_method_1_code 48 = some (.invokestatic 35, 3) := by decide +kernel
theorem dm_X3_init_51 : mj_dec prog_5_method_1_code 51 = some (.putfield 41, 3) := by decide +kernel
theorem dm_X3_init_54 : mj_dec prog_5_method_1_code 54 = some (.return_, 1) := by decide +kernel
set_option maxRecDepth 20000 in
theorem pm_X6_init : mj_mmof pg_ms 7 = some ((⟨"ArrayCalculator$Printer", "<init>", "(I)V"⟩, prog_8_method_1_code, 2, (Option.none : Option Jvm.ClassFile.FieldType)), 6, true, mj_dec prog_8_method_1_code) := rfl
theorem dm_X6_init_0 : mj_dec prog_8_method_1_code 0 = some (.aload_n 0, 1) := by decide +kernel
theorem dm_X6_init_1 : mj_dec prog_8_method_1_code 1 = some (.invokespecial 3, 3) := by decide +kernel
theorem dm_X6_init_4 : mj_dec prog_8_method_1_code 4 = some (.aload_n 0, 1) := by decide +kernel
theorem dm_X6_init_5 : mj_dec prog_8_method_1_code 5 = some (.bipush 20, 2) := by decide +kernel
theorem dm_X6_init_7 : mj_dec prog_8_method_1_code 7 = some (.newarray .byte, 2) := by decide +kernel
theorem dm_X6_init_9 : mj_dec prog_8_method_1_code 9 = some (.putfield 11, 3) := by decide +kernel
theorem dm_X6_init_12 : mj_dec prog_8_method_1_code 12 = some (.aload_n 0, 1) := by decide +kernel
theorem dm_X6_init_13 : mj_dec prog_8_method_1_code 13 = some (.iload_n 1, 1) := by decide +kernel
theorem dm_X6_init_14 : mj_dec prog_8_method_1_code 14 = some (.newarray .byte, 2) := by decide +kernel
theorem dm_X6_init_16 : mj_dec prog_8_method_1_code 16 = some (.putfield 15, 3) := by decide +kernel
theorem dm_X6_init_19 : mj_dec prog_8_method_1_code 19 = some (.return_, 1) := by decide +kernel
set_option maxRecDepth 20000 in
theorem pm_X5_init : mj_mmof pg_ms 8 = some ((⟨"ArrayCalculator$Paired", "<init>", "()V"⟩, prog_7_method_1_code, 1, (Option.none : Option Jvm.ClassFile.FieldType)), 5, true, mj_dec prog_7_method_1_code) := rfl
theorem dm_X5_init_0 : mj_dec prog_7_method_1_code 0 = some (.aload_n 0, 1) := by decide +kernel
theorem dm_X5_init_1 : mj_dec prog_7_method_1_code 1 = some (.invokespecial 3, 3) := by decide +kernel
theorem dm_X5_init_4 : mj_dec prog_7_method_1_code 4 = some (.aload_n 0, 1) := by decide +kernel
theorem dm_X5_init_5 : mj_dec prog_7_method_1_code 5 = some (.sipush 1000, 3) := by decide +kernel
theorem dm_X5_init_8 : mj_dec prog_7_method_1_code 8 = some (.newarray .long, 2) := by decide +kernel
theorem dm_X5_init_10 : mj_dec prog_7_method_1_code 10 = some (.putfield 9, 3) := by decide +kernel
theorem dm_X5_init_13 : mj_dec prog_7_method_1_code 13 = some (.aload_n 0, 1) := by decide +kernel
theorem dm_X5_init_14 : mj_dec prog_7_method_1_code 14 = some (.getstatic 15, 3) := by decide +kernel
theorem dm_X5_init_17 : mj_dec prog_7_method_1_code 17 = some (.putfield 18, 3) := by decide +kernel
theorem dm_X5_init_20 : mj_dec prog_7_method_1_code 20 = some (.return_, 1) := by decide +kernel
set_option maxRecDepth 20000 in
theorem pm_X10_number : mj_mmof pg_ms 9 = some ((⟨"ArrayCalculator$Value", "number", "(J)LArrayCalculator$Value;"⟩, prog_12_method_3_code, 2, (Option.some (Jvm.ClassFile.FieldType.object "ArrayCalculator$Value"))), 10, false, mj_dec prog_12_method_3_code) := rfl
theorem dm_X10_number_0 : mj_dec prog_12_method_3_code 0 = some (.new 10, 3) := by decide +kernel
theorem dm_X10_number_3 : mj_dec prog_12_method_3_code 3 = some (.dup, 1) := by decide +kernel
theorem dm_X10_number_4 : mj_dec prog_12_method_3_code 4 = some (.iconst 0, 1) := by decide +kernel
theorem dm_X10_number_5 : mj_dec prog_12_method_3_code 5 = some (.lload_n 0, 1) := by decide +kernel
theorem dm_X10_number_6 : mj_dec prog_12_method_3_code 6 = some (.getstatic 42, 3) := by decide +kernel
theorem dm_X10_number_9 : mj_dec prog_12_method_3_code 9 = some (.iconst 0, 1) := by decide +kernel
theorem dm_X10_number_10 : mj_dec prog_12_method_3_code 10 = some (.iconst 1, 1) := by decide +kernel
theorem dm_X10_number_11 : mj_dec prog_12_method_3_code 11 = some (.iconst 0, 1) := by decide +kernel
theorem dm_X10_number_12 : mj_dec prog_12_method_3_code 12 = some (.invokespecial 45, 3) := by decide +kernel
theorem dm_X10_number_15 : mj_dec prog_12_method_3_code 15 = some (.areturn, 1) := by decide +kernel
set_option maxRecDepth 20000 in
theorem pm_X10_init : mj_mmof pg_ms 10 = some ((⟨"ArrayCalculator$Value", "<init>", "(IJ[JIII)V"⟩, prog_12_method_1_code, 8, (Option.none : Option Jvm.ClassFile.FieldType)), 10, true, mj_dec prog_12_method_1_code) := rfl
theorem dm_X10_init_0 : mj_dec prog_12_method_1_code 0 = some (.aload_n 0, 1) := by decide +kernel
theorem dm_X10_init_1 : mj_dec prog_12_method_1_code 1 = some (.invokespecial 3, 3) := by decide +kernel
theorem dm_X10_init_4 : mj_dec prog_12_method_1_code 4 = some (.aload_n 0, 1) := by decide +kernel
theorem dm_X10_init_5 : mj_dec prog_12_method_1_code 5 = some (.iload_n 1, 1) := by decide +kernel
theorem dm_X10_init_6 : mj_dec prog_12_method_1_code 6 = some (.putfield 9, 3) := by decide +kernel
theorem dm_X10_init_9 : mj_dec prog_12_method_1_code 9 = some (.aload_n 0, 1) := by decide +kernel
theorem dm_X10_init_10 : mj_dec prog_12_method_1_code 10 = some (.lload_n 2, 1) := by decide +kernel
theorem dm_X10_init_11 : mj_dec prog_12_method_1_code 11 = some (.putfield 15, 3) := by decide +kernel
theorem dm_X10_init_14 : mj_dec prog_12_method_1_code 14 = some (.aload_n 0, 1) := by decide +kernel
theorem dm_X10_init_15 : mj_dec prog_12_method_1_code 15 = some (.aload 4, 2) := by decide +kernel
theorem dm_X10_init_17 : mj_dec prog_12_method_1_code 17 = some (.putfield 19, 3) := by decide +kernel
theorem dm_X10_init_20 : mj_dec prog_12_method_1_code 20 = some (.aload_n 0, 1) := by decide +kernel
theorem dm_X10_init_21 : mj_dec prog_12_method_1_code 21 = some (.aconst_null, 1) := by decide +kernel
theorem dm_X10_init_22 : mj_dec prog_12_method_1_code 22 = some (.putfield 23, 3) := by decide +kernel
theorem dm_X10_init_25 : mj_dec prog_12_method_1_code 25 = some (.aload_n 0, 1) := by decide +kernel
theorem dm_X10_init_26 : mj_dec prog_12_method_1_code 26 = some (.iload 5, 2) := by decide +kernel
theorem dm_X10_init_28 : mj_dec prog_12_method_1_code 28 = some (.putfield 27, 3) := by decide +kernel
theorem dm_X10_init_31 : mj_dec prog_12_method_1_code 31 = some (.aload_n 0, 1) := by decide +kernel
theorem dm_X10_init_32 : mj_dec prog_12_method_1_code 32 = some (.iload 6, 2) := by decide +kernel
theorem dm_X10_init_34 : mj_dec prog_12_method_1_code 34 = some (.putfield 30, 3) := by decide +kernel
theorem dm_X10_init_37 : mj_dec prog_12_method_1_code 37 = some (.aload_n 0, 1) := by decide +kernel
theorem dm_X10_init_38 : mj_dec prog_12_method_1_code 38 = some (.iload 7, 2) := by decide +kernel
theorem dm_X10_init_40 : mj_dec prog_12_method_1_code 40 = some (.putfield 33, 3) := by decide +kernel
theorem dm_X10_init_43 : mj_dec prog_12_method_1_code 43 = some (.iload_n 1, 1) := by decide +kernel
theorem dm_X10_init_44 : mj_dec prog_12_method_1_code 44 = some (.bipush 6, 2) := by decide +kernel
theorem dm_X10_init_46 : mj_dec prog_12_method_1_code 46 = some (.if_icmp .ne 22, 3) := by decide +kernel
theorem dm_X10_init_68 : mj_dec prog_12_method_1_code 68 = some (.iload_n 1, 1) := by decide +kernel
theorem dm_X10_init_69 : mj_dec prog_12_method_1_code 69 = some (.iconst 2, 1) := by decide +kernel
theorem dm_X10_init_70 : mj_dec prog_12_method_1_code 70 = some (.if_icmp .lt 24, 3) := by decide +kernel
theorem dm_X10_init_94 : mj_dec prog_12_method_1_code 94 = some (.aload_n 0, 1) := by decide +kernel
theorem dm_X10_init_95 : mj_dec prog_12_method_1_code 95 = some (.iconst 1, 1) := by decide +kernel
theorem dm_X10_init_96 : mj_dec prog_12_method_1_code 96 = some (.putfield 36, 3) := by decide +kernel
theorem dm_X10_init_99 : mj_dec prog_12_method_1_code 99 = some (.aload_n 0, 1) := by decide +kernel
theorem dm_X10_init_100 : mj_dec prog_12_method_1_code 100 = some (.iconst 0, 1) := by decide +kernel
theorem dm_X10_init_101 : mj_dec prog_12_method_1_code 101 = some (.putfield 39, 3) := by decide +kernel
theorem dm_X10_init_104 : mj_dec prog_12_method_1_code 104 = some (.return_, 1) := by decide +kernel
set_option maxRecDepth 20000 in
theorem pm_X9_init : mj_mmof pg_ms 11 = some ((⟨"ArrayCalculator$TwoAct", "<init>", "()V"⟩, prog_11_method_1_code, 1, (Option.none : Option Jvm.ClassFile.FieldType)), 9, true, mj_dec prog_11_method_1_code) := rfl
theorem dm_X9_init_0 : mj_dec prog_11_method_1_code 0 = some (.aload_n 0, 1) := by decide +kernel
theorem dm_X9_init_1 : mj_dec prog_11_method_1_code 1 = some (.invokespecial 3, 3) := by decide +kernel
theorem dm_X9_init_4 : mj_dec prog_11_method_1_code 4 = some (.aload_n 0, 1) := by decide +kernel
theorem dm_X9_init_5 : mj_dec prog_11_method_1_code 5 = some (.new 9, 3) := by decide +kernel
theorem dm_X9_init_8 : mj_dec prog_11_method_1_code 8 = some (.dup, 1) := by decide +kernel
theorem dm_X9_init_9 : mj_dec prog_11_method_1_code 9 = some (.invokespecial 11, 3) := by decide +kernel
theorem dm_X9_init_12 : mj_dec prog_11_method_1_code 12 = some (.putfield 12, 3) := by decide +kernel
theorem dm_X9_init_15 : mj_dec prog_11_method_1_code 15 = some (.aload_n 0, 1) := by decide +kernel
theorem dm_X9_init_16 : mj_dec prog_11_method_1_code 16 = some (.sipush 144, 3) := by decide +kernel
theorem dm_X9_init_19 : mj_dec prog_11_method_1_code 19 = some (.newarray .int, 2) := by decide +kernel
theorem dm_X9_init_21 : mj_dec prog_11_method_1_code 21 = some (.putfield 18, 3) := by decide +kernel
theorem dm_X9_init_24 : mj_dec prog_11_method_1_code 24 = some (.aload_n 0, 1) := by decide +kernel
theorem dm_X9_init_25 : mj_dec prog_11_method_1_code 25 = some (.sipush 144, 3) := by decide +kernel
theorem dm_X9_init_28 : mj_dec prog_11_method_1_code 28 = some (.newarray .long, 2) := by decide +kernel
theorem dm_X9_init_30 : mj_dec prog_11_method_1_code 30 = some (.putfield 22, 3) := by decide +kernel
theorem dm_X9_init_33 : mj_dec prog_11_method_1_code 33 = some (.aload_n 0, 1) := by decide +kernel
theorem dm_X9_init_34 : mj_dec prog_11_method_1_code 34 = some (.bipush 120, 2) := by decide +kernel
theorem dm_X9_init_36 : mj_dec prog_11_method_1_code 36 = some (.anewarray 26, 3) := by decide +kernel
theorem dm_X9_init_39 : mj_dec prog_11_method_1_code 39 = some (.putfield 28, 3) := by decide +kernel
theorem dm_X9_init_42 : mj_dec prog_11_method_1_code 42 = some (.return_, 1) := by decide +kernel
set_option maxRecDepth 20000 in
theorem pm_X0_init : mj_mmof pg_ms 12 = some ((⟨"ArrayCalculator$Frame", "<init>", "()V"⟩, prog_2_method_1_code, 1, (Option.none : Option Jvm.ClassFile.FieldType)), 0, true, mj_dec prog_2_method_1_code) := rfl
theorem dm_X0_init_0 : mj_dec prog_2_method_1_code 0 = some (.aload_n 0, 1) := by decide +kernel
theorem dm_X0_init_1 : mj_dec prog_2_method_1_code 1 = some (.invokespecial 1, 3) := by decide +kernel
theorem dm_X0_init_4 : mj_dec prog_2_method_1_code 4 = some (.return_, 1) := by decide +kernel
set_option maxRecDepth 20000 in
theorem pm_X12_init : mj_mmof pg_ms 195 = some ((⟨"ArrayCalculatorModel", "<init>", "()V"⟩, prog_14_method_1_code, 1, (Option.none : Option Jvm.ClassFile.FieldType)), 12, true, mj_dec prog_14_method_1_code) := rfl
theorem dm_X12_init_0 : mj_dec prog_14_method_1_code 0 = some (.aload_n 0, 1) := by decide +kernel
theorem dm_X12_init_1 : mj_dec prog_14_method_1_code 1 = some (.invokespecial 1, 3) := by decide +kernel
theorem dm_X12_init_4 : mj_dec prog_14_method_1_code 4 = some (.aload_n 0, 1) := by decide +kernel
theorem dm_X12_init_5 : mj_dec prog_14_method_1_code 5 = some (.ldc 7, 2) := by decide +kernel
theorem dm_X12_init_7 : mj_dec prog_14_method_1_code 7 = some (.newarray .long, 2) := by decide +kernel
theorem dm_X12_init_9 : mj_dec prog_14_method_1_code 9 = some (.putfield 8, 3) := by decide +kernel
theorem dm_X12_init_12 : mj_dec prog_14_method_1_code 12 = some (.aload_n 0, 1) := by decide +kernel
theorem dm_X12_init_13 : mj_dec prog_14_method_1_code 13 = some (.ldc 14, 2) := by decide +kernel
theorem dm_X12_init_15 : mj_dec prog_14_method_1_code 15 = some (.newarray .int, 2) := by decide +kernel
theorem dm_X12_init_17 : mj_dec prog_14_method_1_code 17 = some (.putfield 15, 3) := by decide +kernel
theorem dm_X12_init_20 : mj_dec prog_14_method_1_code 20 = some (.aload_n 0, 1) := by decide +kernel
theorem dm_X12_init_21 : mj_dec prog_14_method_1_code 21 = some (.ldc 14, 2) := by decide +kernel
theorem dm_X12_init_23 : mj_dec prog_14_method_1_code 23 = some (.newarray .int, 2) := by decide +kernel
theorem dm_X12_init_25 : mj_dec prog_14_method_1_code 25 = some (.putfield 19, 3) := by decide +kernel
theorem dm_X12_init_28 : mj_dec prog_14_method_1_code 28 = some (.aload_n 0, 1) := by decide +kernel
theorem dm_X12_init_29 : mj_dec prog_14_method_1_code 29 = some (.iconst (-1), 1) := by decide +kernel
theorem dm_X12_init_30 : mj_dec prog_14_method_1_code 30 = some (.putfield 22, 3) := by decide +kernel
theorem dm_X12_init_33 : mj_dec prog_14_method_1_code 33 = some (.aload_n 0, 1) := by decide +kernel
theorem dm_X12_init_34 : mj_dec prog_14_method_1_code 34 = some (.ldc 26, 2) := by decide +kernel
theorem dm_X12_init_36 : mj_dec prog_14_method_1_code 36 = some (.putfield 27, 3) := by decide +kernel
theorem dm_X12_init_39 : mj_dec prog_14_method_1_code 39 = some (.aload_n 0, 1) := by decide +kernel
theorem dm_X12_init_40 : mj_dec prog_14_method_1_code 40 = some (.sipush 8192, 3) := by decide +kernel
theorem dm_X12_init_43 : mj_dec prog_14_method_1_code 43 = some (.newarray .int, 2) := by decide +kernel
theorem dm_X12_init_45 : mj_dec prog_14_method_1_code 45 = some (.putfield 30, 3) := by decide +kernel
theorem dm_X12_init_48 : mj_dec prog_14_method_1_code 48 = some (.aload_n 0, 1) := by decide +kernel
theorem dm_X12_init_49 : mj_dec prog_14_method_1_code 49 = some (.sipush 260, 3) := by decide +kernel
theorem dm_X12_init_52 : mj_dec prog_14_method_1_code 52 = some (.newarray .int, 2) := by decide +kernel
theorem dm_X12_init_54 : mj_dec prog_14_method_1_code 54 = some (.putfield 33, 3) := by decide +kernel
theorem dm_X12_init_57 : mj_dec prog_14_method_1_code 57 = some (.aload_n 0, 1) := by decide +kernel
theorem dm_X12_init_58 : mj_dec prog_14_method_1_code 58 = some (.sipush 400, 3) := by decide +kernel
theorem dm_X12_init_61 : mj_dec prog_14_method_1_code 61 = some (.newarray .byte, 2) := by decide +kernel
theorem dm_X12_init_63 : mj_dec prog_14_method_1_code 63 = some (.putfield 36, 3) := by decide +kernel
theorem dm_X12_init_66 : mj_dec prog_14_method_1_code 66 = some (.aload_n 0, 1) := by decide +kernel
theorem dm_X12_init_67 : mj_dec prog_14_method_1_code 67 = some (.sipush 400, 3) := by decide +kernel
theorem dm_X12_init_70 : mj_dec prog_14_method_1_code 70 = some (.newarray .byte, 2) := by decide +kernel
theorem dm_X12_init_72 : mj_dec prog_14_method_1_code 72 = some (.putfield 40, 3) := by decide +kernel
theorem dm_X12_init_75 : mj_dec prog_14_method_1_code 75 = some (.aload_n 0, 1) := by decide +kernel
theorem dm_X12_init_76 : mj_dec prog_14_method_1_code 76 = some (.bipush 40, 2) := by decide +kernel
theorem dm_X12_init_78 : mj_dec prog_14_method_1_code 78 = some (.newarray .long, 2) := by decide +kernel
theorem dm_X12_init_80 : mj_dec prog_14_method_1_code 80 = some (.putfield 43, 3) := by decide +kernel
theorem dm_X12_init_83 : mj_dec prog_14_method_1_code 83 = some (.aload_n 0, 1) := by decide +kernel
theorem dm_X12_init_84 : mj_dec prog_14_method_1_code 84 = some (.bipush 40, 2) := by decide +kernel
theorem dm_X12_init_86 : mj_dec prog_14_method_1_code 86 = some (.newarray .long, 2) := by decide +kernel
theorem dm_X12_init_88 : mj_dec prog_14_method_1_code 88 = some (.putfield 46, 3) := by decide +kernel
theorem dm_X12_init_91 : mj_dec prog_14_method_1_code 91 = some (.aload_n 0, 1) := by decide +kernel
theorem dm_X12_init_92 : mj_dec prog_14_method_1_code 92 = some (.bipush 40, 2) := by decide +kernel
theorem dm_X12_init_94 : mj_dec prog_14_method_1_code 94 = some (.newarray .int, 2) := by decide +kernel
theorem dm_X12_init_96 : mj_dec prog_14_method_1_code 96 = some (.putfield 49, 3) := by decide +kernel
theorem dm_X12_init_99 : mj_dec prog_14_method_1_code 99 = some (.aload_n 0, 1) := by decide +kernel
theorem dm_X12_init_100 : mj_dec prog_14_method_1_code 100 = some (.bipush 40, 2) := by decide +kernel
theorem dm_X12_init_102 : mj_dec prog_14_method_1_code 102 = some (.newarray .int, 2) := by decide +kernel
theorem dm_X12_init_104 : mj_dec prog_14_method_1_code 104 = some (.putfield 52, 3) := by decide +kernel
theorem dm_X12_init_107 : mj_dec prog_14_method_1_code 107 = some (.aload_n 0, 1) := by decide +kernel
theorem dm_X12_init_108 : mj_dec prog_14_method_1_code 108 = some (.sipush 320, 3) := by decide +kernel
theorem dm_X12_init_111 : mj_dec prog_14_method_1_code 111 = some (.newarray .long, 2) := by decide +kernel
theorem dm_X12_init_113 : mj_dec prog_14_method_1_code 113 = some (.putfield 55, 3) := by decide +kernel
theorem dm_X12_init_116 : mj_dec prog_14_method_1_code 116 = some (.aload_n 0, 1) := by decide +kernel
theorem dm_X12_init_117 : mj_dec prog_14_method_1_code 117 = some (.sipush 320, 3) := by decide +kernel
theorem dm_X12_init_120 : mj_dec prog_14_method_1_code 120 = some (.newarray .int, 2) := by decide +kernel
theorem dm_X12_init_122 : mj_dec prog_14_method_1_code 122 = some (.putfield 58, 3) := by decide +kernel
theorem dm_X12_init_125 : mj_dec prog_14_method_1_code 125 = some (.aload_n 0, 1) := by decide +kernel
theorem dm_X12_init_126 : mj_dec prog_14_method_1_code 126 = some (.iconst 4, 1) := by decide +kernel
theorem dm_X12_init_127 : mj_dec prog_14_method_1_code 127 = some (.newarray .int, 2) := by decide +kernel
theorem dm_X12_init_129 : mj_dec prog_14_method_1_code 129 = some (.putfield 61, 3) := by decide +kernel
theorem dm_X12_init_132 : mj_dec prog_14_method_1_code 132 = some (.aload_n 0, 1) := by decide +kernel
theorem dm_X12_init_133 : mj_dec prog_14_method_1_code 133 = some (.iconst 4, 1) := by decide +kernel
theorem dm_X12_init_134 : mj_dec prog_14_method_1_code 134 = some (.newarray .int, 2) := by decide +kernel
theorem dm_X12_init_136 : mj_dec prog_14_method_1_code 136 = some (.putfield 64, 3) := by decide +kernel
theorem dm_X12_init_139 : mj_dec prog_14_method_1_code 139 = some (.aload_n 0, 1) := by decide +kernel
theorem dm_X12_init_140 : mj_dec prog_14_method_1_code 140 = some (.iconst 4, 1) := by decide +kernel
theorem dm_X12_init_141 : mj_dec prog_14_method_1_code 141 = some (.newarray .boolean, 2) := by decide +kernel
theorem dm_X12_init_143 : mj_dec prog_14_method_1_code 143 = some (.putfield 67, 3) := by decide +kernel
theorem dm_X12_init_146 : mj_dec prog_14_method_1_code 146 = some (.aload_n 0, 1) := by decide +kernel
theorem dm_X12_init_147 : mj_dec prog_14_method_1_code 147 = some (.sipush 220, 3) := by decide +kernel
theorem dm_X12_init_150 : mj_dec prog_14_method_1_code 150 = some (.newarray .byte, 2) := by decide +kernel
theorem dm_X12_init_152 : mj_dec prog_14_method_1_code 152 = some (.putfield 71, 3) := by decide +kernel
theorem dm_X12_init_155 : mj_dec prog_14_method_1_code 155 = some (.aload_n 0, 1) := by decide +kernel
theorem dm_X12_init_156 : mj_dec prog_14_method_1_code 156 = some (.ldc 74, 2) := by decide +kernel
theorem dm_X12_init_158 : mj_dec prog_14_method_1_code 158 = some (.newarray .int, 2) := by decide +kernel
theorem dm_X12_init_160 : mj_dec prog_14_method_1_code 160 = some (.putfield 75, 3) := by decide +kernel
theorem dm_X12_init_163 : mj_dec prog_14_method_1_code 163 = some (.aload_n 0, 1) := by decide +kernel
theorem dm_X12_init_164 : mj_dec prog_14_method_1_code 164 = some (.ldc 74, 2) := by decide +kernel
theorem dm_X12_init_166 : mj_dec prog_14_method_1_code 166 = some (.newarray .int, 2) := by decide +kernel
theorem dm_X12_init_168 : mj_dec prog_14_method_1_code 168 = some (.putfield 78, 3) := by decide +kernel
theorem dm_X12_init_171 : mj_dec prog_14_method_1_code 171 = some (.aload_n 0, 1) := by decide +kernel
theorem dm_X12_init_172 : mj_dec prog_14_method_1_code 172 = some (.ldc 74, 2) := by decide +kernel
theorem dm_X12_init_174 : mj_dec prog_14_method_1_code 174 = some (.newarray .int, 2) := by decide +kernel
theorem dm_X12_init_176 : mj_dec prog_14_method_1_code 176 = some (.putfield 81, 3) := by decide +kernel
theorem dm_X12_init_179 : mj_dec prog_14_method_1_code 179 = some (.aload_n 0, 1) := by decide +kernel
theorem dm_X12_init_180 : mj_dec prog_14_method_1_code 180 = some (.ldc 74, 2) := by decide +kernel
theorem dm_X12_init_182 : mj_dec prog_14_method_1_code 182 = some (.newarray .int, 2) := by decide +kernel
theorem dm_X12_init_184 : mj_dec prog_14_method_1_code 184 = some (.putfield 84, 3) := by decide +kernel
theorem dm_X12_init_187 : mj_dec prog_14_method_1_code 187 = some (.aload_n 0, 1) := by decide +kernel
theorem dm_X12_init_188 : mj_dec prog_14_method_1_code 188 = some (.ldc 74, 2) := by decide +kernel
theorem dm_X12_init_190 : mj_dec prog_14_method_1_code 190 = some (.newarray .int, 2) := by decide +kernel
theorem dm_X12_init_192 : mj_dec prog_14_method_1_code 192 = some (.putfield 87, 3) := by decide +kernel
theorem dm_X12_init_195 : mj_dec prog_14_method_1_code 195 = some (.aload_n 0, 1) := by decide +kernel
theorem dm_X12_init_196 : mj_dec prog_14_method_1_code 196 = some (.ldc 74, 2) := by decide +kernel
theorem dm_X12_init_198 : mj_dec prog_14_method_1_code 198 = some (.newarray .int, 2) := by decide +kernel
theorem dm_X12_init_200 : mj_dec prog_14_method_1_code 200 = some (.putfield 90, 3) := by decide +kernel
theorem dm_X12_init_203 : mj_dec prog_14_method_1_code 203 = some (.aload_n 0, 1) := by decide +kernel
theorem dm_X12_init_204 : mj_dec prog_14_method_1_code 204 = some (.ldc 74, 2) := by decide +kernel
theorem dm_X12_init_206 : mj_dec prog_14_method_1_code 206 = some (.newarray .long, 2) := by decide +kernel
theorem dm_X12_init_208 : mj_dec prog_14_method_1_code 208 = some (.putfield 93, 3) := by decide +kernel
theorem dm_X12_init_211 : mj_dec prog_14_method_1_code 211 = some (.aload_n 0, 1) := by decide +kernel
theorem dm_X12_init_212 : mj_dec prog_14_method_1_code 212 = some (.iconst (-1), 1) := by decide +kernel
theorem dm_X12_init_213 : mj_dec prog_14_method_1_code 213 = some (.putfield 96, 3) := by decide +kernel
theorem dm_X12_init_216 : mj_dec prog_14_method_1_code 216 = some (.aload_n 0, 1) := by decide +kernel
theorem dm_X12_init_217 : mj_dec prog_14_method_1_code 217 = some (.iconst (-1), 1) := by decide +kernel
theorem dm_X12_init_218 : mj_dec prog_14_method_1_code 218 = some (.putfield 99, 3) := by decide +kernel
theorem dm_X12_init_221 : mj_dec prog_14_method_1_code 221 = some (.aload_n 0, 1) := by decide +kernel
theorem dm_X12_init_222 : mj_dec prog_14_method_1_code 222 = some (.iconst 3, 1) := by decide +kernel
theorem dm_X12_init_223 : mj_dec prog_14_method_1_code 223 = some (.putfield 102, 3) := by decide +kernel
theorem dm_X12_init_226 : mj_dec prog_14_method_1_code 226 = some (.aload_n 0, 1) := by decide +kernel
theorem dm_X12_init_227 : mj_dec prog_14_method_1_code 227 = some (.aload_n 0, 1) := by decide +kernel
theorem dm_X12_init_228 : mj_dec prog_14_method_1_code 228 = some (.iconst 0, 1) := by decide +kernel
theorem dm_X12_init_229 : mj_dec prog_14_method_1_code 229 = some (.lconst 0, 1) := by decide +kernel
theorem dm_X12_init_230 : mj_dec prog_14_method_1_code 230 = some (.invokevirtual 105, 3) := by decide +kernel
theorem dm_X12_init_233 : mj_dec prog_14_method_1_code 233 = some (.putfield 109, 3) := by decide +kernel
theorem dm_X12_init_236 : mj_dec prog_14_method_1_code 236 = some (.aload_n 0, 1) := by decide +kernel
theorem dm_X12_init_237 : mj_dec prog_14_method_1_code 237 = some (.aload_n 0, 1) := by decide +kernel
theorem dm_X12_init_238 : mj_dec prog_14_method_1_code 238 = some (.getfield 109, 3) := by decide +kernel
theorem dm_X12_init_241 : mj_dec prog_14_method_1_code 241 = some (.putfield 112, 3) := by decide +kernel
theorem dm_X12_init_244 : mj_dec prog_14_method_1_code 244 = some (.return_, 1) := by decide +kernel
set_option maxRecDepth 20000 in
theorem pm_X12_one : mj_mmof pg_ms 196 = some ((⟨"ArrayCalculatorModel", "one", "(IJ)I"⟩, prog_14_method_11_code, 5, (Option.some Jvm.ClassFile.FieldType.int)), 12, false, mj_dec prog_14_method_11_code) := rfl
theorem dm_X12_one_0 : mj_dec prog_14_method_11_code 0 = some (.aload_n 0, 1) := by decide +kernel
theorem dm_X12_one_1 : mj_dec prog_14_method_11_code 1 = some (.iload_n 1, 1) := by decide +kernel
theorem dm_X12_one_2 : mj_dec prog_14_method_11_code 2 = some (.iconst 1, 1) := by decide +kernel
theorem dm_X12_one_3 : mj_dec prog_14_method_11_code 3 = some (.invokevirtual 126, 3) := by decide +kernel
theorem dm_X12_one_6 : mj_dec prog_14_method_11_code 6 = some (.istore 4, 2) := by decide +kernel
theorem dm_X12_one_8 : mj_dec prog_14_method_11_code 8 = some (.aload_n 0, 1) := by decide +kernel
theorem dm_X12_one_9 : mj_dec prog_14_method_11_code 9 = some (.getfield 8, 3) := by decide +kernel
theorem dm_X12_one_12 : mj_dec prog_14_method_11_code 12 = some (.aload_n 0, 1) := by decide +kernel
theorem dm_X12_one_13 : mj_dec prog_14_method_11_code 13 = some (.getfield 15, 3) := by decide +kernel
theorem dm_X12_one_16 : mj_dec prog_14_method_11_code 16 = some (.iload 4, 2) := by decide +kernel
theorem dm_X12_one_18 : mj_dec prog_14_method_11_code 18 = some (.iaload, 1) := by decide +kernel
theorem dm_X12_one_19 : mj_dec prog_14_method_11_code 19 = some (.lload_n 2, 1) := by decide +kernel
theorem dm_X12_one_20 : mj_dec prog_14_method_11_code 20 = some (.lastore, 1) := by decide +kernel
theorem dm_X12_one_21 : mj_dec prog_14_method_11_code 21 = some (.iload 4, 2) := by decide +kernel
theorem dm_X12_one_23 : mj_dec prog_14_method_11_code 23 = some (.ireturn, 1) := by decide +kernel
set_option maxRecDepth 20000 in
theorem pm_X12_row : mj_mmof pg_ms 197 = some ((⟨"ArrayCalculatorModel", "row", "(II)I"⟩, prog_14_method_9_code, 3, (Option.some Jvm.ClassFile.FieldType.int)), 12, false, mj_dec prog_14_method_9_code) := rfl
theorem dm_X12_row_0 : mj_dec prog_14_method_9_code 0 = some (.aload_n 0, 1) := by decide +kernel
theorem dm_X12_row_1 : mj_dec prog_14_method_9_code 1 = some (.dup, 1) := by decide +kernel
theorem dm_X12_row_2 : mj_dec prog_14_method_9_code 2 = some (.getfield 119, 3) := by decide +kernel
theorem dm_X12_row_5 : mj_dec prog_14_method_9_code 5 = some (.iload_n 2, 1) := by decide +kernel
theorem dm_X12_row_6 : mj_dec prog_14_method_9_code 6 = some (.iadd, 1) := by decide +kernel
theorem dm_X12_row_7 : mj_dec prog_14_method_9_code 7 = some (.putfield 119, 3) := by decide +kernel
theorem dm_X12_row_10 : mj_dec prog_14_method_9_code 10 = some (.aload_n 0, 1) := by decide +kernel
theorem dm_X12_row_11 : mj_dec prog_14_method_9_code 11 = some (.iload_n 1, 1) := by decide +kernel
theorem dm_X12_row_12 : mj_dec prog_14_method_9_code 12 = some (.aload_n 0, 1) := by decide +kernel
theorem dm_X12_row_13 : mj_dec prog_14_method_9_code 13 = some (.getfield 119, 3) := by decide +kernel
theorem dm_X12_row_16 : mj_dec prog_14_method_9_code 16 = some (.iload_n 2, 1) := by decide +kernel
theorem dm_X12_row_17 : mj_dec prog_14_method_9_code 17 = some (.isub, 1) := by decide +kernel
theorem dm_X12_row_18 : mj_dec prog_14_method_9_code 18 = some (.iload_n 2, 1) := by decide +kernel
theorem dm_X12_row_19 : mj_dec prog_14_method_9_code 19 = some (.invokevirtual 122, 3) := by decide +kernel
theorem dm_X12_row_22 : mj_dec prog_14_method_9_code 22 = some (.ireturn, 1) := by decide +kernel
set_option maxRecDepth 20000 in
theorem pm_X12_seen : mj_mmof pg_ms 198 = some ((⟨"ArrayCalculatorModel", "seen", "(III)I"⟩, prog_14_method_8_code, 4, (Option.some Jvm.ClassFile.FieldType.int)), 12, false, mj_dec prog_14_method_8_code) := rfl
theorem dm_X12_seen_0 : mj_dec prog_14_method_8_code 0 = some (.aload_n 0, 1) := by decide +kernel
theorem dm_X12_seen_1 : mj_dec prog_14_method_8_code 1 = some (.aload_n 0, 1) := by decide +kernel
theorem dm_X12_seen_2 : mj_dec prog_14_method_8_code 2 = some (.getfield 102, 3) := by decide +kernel
theorem dm_X12_seen_5 : mj_dec prog_14_method_8_code 5 = some (.iload_n 1, 1) := by decide +kernel
theorem dm_X12_seen_6 : mj_dec prog_14_method_8_code 6 = some (.iload_n 2, 1) := by decide +kernel
theorem dm_X12_seen_7 : mj_dec prog_14_method_8_code 7 = some (.iload_n 3, 1) := by decide +kernel
theorem dm_X12_seen_8 : mj_dec prog_14_method_8_code 8 = some (.invokevirtual 115, 3) := by decide +kernel
theorem dm_X12_seen_11 : mj_dec prog_14_method_8_code 11 = some (.aload_n 0, 1) := by decide +kernel
theorem dm_X12_seen_12 : mj_dec prog_14_method_8_code 12 = some (.dup, 1) := by decide +kernel
theorem dm_X12_seen_13 : mj_dec prog_14_method_8_code 13 = some (.getfield 102, 3) := by decide +kernel
theorem dm_X12_seen_16 : mj_dec prog_14_method_8_code 16 = some (.iconst 1, 1) := by decide +kernel
theorem dm_X12_seen_17 : mj_dec prog_14_method_8_code 17 = some (.iadd, 1) := by decide +kernel
theorem dm_X12_seen_18 : mj_dec prog_14_method_8_code 18 = some (.putfield 102, 3) := by decide +kernel
theorem dm_X12_seen_21 : mj_dec prog_14_method_8_code 21 = some (.aload_n 0, 1) := by decide +kernel
theorem dm_X12_seen_22 : mj_dec prog_14_method_8_code 22 = some (.getfield 102, 3) := by decide +kernel
theorem dm_X12_seen_25 : mj_dec prog_14_method_8_code 25 = some (.iconst 1, 1) := by decide +kernel
theorem dm_X12_seen_26 : mj_dec prog_14_method_8_code 26 = some (.isub, 1) := by decide +kernel
theorem dm_X12_seen_27 : mj_dec prog_14_method_8_code 27 = some (.ireturn, 1) := by decide +kernel
set_option maxRecDepth 20000 in
theorem pm_X12_view : mj_mmof pg_ms 199 = some ((⟨"ArrayCalculatorModel", "view", "(IIII)V"⟩, prog_14_method_7_code, 5, (Option.none : Option Jvm.ClassFile.FieldType)), 12, false, mj_dec prog_14_method_7_code) := rfl
theorem dm_X12_view_0 : mj_dec prog_14_method_7_code 0 = some (.aload_n 0, 1) := by decide +kernel
theorem dm_X12_view_1 : mj_dec prog_14_method_7_code 1 = some (.getfield 15, 3) := by decide +kernel
theorem dm_X12_view_4 : mj_dec prog_14_method_7_code 4 = some (.iload_n 1, 1) := by decide +kernel
theorem dm_X12_view_5 : mj_dec prog_14_method_7_code 5 = some (.iload_n 3, 1) := by decide +kernel
theorem dm_X12_view_6 : mj_dec prog_14_method_7_code 6 = some (.iastore, 1) := by decide +kernel
theorem dm_X12_view_7 : mj_dec prog_14_method_7_code 7 = some (.aload_n 0, 1) := by decide +kernel
theorem dm_X12_view_8 : mj_dec prog_14_method_7_code 8 = some (.getfield 19, 3) := by decide +kernel
theorem dm_X12_view_11 : mj_dec prog_14_method_7_code 11 = some (.iload_n 1, 1) := by decide +kernel
theorem dm_X12_view_12 : mj_dec prog_14_method_7_code 12 = some (.iload_n 2, 1) := by decide +kernel
theorem dm_X12_view_13 : mj_dec prog_14_method_7_code 13 = some (.iload 4, 2) := by decide +kernel
theorem dm_X12_view_15 : mj_dec prog_14_method_7_code 15 = some (.iconst 3, 1) := by decide +kernel
theorem dm_X12_view_16 : mj_dec prog_14_method_7_code 16 = some (.ishl, 1) := by decide +kernel
theorem dm_X12_view_17 : mj_dec prog_14_method_7_code 17 = some (.ior, 1) := by decide +kernel
theorem dm_X12_view_18 : mj_dec prog_14_method_7_code 18 = some (.iastore, 1) := by decide +kernel
theorem dm_X12_view_19 : mj_dec prog_14_method_7_code 19 = some (.return_, 1) := by decide +kernel
set_option maxRecDepth 20000 in
theorem pm_X11_feed : mj_mmof pg_ms 13 = some ((⟨"ArrayCalculator", "feed", "(IIIII)I"⟩, prog_1_method_2_code, 6, (Option.some Jvm.ClassFile.FieldType.int)), 11, false, mj_dec prog_1_method_2_code) := rfl
theorem dm_X11_feed_0 : mj_dec prog_1_method_2_code 0 = some (.aload_n 0, 1) := by decide +kernel
theorem dm_X11_feed_1 : mj_dec prog_1_method_2_code 1 = some (.getfield 77, 3) := by decide +kernel
theorem dm_X11_feed_4 : mj_dec prog_1_method_2_code 4 = some (.bipush 20, 2) := by decide +kernel
theorem dm_X11_feed_6 : mj_dec prog_1_method_2_code 6 = some (.iadd, 1) := by decide +kernel
theorem dm_X11_feed_7 : mj_dec prog_1_method_2_code 7 = some (.sipush 200, 3) := by decide +kernel
theorem dm_X11_feed_10 : mj_dec prog_1_method_2_code 10 = some (.if_icmp .le 5, 3) := by decide +kernel
theorem dm_X11_feed_15 : mj_dec prog_1_method_2_code 15 = some (.aload_n 0, 1) := by decide +kernel
theorem dm_X11_feed_16 : mj_dec prog_1_method_2_code 16 = some (.iload_n 1, 1) := by decide +kernel
theorem dm_X11_feed_17 : mj_dec prog_1_method_2_code 17 = some (.invokevirtual 80, 3) := by decide +kernel
theorem dm_X11_feed_20 : mj_dec prog_1_method_2_code 20 = some (.aload_n 0, 1) := by decide +kernel
theorem dm_X11_feed_21 : mj_dec prog_1_method_2_code 21 = some (.iload_n 2, 1) := by decide +kernel
theorem dm_X11_feed_22 : mj_dec prog_1_method_2_code 22 = some (.invokevirtual 80, 3) := by decide +kernel
theorem dm_X11_feed_25 : mj_dec prog_1_method_2_code 25 = some (.aload_n 0, 1) := by decide +kernel
theorem dm_X11_feed_26 : mj_dec prog_1_method_2_code 26 = some (.iload_n 3, 1) := by decide +kernel
theorem dm_X11_feed_27 : mj_dec prog_1_method_2_code 27 = some (.invokevirtual 80, 3) := by decide +kernel
theorem dm_X11_feed_30 : mj_dec prog_1_method_2_code 30 = some (.aload_n 0, 1) := by decide +kernel
theorem dm_X11_feed_31 : mj_dec prog_1_method_2_code 31 = some (.iload 4, 2) := by decide +kernel
theorem dm_X11_feed_33 : mj_dec prog_1_method_2_code 33 = some (.invokevirtual 80, 3) := by decide +kernel
theorem dm_X11_feed_36 : mj_dec prog_1_method_2_code 36 = some (.aload_n 0, 1) := by decide +kernel
theorem dm_X11_feed_37 : mj_dec prog_1_method_2_code 37 = some (.iload 5, 2) := by decide +kernel
theorem dm_X11_feed_39 : mj_dec prog_1_method_2_code 39 = some (.invokevirtual 80, 3) := by decide +kernel
theorem dm_X11_feed_42 : mj_dec prog_1_method_2_code 42 = some (.aload_n 0, 1) := by decide +kernel
theorem dm_X11_feed_43 : mj_dec prog_1_method_2_code 43 = some (.getfield 77, 3) := by decide +kernel
theorem dm_X11_feed_46 : mj_dec prog_1_method_2_code 46 = some (.ireturn, 1) := by decide +kernel
set_option maxRecDepth 20000 in
theorem pm_X11_putBytes : mj_mmof pg_ms 14 = some ((⟨"ArrayCalculator", "putBytes", "(I)V"⟩, prog_1_method_3_code, 3, (Option.none : Option Jvm.ClassFile.FieldType)), 11, false, mj_dec prog_1_method_3_code) := rfl
theorem dm_X11_putBytes_0 : mj_dec prog_1_method_3_code 0 = some (.bipush 24, 2) := by decide +kernel
theorem dm_X11_putBytes_2 : mj_dec prog_1_method_3_code 2 = some (.istore_n 2, 1) := by decide +kernel
theorem dm_X11_putBytes_3 : mj_dec prog_1_method_3_code 3 = some (.iload_n 2, 1) := by decide +kernel
theorem dm_X11_putBytes_4 : mj_dec prog_1_method_3_code 4 = some (.ifCond .lt 47, 3) := by decide +kernel
theorem dm_X11_putBytes_7 : mj_dec prog_1_method_3_code 7 = some (.aload_n 0, 1) := by decide +kernel
theorem dm_X11_putBytes_8 : mj_dec prog_1_method_3_code 8 = some (.getfield 77, 3) := by decide +kernel
theorem dm_X11_putBytes_11 : mj_dec prog_1_method_3_code 11 = some (.aload_n 0, 1) := by decide +kernel
theorem dm_X11_putBytes_12 : mj_dec prog_1_method_3_code 12 = some (.getfield 9, 3) := by decide +kernel
theorem dm_X11_putBytes_15 : mj_dec prog_1_method_3_code 15 = some (.arraylength, 1) := by decide +kernel
theorem dm_X11_putBytes_16 : mj_dec prog_1_method_3_code 16 = some (.if_icmp .ge 29, 3) := by decide +kernel
theorem dm_X11_putBytes_19 : mj_dec prog_1_method_3_code 19 = some (.aload_n 0, 1) := by decide +kernel
theorem dm_X11_putBytes_20 : mj_dec prog_1_method_3_code 20 = some (.getfield 9, 3) := by decide +kernel
theorem dm_X11_putBytes_23 : mj_dec prog_1_method_3_code 23 = some (.aload_n 0, 1) := by decide +kernel
theorem dm_X11_putBytes_24 : mj_dec prog_1_method_3_code 24 = some (.getfield 77, 3) := by decide +kernel
theorem dm_X11_putBytes_27 : mj_dec prog_1_method_3_code 27 = some (.iload_n 1, 1) := by decide +kernel
theorem dm_X11_putBytes_28 : mj_dec prog_1_method_3_code 28 = some (.iload_n 2, 1) := by decide +kernel
theorem dm_X11_putBytes_29 : mj_dec prog_1_method_3_code 29 = some (.iushr, 1) := by decide +kernel
theorem dm_X11_putBytes_30 : mj_dec prog_1_method_3_code 30 = some (.sipush 255, 3) := by decide +kernel
theorem dm_X11_putBytes_33 : mj_dec prog_1_method_3_code 33 = some (.iand, 1) := by decide +kernel
theorem dm_X11_putBytes_34 : mj_dec prog_1_method_3_code 34 = some (.iastore, 1) := by decide +kernel
theorem dm_X11_putBytes_35 : mj_dec prog_1_method_3_code 35 = some (.aload_n 0, 1) := by decide +kernel
theorem dm_X11_putBytes_36 : mj_dec prog_1_method_3_code 36 = some (.dup, 1) := by decide +kernel
theorem dm_X11_putBytes_37 : mj_dec prog_1_method_3_code 37 = some (.getfield 77, 3) := by decide +kernel
theorem dm_X11_putBytes_40 : mj_dec prog_1_method_3_code 40 = some (.iconst 1, 1) := by decide +kernel
theorem dm_X11_putBytes_41 : mj_dec prog_1_method_3_code 41 = some (.iadd, 1) := by decide +kernel
theorem dm_X11_putBytes_42 : mj_dec prog_1_method_3_code 42 = some (.putfield 77, 3) := by decide +kernel
theorem dm_X11_putBytes_45 : mj_dec prog_1_method_3_code 45 = some (.iinc 2 (-8), 3) := by decide +kernel
theorem dm_X11_putBytes_48 : mj_dec prog_1_method_3_code 48 = some (.goto (-45), 3) := by decide +kernel
theorem dm_X11_putBytes_51 : mj_dec prog_1_method_3_code 51 = some (.return_, 1) := by decide +kernel
set_option maxRecDepth 20000 in
theorem pm_X12_feed : mj_mmof pg_ms 200 = some ((⟨"ArrayCalculatorModel", "feed", "(IIIII)I"⟩, prog_14_method_93_code, 6, (Option.some Jvm.ClassFile.FieldType.int)), 12, false, mj_dec prog_14_method_93_code) := rfl
theorem dm_X12_feed_0 : mj_dec prog_14_method_93_code 0 = some (.aload_n 0, 1) := by decide +kernel
theorem dm_X12_feed_1 : mj_dec prog_14_method_93_code 1 = some (.getfield 501, 3) := by decide +kernel
theorem dm_X12_feed_4 : mj_dec prog_14_method_93_code 4 = some (.bipush 20, 2) := by decide +kernel
theorem dm_X12_feed_6 : mj_dec prog_14_method_93_code 6 = some (.iadd, 1) := by decide +kernel
theorem dm_X12_feed_7 : mj_dec prog_14_method_93_code 7 = some (.sipush 200, 3) := by decide +kernel
theorem dm_X12_feed_10 : mj_dec prog_14_method_93_code 10 = some (.if_icmp .le 5, 3) := by decide +kernel
theorem dm_X12_feed_15 : mj_dec prog_14_method_93_code 15 = some (.aload_n 0, 1) := by decide +kernel
theorem dm_X12_feed_16 : mj_dec prog_14_method_93_code 16 = some (.iload_n 1, 1) := by decide +kernel
theorem dm_X12_feed_17 : mj_dec prog_14_method_93_code 17 = some (.invokevirtual 504, 3) := by decide +kernel
theorem dm_X12_feed_20 : mj_dec prog_14_method_93_code 20 = some (.aload_n 0, 1) := by decide +kernel
theorem dm_X12_feed_21 : mj_dec prog_14_method_93_code 21 = some (.iload_n 2, 1) := by decide +kernel
theorem dm_X12_feed_22 : mj_dec prog_14_method_93_code 22 = some (.invokevirtual 504, 3) := by decide +kernel
theorem dm_X12_feed_25 : mj_dec prog_14_method_93_code 25 = some (.aload_n 0, 1) := by decide +kernel
theorem dm_X12_feed_26 : mj_dec prog_14_method_93_code 26 = some (.iload_n 3, 1) := by decide +kernel
theorem dm_X12_feed_27 : mj_dec prog_14_method_93_code 27 = some (.invokevirtual 504, 3) := by decide +kernel
theorem dm_X12_feed_30 : mj_dec prog_14_method_93_code 30 = some (.aload_n 0, 1) := by decide +kernel
theorem dm_X12_feed_31 : mj_dec prog_14_method_93_code 31 = some (.iload 4, 2) := by decide +kernel
theorem dm_X12_feed_33 : mj_dec prog_14_method_93_code 33 = some (.invokevirtual 504, 3) := by decide +kernel
theorem dm_X12_feed_36 : mj_dec prog_14_method_93_code 36 = some (.aload_n 0, 1) := by decide +kernel
theorem dm_X12_feed_37 : mj_dec prog_14_method_93_code 37 = some (.iload 5, 2) := by decide +kernel
theorem dm_X12_feed_39 : mj_dec prog_14_method_93_code 39 = some (.invokevirtual 504, 3) := by decide +kernel
theorem dm_X12_feed_42 : mj_dec prog_14_method_93_code 42 = some (.aload_n 0, 1) := by decide +kernel
theorem dm_X12_feed_43 : mj_dec prog_14_method_93_code 43 = some (.getfield 501, 3) := by decide +kernel
theorem dm_X12_feed_46 : mj_dec prog_14_method_93_code 46 = some (.ireturn, 1) := by decide +kernel
set_option maxRecDepth 20000 in
theorem pm_X12_feedOne : mj_mmof pg_ms 201 = some ((⟨"ArrayCalculatorModel", "feedOne", "(I)V"⟩, prog_14_method_94_code, 3, (Option.none : Option Jvm.ClassFile.FieldType)), 12, false, mj_dec prog_14_method_94_code) := rfl
theorem dm_X12_feedOne_0 : mj_dec prog_14_method_94_code 0 = some (.bipush 24, 2) := by decide +kernel
theorem dm_X12_feedOne_2 : mj_dec prog_14_method_94_code 2 = some (.istore_n 2, 1) := by decide +kernel
theorem dm_X12_feedOne_3 : mj_dec prog_14_method_94_code 3 = some (.iload_n 2, 1) := by decide +kernel
theorem dm_X12_feedOne_4 : mj_dec prog_14_method_94_code 4 = some (.ifCond .lt 32, 3) := by decide +kernel
theorem dm_X12_feedOne_7 : mj_dec prog_14_method_94_code 7 = some (.aload_n 0, 1) := by decide +kernel
theorem dm_X12_feedOne_8 : mj_dec prog_14_method_94_code 8 = some (.getfield 71, 3) := by decide +kernel
theorem dm_X12_feedOne_11 : mj_dec prog_14_method_94_code 11 = some (.aload_n 0, 1) := by decide +kernel
theorem dm_X12_feedOne_12 : mj_dec prog_14_method_94_code 12 = some (.getfield 501, 3) := by decide +kernel
theorem dm_X12_feedOne_15 : mj_dec prog_14_method_94_code 15 = some (.iload_n 1, 1) := by decide +kernel
theorem dm_X12_feedOne_16 : mj_dec prog_14_method_94_code 16 = some (.iload_n 2, 1) := by decide +kernel
theorem dm_X12_feedOne_17 : mj_dec prog_14_method_94_code 17 = some (.ishr, 1) := by decide +kernel
theorem dm_X12_feedOne_18 : mj_dec prog_14_method_94_code 18 = some (.i2b, 1) := by decide +kernel
theorem dm_X12_feedOne_19 : mj_dec prog_14_method_94_code 19 = some (.bastore, 1) := by decide +kernel
theorem dm_X12_feedOne_20 : mj_dec prog_14_method_94_code 20 = some (.aload_n 0, 1) := by decide +kernel
theorem dm_X12_feedOne_21 : mj_dec prog_14_method_94_code 21 = some (.dup, 1) := by decide +kernel
theorem dm_X12_feedOne_22 : mj_dec prog_14_method_94_code 22 = some (.getfield 501, 3) := by decide +kernel
theorem dm_X12_feedOne_25 : mj_dec prog_14_method_94_code 25 = some (.iconst 1, 1) := by decide +kernel
theorem dm_X12_feedOne_26 : mj_dec prog_14_method_94_code 26 = some (.iadd, 1) := by decide +kernel
theorem dm_X12_feedOne_27 : mj_dec prog_14_method_94_code 27 = some (.putfield 501, 3) := by decide +kernel
theorem dm_X12_feedOne_30 : mj_dec prog_14_method_94_code 30 = some (.iinc 2 (-8), 3) := by decide +kernel
theorem dm_X12_feedOne_33 : mj_dec prog_14_method_94_code 33 = some (.goto (-30), 3) := by decide +kernel
theorem dm_X12_feedOne_36 : mj_dec prog_14_method_94_code 36 = some (.return_, 1) := by decide +kernel
set_option maxRecDepth 20000 in
theorem pm_X11_line : mj_mmof pg_ms 15 = some ((⟨"ArrayCalculator", "line", "(I)I"⟩, prog_1_method_4_code, 3, (Option.some Jvm.ClassFile.FieldType.int)), 11, false, mj_dec prog_1_method_4_code) := rfl
theorem dm_X11_line_0 : mj_dec prog_1_method_4_code 0 = some (.iload_n 1, 1) := by decide +kernel
theorem dm_X11_line_1 : mj_dec prog_1_method_4_code 1 = some (.ifCond .lt 11, 3) := by decide +kernel
theorem dm_X11_line_12 : mj_dec prog_1_method_4_code 12 = some (.bipush (-100), 2) := by decide +kernel
theorem dm_X11_line_14 : mj_dec prog_1_method_4_code 14 = some (.ireturn, 1) := by decide +kernel
theorem dm_X11_line_4 : mj_dec prog_1_method_4_code 4 = some (.iload_n 1, 1) := by decide +kernel
theorem dm_X11_line_5 : mj_dec prog_1_method_4_code 5 = some (.aload_n 0, 1) := by decide +kernel
theorem dm_X11_line_6 : mj_dec prog_1_method_4_code 6 = some (.getfield 77, 3) := by decide +kernel
theorem dm_X11_line_9 : mj_dec prog_1_method_4_code 9 = some (.if_icmp .le 6, 3) := by decide +kernel
theorem dm_X11_line_15 : mj_dec prog_1_method_4_code 15 = some (.aload_n 0, 1) := by decide +kernel
theorem dm_X11_line_16 : mj_dec prog_1_method_4_code 16 = some (.iconst 0, 1) := by decide +kernel
theorem dm_X11_line_17 : mj_dec prog_1_method_4_code 17 = some (.putfield 77, 3) := by decide +kernel
theorem dm_X11_line_20 : mj_dec prog_1_method_4_code 20 = some (.aload_n 0, 1) := by decide +kernel
theorem dm_X11_line_21 : mj_dec prog_1_method_4_code 21 = some (.getfield 47, 3) := by decide +kernel
theorem dm_X11_line_24 : mj_dec prog_1_method_4_code 24 = some (.invokevirtual 83, 3) := by decide +kernel
theorem dm_X11_line_27 : mj_dec prog_1_method_4_code 27 = some (.istore_n 2, 1) := by decide +kernel
theorem dm_X11_line_28 : mj_dec prog_1_method_4_code 28 = some (.aload_n 0, 1) := by decide +kernel
theorem dm_X11_line_29 : mj_dec prog_1_method_4_code 29 = some (.getfield 25, 3) := by decide +kernel
theorem dm_X11_line_32 : mj_dec prog_1_method_4_code 32 = some (.iload_n 1, 1) := by decide +kernel
theorem dm_X11_line_33 : mj_dec prog_1_method_4_code 33 = some (.invokevirtual 87, 3) := by decide +kernel
theorem dm_X11_line_36 : mj_dec prog_1_method_4_code 36 = some (.aload_n 0, 1) := by decide +kernel
theorem dm_X11_line_37 : mj_dec prog_1_method_4_code 37 = some (.getfield 34, 3) := by decide +kernel
theorem dm_X11_line_40 : mj_dec prog_1_method_4_code 40 = some (.invokevirtual 90, 3) := by decide +kernel
theorem dm_X11_line_43 : mj_dec prog_1_method_4_code 43 = some (.ifCond .ne 18, 3) := by decide +kernel
theorem dm_X11_line_46 : mj_dec prog_1_method_4_code 46 = some (.aload_n 0, 1) := by decide +kernel
theorem dm_X11_line_47 : mj_dec prog_1_method_4_code 47 = some (.iconst 1, 1) := by decide +kernel
theorem dm_X11_line_48 : mj_dec prog_1_method_4_code 48 = some (.aload_n 0, 1) := by decide +kernel
theorem dm_X11_line_49 : mj_dec prog_1_method_4_code 49 = some (.getfield 34, 3) := by decide +kernel
theorem dm_X11_line_52 : mj_dec prog_1_method_4_code 52 = some (.invokevirtual 94, 3) := by decide +kernel
theorem dm_X11_line_55 : mj_dec prog_1_method_4_code 55 = some (.invokevirtual 97, 3) := by decide +kernel
theorem dm_X11_line_58 : mj_dec prog_1_method_4_code 58 = some (.goto 86, 3) := by decide +kernel
theorem dm_X11_line_144 : mj_dec prog_1_method_4_code 144 = some (.aload_n 0, 1) := by decide +kernel
theorem dm_X11_line_145 : mj_dec prog_1_method_4_code 145 = some (.iload_n 2, 1) := by decide +kernel
theorem dm_X11_line_146 : mj_dec prog_1_method_4_code 146 = some (.aload_n 0, 1) := by decide +kernel
theorem dm_X11_line_147 : mj_dec prog_1_method_4_code 147 = some (.getfield 47, 3) := by decide +kernel
theorem dm_X11_line_150 : mj_dec prog_1_method_4_code 150 = some (.invokevirtual 83, 3) := by decide +kernel
theorem dm_X11_line_153 : mj_dec prog_1_method_4_code 153 = some (.isub, 1) := by decide +kernel
theorem dm_X11_line_154 : mj_dec prog_1_method_4_code 154 = some (.putfield 131, 3) := by decide +kernel
theorem dm_X11_line_157 : mj_dec prog_1_method_4_code 157 = some (.aload_n 0, 1) := by decide +kernel
theorem dm_X11_line_158 : mj_dec prog_1_method_4_code 158 = some (.aload_n 0, 1) := by decide +kernel
theorem dm_X11_line_159 : mj_dec prog_1_method_4_code 159 = some (.getfield 66, 3) := by decide +kernel
theorem dm_X11_line_162 : mj_dec prog_1_method_4_code 162 = some (.putfield 70, 3) := by decide +kernel
theorem dm_X11_line_165 : mj_dec prog_1_method_4_code 165 = some (.aload_n 0, 1) := by decide +kernel
theorem dm_X11_line_166 : mj_dec prog_1_method_4_code 166 = some (.getfield 134, 3) := by decide +kernel
theorem dm_X11_line_169 : mj_dec prog_1_method_4_code 169 = some (.ineg, 1) := by decide +kernel
theorem dm_X11_line_170 : mj_dec prog_1_method_4_code 170 = some (.ireturn, 1) := by decide +kernel
set_option maxRecDepth 20000 in
theorem pm_X1_workLeft : mj_mmof pg_ms 16 = some ((⟨"ArrayCalculator$Machine", "workLeft", "()I"⟩, prog_3_method_2_code, 1, (Option.some Jvm.ClassFile.FieldType.int)), 1, false, mj_dec prog_3_method_2_code) := rfl
theorem dm_X1_workLeft_0 : mj_dec prog_3_method_2_code 0 = some (.aload_n 0, 1) := by decide +kernel
theorem dm_X1_workLeft_1 : mj_dec prog_3_method_2_code 1 = some (.getfield 38, 3) := by decide +kernel
theorem dm_X1_workLeft_4 : mj_dec prog_3_method_2_code 4 = some (.ireturn, 1) := by decide +kernel
set_option maxRecDepth 20000 in
theorem pm_X8_split : mj_mmof pg_ms 17 = some ((⟨"ArrayCalculator$Tokens", "split", "(I)V"⟩, prog_10_method_2_code, 4, (Option.none : Option Jvm.ClassFile.FieldType)), 8, false, mj_dec prog_10_method_2_code) := rfl
theorem dm_X8_split_0 : mj_dec prog_10_method_2_code 0 = some (.aload_n 0, 1) := by decide +kernel
theorem dm_X8_split_1 : mj_dec prog_10_method_2_code 1 = some (.iload_n 1, 1) := by decide +kernel
theorem dm_X8_split_2 : mj_dec prog_10_method_2_code 2 = some (.aload_n 0, 1) := by decide +kernel
theorem dm_X8_split_3 : mj_dec prog_10_method_2_code 3 = some (.getfield 22, 3) := by decide +kernel
theorem dm_X8_split_6 : mj_dec prog_10_method_2_code 6 = some (.arraylength, 1) := by decide +kernel
theorem dm_X8_split_7 : mj_dec prog_10_method_2_code 7 = some (.invokestatic 29, 3) := by decide +kernel
theorem dm_X8_split_10 : mj_dec prog_10_method_2_code 10 = some (.putfield 35, 3) := by decide +kernel
theorem dm_X8_split_13 : mj_dec prog_10_method_2_code 13 = some (.aload_n 0, 1) := by decide +kernel
theorem dm_X8_split_14 : mj_dec prog_10_method_2_code 14 = some (.iconst 0, 1) := by decide +kernel
theorem dm_X8_split_15 : mj_dec prog_10_method_2_code 15 = some (.putfield 39, 3) := by decide +kernel
theorem dm_X8_split_18 : mj_dec prog_10_method_2_code 18 = some (.aload_n 0, 1) := by decide +kernel
theorem dm_X8_split_19 : mj_dec prog_10_method_2_code 19 = some (.iconst 0, 1) := by decide +kernel
theorem dm_X8_split_20 : mj_dec prog_10_method_2_code 20 = some (.putfield 42, 3) := by decide +kernel
theorem dm_X8_split_23 : mj_dec prog_10_method_2_code 23 = some (.aload_n 0, 1) := by decide +kernel
theorem dm_X8_split_24 : mj_dec prog_10_method_2_code 24 = some (.iconst 1, 1) := by decide +kernel
theorem dm_X8_split_25 : mj_dec prog_10_method_2_code 25 = some (.putfield 45, 3) := by decide +kernel
theorem dm_X8_split_28 : mj_dec prog_10_method_2_code 28 = some (.iconst 0, 1) := by decide +kernel
theorem dm_X8_split_29 : mj_dec prog_10_method_2_code 29 = some (.istore_n 2, 1) := by decide +kernel
theorem dm_X8_split_30 : mj_dec prog_10_method_2_code 30 = some (.iconst 0, 1) := by decide +kernel
theorem dm_X8_split_31 : mj_dec prog_10_method_2_code 31 = some (.istore_n 3, 1) := by decide +kernel
theorem dm_X8_split_32 : mj_dec prog_10_method_2_code 32 = some (.iload_n 3, 1) := by decide +kernel
theorem dm_X8_split_33 : mj_dec prog_10_method_2_code 33 = some (.aload_n 0, 1) := by decide +kernel
theorem dm_X8_split_34 : mj_dec prog_10_method_2_code 34 = some (.getfield 35, 3) := by decide +kernel
theorem dm_X8_split_37 : mj_dec prog_10_method_2_code 37 = some (.if_icmp .ge 62, 3) := by decide +kernel
theorem dm_X8_split_99 : mj_dec prog_10_method_2_code 99 = some (.aload_n 0, 1) := by decide +kernel
theorem dm_X8_split_100 : mj_dec prog_10_method_2_code 100 = some (.iconst 0, 1) := by decide +kernel
theorem dm_X8_split_101 : mj_dec prog_10_method_2_code 101 = some (.iload_n 2, 1) := by decide +kernel
theorem dm_X8_split_102 : mj_dec prog_10_method_2_code 102 = some (.lconst 0, 1) := by decide +kernel
theorem dm_X8_split_103 : mj_dec prog_10_method_2_code 103 = some (.iload_n 2, 1) := by decide +kernel
theorem dm_X8_split_104 : mj_dec prog_10_method_2_code 104 = some (.invokevirtual 53, 3) := by decide +kernel
theorem dm_X8_split_107 : mj_dec prog_10_method_2_code 107 = some (.return_, 1) := by decide +kernel
set_option maxRecDepth 20000 in
theorem pm_X8_sortAt : mj_mmof pg_ms 20 = some ((⟨"ArrayCalculator$Tokens", "sortAt", "(I)I"⟩, prog_10_method_4_code, 2, (Option.some Jvm.ClassFile.FieldType.int)), 8, false, mj_dec prog_10_method_4_code) := rfl
theorem dm_X8_sortAt_0 : mj_dec prog_10_method_4_code 0 = some (.iload_n 1, 1) := by decide +kernel
theorem dm_X8_sortAt_1 : mj_dec prog_10_method_4_code 1 = some (.ifCond .lt 20, 3) := by decide +kernel
theorem dm_X8_sortAt_4 : mj_dec prog_10_method_4_code 4 = some (.iload_n 1, 1) := by decide +kernel
theorem dm_X8_sortAt_5 : mj_dec prog_10_method_4_code 5 = some (.aload_n 0, 1) := by decide +kernel
theorem dm_X8_sortAt_6 : mj_dec prog_10_method_4_code 6 = some (.getfield 39, 3) := by decide +kernel
theorem dm_X8_sortAt_9 : mj_dec prog_10_method_4_code 9 = some (.if_icmp .ge 12, 3) := by decide +kernel
theorem dm_X8_sortAt_12 : mj_dec prog_10_method_4_code 12 = some (.aload_n 0, 1) := by decide +kernel
theorem dm_X8_sortAt_13 : mj_dec prog_10_method_4_code 13 = some (.getfield 9, 3) := by decide +kernel
theorem dm_X8_sortAt_16 : mj_dec prog_10_method_4_code 16 = some (.iload_n 1, 1) := by decide +kernel
theorem dm_X8_sortAt_17 : mj_dec prog_10_method_4_code 17 = some (.iaload, 1) := by decide +kernel
theorem dm_X8_sortAt_18 : mj_dec prog_10_method_4_code 18 = some (.goto 4, 3) := by decide +kernel
theorem dm_X8_sortAt_22 : mj_dec prog_10_method_4_code 22 = some (.ireturn, 1) := by decide +kernel
set_option maxRecDepth 20000 in
theorem pm_X8_add : mj_mmof pg_ms 24 = some ((⟨"ArrayCalculator$Tokens", "add", "(IIJI)V"⟩, prog_10_method_11_code, 6, (Option.none : Option Jvm.ClassFile.FieldType)), 8, false, mj_dec prog_10_method_11_code) := rfl
theorem dm_X8_add_0 : mj_dec prog_10_method_11_code 0 = some (.aload_n 0, 1) := by decide +kernel
theorem dm_X8_add_1 : mj_dec prog_10_method_11_code 1 = some (.getfield 39, 3) := by decide +kernel
theorem dm_X8_add_4 : mj_dec prog_10_method_11_code 4 = some (.aload_n 0, 1) := by decide +kernel
theorem dm_X8_add_5 : mj_dec prog_10_method_11_code 5 = some (.getfield 9, 3) := by decide +kernel
theorem dm_X8_add_8 : mj_dec prog_10_method_11_code 8 = some (.arraylength, 1) := by decide +kernel
theorem dm_X8_add_9 : mj_dec prog_10_method_11_code 9 = some (.if_icmp .ge 43, 3) := by decide +kernel
theorem dm_X8_add_12 : mj_dec prog_10_method_11_code 12 = some (.aload_n 0, 1) := by decide +kernel
theorem dm_X8_add_13 : mj_dec prog_10_method_11_code 13 = some (.getfield 9, 3) := by decide +kernel
theorem dm_X8_add_16 : mj_dec prog_10_method_11_code 16 = some (.aload_n 0, 1) := by decide +kernel
theorem dm_X8_add_17 : mj_dec prog_10_method_11_code 17 = some (.getfield 39, 3) := by decide +kernel
theorem dm_X8_add_20 : mj_dec prog_10_method_11_code 20 = some (.iload_n 1, 1) := by decide +kernel
theorem dm_X8_add_21 : mj_dec prog_10_method_11_code 21 = some (.iastore, 1) := by decide +kernel
theorem dm_X8_add_22 : mj_dec prog_10_method_11_code 22 = some (.aload_n 0, 1) := by decide +kernel
theorem dm_X8_add_23 : mj_dec prog_10_method_11_code 23 = some (.getfield 15, 3) := by decide +kernel
theorem dm_X8_add_26 : mj_dec prog_10_method_11_code 26 = some (.aload_n 0, 1) := by decide +kernel
theorem dm_X8_add_27 : mj_dec prog_10_method_11_code 27 = some (.getfield 39, 3) := by decide +kernel
theorem dm_X8_add_30 : mj_dec prog_10_method_11_code 30 = some (.iload_n 2, 1) := by decide +kernel
theorem dm_X8_add_31 : mj_dec prog_10_method_11_code 31 = some (.iastore, 1) := by decide +kernel
theorem dm_X8_add_32 : mj_dec prog_10_method_11_code 32 = some (.aload_n 0, 1) := by decide +kernel
theorem dm_X8_add_33 : mj_dec prog_10_method_11_code 33 = some (.getfield 18, 3) := by decide +kernel
theorem dm_X8_add_36 : mj_dec prog_10_method_11_code 36 = some (.aload_n 0, 1) := by decide +kernel
theorem dm_X8_add_37 : mj_dec prog_10_method_11_code 37 = some (.getfield 39, 3) := by decide +kernel
theorem dm_X8_add_40 : mj_dec prog_10_method_11_code 40 = some (.lload_n 3, 1) := by decide +kernel
theorem dm_X8_add_41 : mj_dec prog_10_method_11_code 41 = some (.lastore, 1) := by decide +kernel
theorem dm_X8_add_42 : mj_dec prog_10_method_11_code 42 = some (.aload_n 0, 1) := by decide +kernel
theorem dm_X8_add_43 : mj_dec prog_10_method_11_code 43 = some (.dup, 1) := by decide +kernel
theorem dm_X8_add_44 : mj_dec prog_10_method_11_code 44 = some (.getfield 39, 3) := by decide +kernel
theorem dm_X8_add_47 : mj_dec prog_10_method_11_code 47 = some (.iconst 1, 1) := by decide +kernel
theorem dm_X8_add_48 : mj_dec prog_10_method_11_code 48 = some (.iadd, 1) := by decide +kernel
theorem dm_X8_add_49 : mj_dec prog_10_method_11_code 49 = some (.putfield 39, 3) := by decide +kernel
theorem dm_X8_add_52 : mj_dec prog_10_method_11_code 52 = some (.aload_n 0, 1) := by decide +kernel
theorem dm_X8_add_53 : mj_dec prog_10_method_11_code 53 = some (.iload 5, 2) := by decide +kernel
theorem dm_X8_add_55 : mj_dec prog_10_method_11_code 55 = some (.putfield 42, 3) := by decide +kernel
theorem dm_X8_add_58 : mj_dec prog_10_method_11_code 58 = some (.return_, 1) := by decide +kernel
set_option maxRecDepth 20000 in
theorem pm_X8_isName : mj_mmof pg_ms 29 = some ((⟨"ArrayCalculator$Tokens", "isName", "(I)Z"⟩, prog_10_method_8_code, 2, (Option.some Jvm.ClassFile.FieldType.boolean)), 8, false, mj_dec prog_10_method_8_code) := rfl
theorem dm_X8_isName_0 : mj_dec prog_10_method_8_code 0 = some (.aload_n 0, 1) := by decide +kernel
theorem dm_X8_isName_1 : mj_dec prog_10_method_8_code 1 = some (.iload_n 1, 1) := by decide +kernel
theorem dm_X8_isName_2 : mj_dec prog_10_method_8_code 2 = some (.invokevirtual 57, 3) := by decide +kernel
theorem dm_X8_isName_5 : mj_dec prog_10_method_8_code 5 = some (.iconst 3, 1) := by decide +kernel
theorem dm_X8_isName_6 : mj_dec prog_10_method_8_code 6 = some (.if_icmp .eq 12, 3) := by decide +kernel
theorem dm_X8_isName_9 : mj_dec prog_10_method_8_code 9 = some (.aload_n 0, 1) := by decide +kernel
theorem dm_X8_isName_10 : mj_dec prog_10_method_8_code 10 = some (.iload_n 1, 1) := by decide +kernel
theorem dm_X8_isName_11 : mj_dec prog_10_method_8_code 11 = some (.invokevirtual 57, 3) := by decide +kernel
theorem dm_X8_isName_14 : mj_dec prog_10_method_8_code 14 = some (.iconst 4, 1) := by decide +kernel
theorem dm_X8_isName_15 : mj_dec prog_10_method_8_code 15 = some (.if_icmp .ne 7, 3) := by decide +kernel
theorem dm_X8_isName_22 : mj_dec prog_10_method_8_code 22 = some (.iconst 0, 1) := by decide +kernel
theorem dm_X8_isName_23 : mj_dec prog_10_method_8_code 23 = some (.ireturn, 1) := by decide +kernel
set_option maxRecDepth 20000 in
theorem pm_X8_dataAt : mj_mmof pg_ms 30 = some ((⟨"ArrayCalculator$Tokens", "dataAt", "(I)J"⟩, prog_10_method_6_code, 2, (Option.some Jvm.ClassFile.FieldType.long)), 8, false, mj_dec prog_10_method_6_code) := rfl
theorem dm_X8_dataAt_0 : mj_dec prog_10_method_6_code 0 = some (.iload_n 1, 1) := by decide +kernel
theorem dm_X8_dataAt_1 : mj_dec prog_10_method_6_code 1 = some (.ifCond .lt 20, 3) := by decide +kernel
theorem dm_X8_dataAt_4 : mj_dec prog_10_method_6_code 4 = some (.iload_n 1, 1) := by decide +kernel
theorem dm_X8_dataAt_5 : mj_dec prog_10_method_6_code 5 = some (.aload_n 0, 1) := by decide +kernel
theorem dm_X8_dataAt_6 : mj_dec prog_10_method_6_code 6 = some (.getfield 39, 3) := by decide +kernel
theorem dm_X8_dataAt_9 : mj_dec prog_10_method_6_code 9 = some (.if_icmp .ge 12, 3) := by decide +kernel
theorem dm_X8_dataAt_12 : mj_dec prog_10_method_6_code 12 = some (.aload_n 0, 1) := by decide +kernel
theorem dm_X8_dataAt_13 : mj_dec prog_10_method_6_code 13 = some (.getfield 18, 3) := by decide +kernel
theorem dm_X8_dataAt_16 : mj_dec prog_10_method_6_code 16 = some (.iload_n 1, 1) := by decide +kernel
theorem dm_X8_dataAt_17 : mj_dec prog_10_method_6_code 17 = some (.laload, 1) := by decide +kernel
theorem dm_X8_dataAt_18 : mj_dec prog_10_method_6_code 18 = some (.goto 4, 3) := by decide +kernel
theorem dm_X8_dataAt_22 : mj_dec prog_10_method_6_code 22 = some (.lreturn, 1) := by decide +kernel
set_option maxRecDepth 20000 in
theorem pm_X8_isMark : mj_mmof pg_ms 31 = some ((⟨"ArrayCalculator$Tokens", "isMark", "(II)Z"⟩, prog_10_method_7_code, 3, (Option.some Jvm.ClassFile.FieldType.boolean)), 8, false, mj_dec prog_10_method_7_code) := rfl
theorem dm_X8_isMark_0 : mj_dec prog_10_method_7_code 0 = some (.iload_n 1, 1) := by decide +kernel
theorem dm_X8_isMark_1 : mj_dec prog_10_method_7_code 1 = some (.ifCond .lt 38, 3) := by decide +kernel
theorem dm_X8_isMark_4 : mj_dec prog_10_method_7_code 4 = some (.iload_n 1, 1) := by decide +kernel
theorem dm_X8_isMark_5 : mj_dec prog_10_method_7_code 5 = some (.aload_n 0, 1) := by decide +kernel
theorem dm_X8_isMark_6 : mj_dec prog_10_method_7_code 6 = some (.getfield 39, 3) := by decide +kernel
theorem dm_X8_isMark_9 : mj_dec prog_10_method_7_code 9 = some (.if_icmp .ge 30, 3) := by decide +kernel
theorem dm_X8_isMark_12 : mj_dec prog_10_method_7_code 12 = some (.aload_n 0, 1) := by decide +kernel
theorem dm_X8_isMark_13 : mj_dec prog_10_method_7_code 13 = some (.getfield 9, 3) := by decide +kernel
theorem dm_X8_isMark_16 : mj_dec prog_10_method_7_code 16 = some (.iload_n 1, 1) := by decide +kernel
theorem dm_X8_isMark_17 : mj_dec prog_10_method_7_code 17 = some (.iaload, 1) := by decide +kernel
theorem dm_X8_isMark_18 : mj_dec prog_10_method_7_code 18 = some (.bipush 7, 2) := by decide +kernel
theorem dm_X8_isMark_20 : mj_dec prog_10_method_7_code 20 = some (.if_icmp .ne 19, 3) := by decide +kernel
theorem dm_X8_isMark_39 : mj_dec prog_10_method_7_code 39 = some (.iconst 0, 1) := by decide +kernel
theorem dm_X8_isMark_40 : mj_dec prog_10_method_7_code 40 = some (.ireturn, 1) := by decide +kernel
set_option maxRecDepth 20000 in
theorem pm_X7_read : mj_mmof pg_ms 35 = some ((⟨"ArrayCalculator$Reader", "read", "()Z"⟩, prog_9_method_6_code, 3, (Option.some Jvm.ClassFile.FieldType.boolean)), 7, false, mj_dec prog_9_method_6_code) := rfl
theorem dm_X7_read_0 : mj_dec prog_9_method_6_code 0 = some (.aload_n 0, 1) := by decide +kernel
theorem dm_X7_read_1 : mj_dec prog_9_method_6_code 1 = some (.iconst 0, 1) := by decide +kernel
theorem dm_X7_read_2 : mj_dec prog_9_method_6_code 2 = some (.putfield 38, 3) := by decide +kernel
theorem dm_X7_read_5 : mj_dec prog_9_method_6_code 5 = some (.aload_n 0, 1) := by decide +kernel
theorem dm_X7_read_6 : mj_dec prog_9_method_6_code 6 = some (.aload_n 0, 1) := by decide +kernel
theorem dm_X7_read_7 : mj_dec prog_9_method_6_code 7 = some (.getfield 9, 3) := by decide +kernel
theorem dm_X7_read_10 : mj_dec prog_9_method_6_code 10 = some (.iconst 0, 1) := by decide +kernel
theorem dm_X7_read_11 : mj_dec prog_9_method_6_code 11 = some (.invokevirtual 41, 3) := by decide +kernel
theorem dm_X7_read_14 : mj_dec prog_9_method_6_code 14 = some (.putfield 31, 3) := by decide +kernel
theorem dm_X7_read_17 : mj_dec prog_9_method_6_code 17 = some (.aload_n 0, 1) := by decide +kernel
theorem dm_X7_read_18 : mj_dec prog_9_method_6_code 18 = some (.aload_n 0, 1) := by decide +kernel
theorem dm_X7_read_19 : mj_dec prog_9_method_6_code 19 = some (.getfield 9, 3) := by decide +kernel
theorem dm_X7_read_22 : mj_dec prog_9_method_6_code 22 = some (.iconst 0, 1) := by decide +kernel
theorem dm_X7_read_23 : mj_dec prog_9_method_6_code 23 = some (.invokevirtual 47, 3) := by decide +kernel
theorem dm_X7_read_26 : mj_dec prog_9_method_6_code 26 = some (.ifCond .eq 10, 3) := by decide +kernel
theorem dm_X7_read_36 : mj_dec prog_9_method_6_code 36 = some (.iconst 0, 1) := by decide +kernel
theorem dm_X7_read_37 : mj_dec prog_9_method_6_code 37 = some (.putfield 28, 3) := by decide +kernel
theorem dm_X7_read_40 : mj_dec prog_9_method_6_code 40 = some (.aload_n 0, 1) := by decide +kernel
theorem dm_X7_read_41 : mj_dec prog_9_method_6_code 41 = some (.getfield 31, 3) := by decide +kernel
theorem dm_X7_read_44 : mj_dec prog_9_method_6_code 44 = some (.ldc2_w 55, 3) := by decide +kernel
theorem dm_X7_read_47 : mj_dec prog_9_method_6_code 47 = some (.lcmp, 1) := by decide +kernel
theorem dm_X7_read_48 : mj_dec prog_9_method_6_code 48 = some (.ifCond .eq 14, 3) := by decide +kernel
theorem dm_X7_read_51 : mj_dec prog_9_method_6_code 51 = some (.aload_n 0, 1) := by decide +kernel
theorem dm_X7_read_52 : mj_dec prog_9_method_6_code 52 = some (.getfield 31, 3) := by decide +kernel
theorem dm_X7_read_55 : mj_dec prog_9_method_6_code 55 = some (.ldc2_w 57, 3) := by decide +kernel
theorem dm_X7_read_58 : mj_dec prog_9_method_6_code 58 = some (.lcmp, 1) := by decide +kernel
theorem dm_X7_read_59 : mj_dec prog_9_method_6_code 59 = some (.ifCond .ne 7, 3) := by decide +kernel
theorem dm_X7_read_66 : mj_dec prog_9_method_6_code 66 = some (.iconst 0, 1) := by decide +kernel
theorem dm_X7_read_67 : mj_dec prog_9_method_6_code 67 = some (.istore_n 1, 1) := by decide +kernel
theorem dm_X7_read_68 : mj_dec prog_9_method_6_code 68 = some (.aload_n 0, 1) := by decide +kernel
theorem dm_X7_read_69 : mj_dec prog_9_method_6_code 69 = some (.getfield 28, 3) := by decide +kernel
theorem dm_X7_read_72 : mj_dec prog_9_method_6_code 72 = some (.ifCond .eq 37, 3) := by decide +kernel
theorem dm_X7_read_109 : mj_dec prog_9_method_6_code 109 = some (.aconst_null, 1) := by decide +kernel
theorem dm_X7_read_110 : mj_dec prog_9_method_6_code 110 = some (.astore_n 2, 1) := by decide +kernel
theorem dm_X7_read_111 : mj_dec prog_9_method_6_code 111 = some (.aload_n 0, 1) := by decide +kernel
theorem dm_X7_read_112 : mj_dec prog_9_method_6_code 112 = some (.getfield 28, 3) := by decide +kernel
theorem dm_X7_read_115 : mj_dec prog_9_method_6_code 115 = some (.iconst 3, 1) := by decide +kernel
theorem dm_X7_read_116 : mj_dec prog_9_method_6_code 116 = some (.if_icmp .ne 42, 3) := by decide +kernel
theorem dm_X7_read_158 : mj_dec prog_9_method_6_code 158 = some (.aload_n 0, 1) := by decide +kernel
theorem dm_X7_read_159 : mj_dec prog_9_method_6_code 159 = some (.getfield 28, 3) := by decide +kernel
theorem dm_X7_read_162 : mj_dec prog_9_method_6_code 162 = some (.ifCond .eq 20, 3) := by decide +kernel
theorem dm_X7_read_182 : mj_dec prog_9_method_6_code 182 = some (.aload_n 0, 1) := by decide +kernel
theorem dm_X7_read_183 : mj_dec prog_9_method_6_code 183 = some (.aload_n 0, 1) := by decide +kernel
theorem dm_X7_read_184 : mj_dec prog_9_method_6_code 184 = some (.aload_n 2, 1) := by decide +kernel
theorem dm_X7_read_185 : mj_dec prog_9_method_6_code 185 = some (.aload_n 0, 1) := by decide +kernel
theorem dm_X7_read_186 : mj_dec prog_9_method_6_code 186 = some (.getfield 28, 3) := by decide +kernel
theorem dm_X7_read_189 : mj_dec prog_9_method_6_code 189 = some (.iconst 2, 1) := by decide +kernel
theorem dm_X7_read_190 : mj_dec prog_9_method_6_code 190 = some (.if_icmp .ne 7, 3) := by decide +kernel
theorem dm_X7_read_197 : mj_dec prog_9_method_6_code 197 = some (.iconst 0, 1) := by decide +kernel
theorem dm_X7_read_198 : mj_dec prog_9_method_6_code 198 = some (.invokevirtual 70, 3) := by decide +kernel
theorem dm_X7_read_201 : mj_dec prog_9_method_6_code 201 = some (.putfield 35, 3) := by decide +kernel
theorem dm_X7_read_204 : mj_dec prog_9_method_6_code 204 = some (.aload_n 0, 1) := by decide +kernel
theorem dm_X7_read_205 : mj_dec prog_9_method_6_code 205 = some (.getfield 35, 3) := by decide +kernel
theorem dm_X7_read_208 : mj_dec prog_9_method_6_code 208 = some (.ifnull 20, 3) := by decide +kernel
theorem dm_X7_read_228 : mj_dec prog_9_method_6_code 228 = some (.iconst 0, 1) := by decide +kernel
theorem dm_X7_read_229 : mj_dec prog_9_method_6_code 229 = some (.ireturn, 1) := by decide +kernel
set_option maxRecDepth 20000 in
theorem pm_X7_fail : mj_mmof pg_ms 38 = some ((⟨"ArrayCalculator$Reader", "fail", "()LArrayCalculator$Op;"⟩, prog_9_method_7_code, 1, (Option.some (Jvm.ClassFile.FieldType.object "ArrayCalculator$Op"))), 7, false, mj_dec prog_9_method_7_code) := rfl
theorem dm_X7_fail_0 : mj_dec prog_9_method_7_code 0 = some (.aload_n 0, 1) := by decide +kernel
theorem dm_X7_fail_1 : mj_dec prog_9_method_7_code 1 = some (.aload_n 0, 1) := by decide +kernel
theorem dm_X7_fail_2 : mj_dec prog_9_method_7_code 2 = some (.getfield 9, 3) := by decide +kernel
theorem dm_X7_fail_5 : mj_dec prog_9_method_7_code 5 = some (.aload_n 0, 1) := by decide +kernel
theorem dm_X7_fail_6 : mj_dec prog_9_method_7_code 6 = some (.getfield 38, 3) := by decide +kernel
theorem dm_X7_fail_9 : mj_dec prog_9_method_7_code 9 = some (.invokevirtual 81, 3) := by decide +kernel
theorem dm_X7_fail_12 : mj_dec prog_9_method_7_code 12 = some (.putfield 24, 3) := by decide +kernel
theorem dm_X7_fail_15 : mj_dec prog_9_method_7_code 15 = some (.aconst_null, 1) := by decide +kernel
theorem dm_X7_fail_16 : mj_dec prog_9_method_7_code 16 = some (.areturn, 1) := by decide +kernel
set_option maxRecDepth 20000 in
theorem pm_X8_placeAt : mj_mmof pg_ms 39 = some ((⟨"ArrayCalculator$Tokens", "placeAt", "(I)I"⟩, prog_10_method_5_code, 2, (Option.some Jvm.ClassFile.FieldType.int)), 8, false, mj_dec prog_10_method_5_code) := rfl
theorem dm_X8_placeAt_0 : mj_dec prog_10_method_5_code 0 = some (.iload_n 1, 1) := by decide +kernel
theorem dm_X8_placeAt_1 : mj_dec prog_10_method_5_code 1 = some (.ifCond .lt 20, 3) := by decide +kernel
theorem dm_X8_placeAt_4 : mj_dec prog_10_method_5_code 4 = some (.iload_n 1, 1) := by decide +kernel
theorem dm_X8_placeAt_5 : mj_dec prog_10_method_5_code 5 = some (.aload_n 0, 1) := by decide +kernel
theorem dm_X8_placeAt_6 : mj_dec prog_10_method_5_code 6 = some (.getfield 39, 3) := by decide +kernel
theorem dm_X8_placeAt_9 : mj_dec prog_10_method_5_code 9 = some (.if_icmp .ge 12, 3) := by decide +kernel
theorem dm_X8_placeAt_12 : mj_dec prog_10_method_5_code 12 = some (.aload_n 0, 1) := by decide +kernel
theorem dm_X8_placeAt_13 : mj_dec prog_10_method_5_code 13 = some (.getfield 15, 3) := by decide +kernel
theorem dm_X8_placeAt_16 : mj_dec prog_10_method_5_code 16 = some (.iload_n 1, 1) := by decide +kernel
theorem dm_X8_placeAt_17 : mj_dec prog_10_method_5_code 17 = some (.iaload, 1) := by decide +kernel
theorem dm_X8_placeAt_18 : mj_dec prog_10_method_5_code 18 = some (.goto 7, 3) := by decide +kernel
theorem dm_X8_placeAt_25 : mj_dec prog_10_method_5_code 25 = some (.ireturn, 1) := by decide +kernel
set_option maxRecDepth 20000 in
theorem pm_X7_expr : mj_mmof pg_ms 41 = some ((⟨"ArrayCalculator$Reader", "expr", "(LArrayCalculator$Op;I)LArrayCalculator$Op;"⟩, prog_9_method_12_code, 6, (Option.some (Jvm.ClassFile.FieldType.object "ArrayCalculator$Op"))), 7, false, mj_dec prog_9_method_12_code) := rfl
theorem dm_X7_expr_0 : mj_dec prog_9_method_12_code 0 = some (.aload_n 1, 1) := by decide +kernel
theorem dm_X7_expr_1 : mj_dec prog_9_method_12_code 1 = some (.astore_n 3, 1) := by decide +kernel
theorem dm_X7_expr_2 : mj_dec prog_9_method_12_code 2 = some (.iconst 0, 1) := by decide +kernel
theorem dm_X7_expr_3 : mj_dec prog_9_method_12_code 3 = some (.istore 4, 2) := by decide +kernel
theorem dm_X7_expr_5 : mj_dec prog_9_method_12_code 5 = some (.iload 4, 2) := by decide +kernel
theorem dm_X7_expr_7 : mj_dec prog_9_method_12_code 7 = some (.sipush 200, 3) := by decide +kernel
theorem dm_X7_expr_10 : mj_dec prog_9_method_12_code 10 = some (.if_icmp .gt 91, 3) := by decide +kernel
theorem dm_X7_expr_13 : mj_dec prog_9_method_12_code 13 = some (.aload_n 0, 1) := by decide +kernel
theorem dm_X7_expr_14 : mj_dec prog_9_method_12_code 14 = some (.invokevirtual 96, 3) := by decide +kernel
theorem dm_X7_expr_17 : mj_dec prog_9_method_12_code 17 = some (.ifCond .eq 27, 3) := by decide +kernel
theorem dm_X7_expr_44 : mj_dec prog_9_method_12_code 44 = some (.aload_n 0, 1) := by decide +kernel
theorem dm_X7_expr_45 : mj_dec prog_9_method_12_code 45 = some (.new 15, 3) := by decide +kernel
theorem dm_X7_expr_48 : mj_dec prog_9_method_12_code 48 = some (.dup, 1) := by decide +kernel
theorem dm_X7_expr_49 : mj_dec prog_9_method_12_code 49 = some (.iconst 0, 1) := by decide +kernel
theorem dm_X7_expr_50 : mj_dec prog_9_method_12_code 50 = some (.iconst 0, 1) := by decide +kernel
theorem dm_X7_expr_51 : mj_dec prog_9_method_12_code 51 = some (.aload_n 3, 1) := by decide +kernel
theorem dm_X7_expr_52 : mj_dec prog_9_method_12_code 52 = some (.invokespecial 17, 3) := by decide +kernel
theorem dm_X7_expr_55 : mj_dec prog_9_method_12_code 55 = some (.iload_n 2, 1) := by decide +kernel
theorem dm_X7_expr_56 : mj_dec prog_9_method_12_code 56 = some (.invokevirtual 103, 3) := by decide +kernel
theorem dm_X7_expr_59 : mj_dec prog_9_method_12_code 59 = some (.astore 5, 2) := by decide +kernel
theorem dm_X7_expr_61 : mj_dec prog_9_method_12_code 61 = some (.aload 5, 2) := by decide +kernel
theorem dm_X7_expr_63 : mj_dec prog_9_method_12_code 63 = some (.ifnull 10, 3) := by decide +kernel
theorem dm_X7_expr_73 : mj_dec prog_9_method_12_code 73 = some (.aload 5, 2) := by decide +kernel
theorem dm_X7_expr_75 : mj_dec prog_9_method_12_code 75 = some (.areturn, 1) := by decide +kernel
set_option maxRecDepth 20000 in
theorem pm_X7_isDoes : mj_mmof pg_ms 42 = some ((⟨"ArrayCalculator$Reader", "isDoes", "()Z"⟩, prog_9_method_13_code, 1, (Option.some Jvm.ClassFile.FieldType.boolean)), 7, false, mj_dec prog_9_method_13_code) := rfl
theorem dm_X7_isDoes_0 : mj_dec prog_9_method_13_code 0 = some (.aload_n 0, 1) := by decide +kernel
theorem dm_X7_isDoes_1 : mj_dec prog_9_method_13_code 1 = some (.getfield 9, 3) := by decide +kernel
theorem dm_X7_isDoes_4 : mj_dec prog_9_method_13_code 4 = some (.aload_n 0, 1) := by decide +kernel
theorem dm_X7_isDoes_5 : mj_dec prog_9_method_13_code 5 = some (.getfield 38, 3) := by decide +kernel
theorem dm_X7_isDoes_8 : mj_dec prog_9_method_13_code 8 = some (.invokevirtual 59, 3) := by decide +kernel
theorem dm_X7_isDoes_11 : mj_dec prog_9_method_13_code 11 = some (.iconst 5, 1) := by decide +kernel
theorem dm_X7_isDoes_12 : mj_dec prog_9_method_13_code 12 = some (.if_icmp .eq 18, 3) := by decide +kernel
theorem dm_X7_isDoes_15 : mj_dec prog_9_method_13_code 15 = some (.aload_n 0, 1) := by decide +kernel
theorem dm_X7_isDoes_16 : mj_dec prog_9_method_13_code 16 = some (.getfield 9, 3) := by decide +kernel
theorem dm_X7_isDoes_19 : mj_dec prog_9_method_13_code 19 = some (.aload_n 0, 1) := by decide +kernel
theorem dm_X7_isDoes_20 : mj_dec prog_9_method_13_code 20 = some (.getfield 38, 3) := by decide +kernel
theorem dm_X7_isDoes_23 : mj_dec prog_9_method_13_code 23 = some (.invokevirtual 59, 3) := by decide +kernel
theorem dm_X7_isDoes_26 : mj_dec prog_9_method_13_code 26 = some (.iconst 4, 1) := by decide +kernel
theorem dm_X7_isDoes_27 : mj_dec prog_9_method_13_code 27 = some (.if_icmp .ne 7, 3) := by decide +kernel
theorem dm_X7_isDoes_34 : mj_dec prog_9_method_13_code 34 = some (.iconst 0, 1) := by decide +kernel
theorem dm_X7_isDoes_35 : mj_dec prog_9_method_13_code 35 = some (.ireturn, 1) := by decide +kernel
set_option maxRecDepth 20000 in
theorem pm_X7_noun : mj_mmof pg_ms 44 = some ((⟨"ArrayCalculator$Reader", "noun", "(LArrayCalculator$Op;I)LArrayCalculator$Op;"⟩, prog_9_method_15_code, 7, (Option.some (Jvm.ClassFile.FieldType.object "ArrayCalculator$Op"))), 7, false, mj_dec prog_9_method_15_code) := rfl
theorem dm_X7_noun_0 : mj_dec prog_9_method_15_code 0 = some (.aload_n 1, 1) := by decide +kernel
theorem dm_X7_noun_1 : mj_dec prog_9_method_15_code 1 = some (.astore_n 3, 1) := by decide +kernel
theorem dm_X7_noun_2 : mj_dec prog_9_method_15_code 2 = some (.aload_n 0, 1) := by decide +kernel
theorem dm_X7_noun_3 : mj_dec prog_9_method_15_code 3 = some (.aload_n 1, 1) := by decide +kernel
theorem dm_X7_noun_4 : mj_dec prog_9_method_15_code 4 = some (.iload_n 2, 1) := by decide +kernel
theorem dm_X7_noun_5 : mj_dec prog_9_method_15_code 5 = some (.invokevirtual 121, 3) := by decide +kernel
theorem dm_X7_noun_8 : mj_dec prog_9_method_15_code 8 = some (.astore 4, 2) := by decide +kernel
theorem dm_X7_noun_10 : mj_dec prog_9_method_15_code 10 = some (.iconst 0, 1) := by decide +kernel
theorem dm_X7_noun_11 : mj_dec prog_9_method_15_code 11 = some (.istore 5, 2) := by decide +kernel
theorem dm_X7_noun_13 : mj_dec prog_9_method_15_code 13 = some (.iload 5, 2) := by decide +kernel
theorem dm_X7_noun_15 : mj_dec prog_9_method_15_code 15 = some (.sipush 200, 3) := by decide +kernel
theorem dm_X7_noun_18 : mj_dec prog_9_method_15_code 18 = some (.if_icmp .gt 90, 3) := by decide +kernel
theorem dm_X7_noun_21 : mj_dec prog_9_method_15_code 21 = some (.aload 4, 2) := by decide +kernel
theorem dm_X7_noun_23 : mj_dec prog_9_method_15_code 23 = some (.ifnull 85, 3) := by decide +kernel
theorem dm_X7_noun_108 : mj_dec prog_9_method_15_code 108 = some (.aload_n 0, 1) := by decide +kernel
theorem dm_X7_noun_109 : mj_dec prog_9_method_15_code 109 = some (.aload_n 3, 1) := by decide +kernel
theorem dm_X7_noun_110 : mj_dec prog_9_method_15_code 110 = some (.putfield 20, 3) := by decide +kernel
theorem dm_X7_noun_113 : mj_dec prog_9_method_15_code 113 = some (.aload 4, 2) := by decide +kernel
theorem dm_X7_noun_115 : mj_dec prog_9_method_15_code 115 = some (.areturn, 1) := by decide +kernel
set_option maxRecDepth 20000 in
theorem pm_X7_base : mj_mmof pg_ms 45 = some ((⟨"ArrayCalculator$Reader", "base", "(LArrayCalculator$Op;I)LArrayCalculator$Op;"⟩, prog_9_method_18_code, 6, (Option.some (Jvm.ClassFile.FieldType.object "ArrayCalculator$Op"))), 7, false, mj_dec prog_9_method_18_code) := rfl
theorem dm_X7_base_0 : mj_dec prog_9_method_18_code 0 = some (.aload_n 0, 1) := by decide +kernel
theorem dm_X7_base_1 : mj_dec prog_9_method_18_code 1 = some (.getfield 9, 3) := by decide +kernel
theorem dm_X7_base_4 : mj_dec prog_9_method_18_code 4 = some (.aload_n 0, 1) := by decide +kernel
theorem dm_X7_base_5 : mj_dec prog_9_method_18_code 5 = some (.getfield 38, 3) := by decide +kernel
theorem dm_X7_base_8 : mj_dec prog_9_method_18_code 8 = some (.invokevirtual 81, 3) := by decide +kernel
theorem dm_X7_base_11 : mj_dec prog_9_method_18_code 11 = some (.istore_n 3, 1) := by decide +kernel
theorem dm_X7_base_12 : mj_dec prog_9_method_18_code 12 = some (.aload_n 0, 1) := by decide +kernel
theorem dm_X7_base_13 : mj_dec prog_9_method_18_code 13 = some (.getfield 9, 3) := by decide +kernel
theorem dm_X7_base_16 : mj_dec prog_9_method_18_code 16 = some (.aload_n 0, 1) := by decide +kernel
theorem dm_X7_base_17 : mj_dec prog_9_method_18_code 17 = some (.getfield 38, 3) := by decide +kernel
theorem dm_X7_base_20 : mj_dec prog_9_method_18_code 20 = some (.invokevirtual 59, 3) := by decide +kernel
theorem dm_X7_base_23 : mj_dec prog_9_method_18_code 23 = some (.istore 4, 2) := by decide +kernel
theorem dm_X7_base_25 : mj_dec prog_9_method_18_code 25 = some (.iload 4, 2) := by decide +kernel
theorem dm_X7_base_27 : mj_dec prog_9_method_18_code 27 = some (.iconst 1, 1) := by decide +kernel
theorem dm_X7_base_28 : mj_dec prog_9_method_18_code 28 = some (.if_icmp .ne 9, 3) := by decide +kernel
theorem dm_X7_base_37 : mj_dec prog_9_method_18_code 37 = some (.iload 4, 2) := by decide +kernel
theorem dm_X7_base_39 : mj_dec prog_9_method_18_code 39 = some (.iconst 2, 1) := by decide +kernel
theorem dm_X7_base_40 : mj_dec prog_9_method_18_code 40 = some (.if_icmp .ne 44, 3) := by decide +kernel
theorem dm_X7_base_84 : mj_dec prog_9_method_18_code 84 = some (.iload 4, 2) := by decide +kernel
theorem dm_X7_base_86 : mj_dec prog_9_method_18_code 86 = some (.iconst 3, 1) := by decide +kernel
theorem dm_X7_base_87 : mj_dec prog_9_method_18_code 87 = some (.if_icmp .ne 44, 3) := by decide +kernel
theorem dm_X7_base_131 : mj_dec prog_9_method_18_code 131 = some (.iload_n 2, 1) := by decide +kernel
theorem dm_X7_base_132 : mj_dec prog_9_method_18_code 132 = some (.bipush 12, 2) := by decide +kernel
theorem dm_X7_base_134 : mj_dec prog_9_method_18_code 134 = some (.if_icmp .ge 28, 3) := by decide +kernel
theorem dm_X7_base_137 : mj_dec prog_9_method_18_code 137 = some (.aload_n 0, 1) := by decide +kernel
theorem dm_X7_base_138 : mj_dec prog_9_method_18_code 138 = some (.getfield 9, 3) := by decide +kernel
theorem dm_X7_base_141 : mj_dec prog_9_method_18_code 141 = some (.aload_n 0, 1) := by decide +kernel
theorem dm_X7_base_142 : mj_dec prog_9_method_18_code 142 = some (.getfield 38, 3) := by decide +kernel
theorem dm_X7_base_145 : mj_dec prog_9_method_18_code 145 = some (.bipush 40, 2) := by decide +kernel
theorem dm_X7_base_147 : mj_dec prog_9_method_18_code 147 = some (.invokevirtual 84, 3) := by decide +kernel
theorem dm_X7_base_150 : mj_dec prog_9_method_18_code 150 = some (.ifCond .eq 12, 3) := by decide +kernel
theorem dm_X7_base_162 : mj_dec prog_9_method_18_code 162 = some (.iload_n 2, 1) := by decide +kernel
theorem dm_X7_base_163 : mj_dec prog_9_method_18_code 163 = some (.bipush 12, 2) := by decide +kernel
theorem dm_X7_base_165 : mj_dec prog_9_method_18_code 165 = some (.if_icmp .ge 28, 3) := by decide +kernel
theorem dm_X7_base_168 : mj_dec prog_9_method_18_code 168 = some (.aload_n 0, 1) := by decide +kernel
theorem dm_X7_base_169 : mj_dec prog_9_method_18_code 169 = some (.getfield 9, 3) := by decide +kernel
theorem dm_X7_base_172 : mj_dec prog_9_method_18_code 172 = some (.aload_n 0, 1) := by decide +kernel
theorem dm_X7_base_173 : mj_dec prog_9_method_18_code 173 = some (.getfield 38, 3) := by decide +kernel
theorem dm_X7_base_176 : mj_dec prog_9_method_18_code 176 = some (.bipush 91, 2) := by decide +kernel
theorem dm_X7_base_178 : mj_dec prog_9_method_18_code 178 = some (.invokevirtual 84, 3) := by decide +kernel
theorem dm_X7_base_181 : mj_dec prog_9_method_18_code 181 = some (.ifCond .eq 12, 3) := by decide +kernel
theorem dm_X7_base_193 : mj_dec prog_9_method_18_code 193 = some (.aload_n 0, 1) := by decide +kernel
theorem dm_X7_base_194 : mj_dec prog_9_method_18_code 194 = some (.invokevirtual 63, 3) := by decide +kernel
theorem dm_X7_base_197 : mj_dec prog_9_method_18_code 197 = some (.areturn, 1) := by decide +kernel
set_option maxRecDepth 20000 in
theorem pm_X7_wrongPlace : mj_mmof pg_ms 58 = some ((⟨"ArrayCalculator$Reader", "wrongPlace", "()I"⟩, prog_9_method_2_code, 1, (Option.some Jvm.ClassFile.FieldType.int)), 7, false, mj_dec prog_9_method_2_code) := rfl
theorem dm_X7_wrongPlace_0 : mj_dec prog_9_method_2_code 0 = some (.aload_n 0, 1) := by decide +kernel
theorem dm_X7_wrongPlace_1 : mj_dec prog_9_method_2_code 1 = some (.getfield 24, 3) := by decide +kernel
theorem dm_X7_wrongPlace_4 : mj_dec prog_9_method_2_code 4 = some (.ireturn, 1) := by decide +kernel
set_option maxRecDepth 20000 in
theorem pm_X11_endLine : mj_mmof pg_ms 59 = some ((⟨"ArrayCalculator", "endLine", "(II)V"⟩, prog_1_method_5_code, 3, (Option.none : Option Jvm.ClassFile.FieldType)), 11, false, mj_dec prog_1_method_5_code) := rfl
theorem dm_X11_endLine_0 : mj_dec prog_1_method_5_code 0 = some (.aload_n 0, 1) := by decide +kernel
theorem dm_X11_endLine_1 : mj_dec prog_1_method_5_code 1 = some (.iload_n 1, 1) := by decide +kernel
theorem dm_X11_endLine_2 : mj_dec prog_1_method_5_code 2 = some (.putfield 134, 3) := by decide +kernel
theorem dm_X11_endLine_5 : mj_dec prog_1_method_5_code 5 = some (.aload_n 0, 1) := by decide +kernel
theorem dm_X11_endLine_6 : mj_dec prog_1_method_5_code 6 = some (.iload_n 2, 1) := by decide +kernel
theorem dm_X11_endLine_7 : mj_dec prog_1_method_5_code 7 = some (.putfield 73, 3) := by decide +kernel
theorem dm_X11_endLine_10 : mj_dec prog_1_method_5_code 10 = some (.return_, 1) := by decide +kernel
set_option maxRecDepth 20000 in
theorem pm_X12_line : mj_mmof pg_ms 202 = some ((⟨"ArrayCalculatorModel", "line", "(I)I"⟩, prog_14_method_95_code, 5, (Option.some Jvm.ClassFile.FieldType.int)), 12, false, mj_dec prog_14_method_95_code) := rfl
theorem dm_X12_line_0 : mj_dec prog_14_method_95_code 0 = some (.iload_n 1, 1) := by decide +kernel
theorem dm_X12_line_1 : mj_dec prog_14_method_95_code 1 = some (.ifCond .lt 11, 3) := by decide +kernel
theorem dm_X12_line_12 : mj_dec prog_14_method_95_code 12 = some (.bipush (-100), 2) := by decide +kernel
theorem dm_X12_line_14 : mj_dec prog_14_method_95_code 14 = some (.ireturn, 1) := by decide +kernel
theorem dm_X12_line_4 : mj_dec prog_14_method_95_code 4 = some (.iload_n 1, 1) := by decide +kernel
theorem dm_X12_line_5 : mj_dec prog_14_method_95_code 5 = some (.aload_n 0, 1) := by decide +kernel
theorem dm_X12_line_6 : mj_dec prog_14_method_95_code 6 = some (.getfield 501, 3) := by decide +kernel
theorem dm_X12_line_9 : mj_dec prog_14_method_95_code 9 = some (.if_icmp .le 6, 3) := by decide +kernel
theorem dm_X12_line_15 : mj_dec prog_14_method_95_code 15 = some (.aload_n 0, 1) := by decide +kernel
theorem dm_X12_line_16 : mj_dec prog_14_method_95_code 16 = some (.iconst 0, 1) := by decide +kernel
theorem dm_X12_line_17 : mj_dec prog_14_method_95_code 17 = some (.putfield 501, 3) := by decide +kernel
theorem dm_X12_line_20 : mj_dec prog_14_method_95_code 20 = some (.aload_n 0, 1) := by decide +kernel
theorem dm_X12_line_21 : mj_dec prog_14_method_95_code 21 = some (.getfield 119, 3) := by decide +kernel
theorem dm_X12_line_24 : mj_dec prog_14_method_95_code 24 = some (.istore_n 2, 1) := by decide +kernel
theorem dm_X12_line_25 : mj_dec prog_14_method_95_code 25 = some (.aload_n 0, 1) := by decide +kernel
theorem dm_X12_line_26 : mj_dec prog_14_method_95_code 26 = some (.getfield 102, 3) := by decide +kernel
theorem dm_X12_line_29 : mj_dec prog_14_method_95_code 29 = some (.istore_n 3, 1) := by decide +kernel
theorem dm_X12_line_30 : mj_dec prog_14_method_95_code 30 = some (.aload_n 0, 1) := by decide +kernel
theorem dm_X12_line_31 : mj_dec prog_14_method_95_code 31 = some (.getfield 424, 3) := by decide +kernel
theorem dm_X12_line_34 : mj_dec prog_14_method_95_code 34 = some (.istore 4, 2) := by decide +kernel
theorem dm_X12_line_36 : mj_dec prog_14_method_95_code 36 = some (.aload_n 0, 1) := by decide +kernel
theorem dm_X12_line_37 : mj_dec prog_14_method_95_code 37 = some (.iconst 0, 1) := by decide +kernel
theorem dm_X12_line_38 : mj_dec prog_14_method_95_code 38 = some (.putfield 181, 3) := by decide +kernel
theorem dm_X12_line_41 : mj_dec prog_14_method_95_code 41 = some (.aload_n 0, 1) := by decide +kernel
theorem dm_X12_line_42 : mj_dec prog_14_method_95_code 42 = some (.iconst (-1), 1) := by decide +kernel
theorem dm_X12_line_43 : mj_dec prog_14_method_95_code 43 = some (.putfield 22, 3) := by decide +kernel
theorem dm_X12_line_46 : mj_dec prog_14_method_95_code 46 = some (.aload_n 0, 1) := by decide +kernel
theorem dm_X12_line_47 : mj_dec prog_14_method_95_code 47 = some (.iconst 0, 1) := by decide +kernel
theorem dm_X12_line_48 : mj_dec prog_14_method_95_code 48 = some (.putfield 193, 3) := by decide +kernel
theorem dm_X12_line_51 : mj_dec prog_14_method_95_code 51 = some (.aload_n 0, 1) := by decide +kernel
theorem dm_X12_line_52 : mj_dec prog_14_method_95_code 52 = some (.iconst 0, 1) := by decide +kernel
theorem dm_X12_line_53 : mj_dec prog_14_method_95_code 53 = some (.putfield 184, 3) := by decide +kernel
theorem dm_X12_line_56 : mj_dec prog_14_method_95_code 56 = some (.aload_n 0, 1) := by decide +kernel
theorem dm_X12_line_57 : mj_dec prog_14_method_95_code 57 = some (.iconst 0, 1) := by decide +kernel
theorem dm_X12_line_58 : mj_dec prog_14_method_95_code 58 = some (.putfield 202, 3) := by decide +kernel
theorem dm_X12_line_61 : mj_dec prog_14_method_95_code 61 = some (.aload_n 0, 1) := by decide +kernel
theorem dm_X12_line_62 : mj_dec prog_14_method_95_code 62 = some (.iload_n 1, 1) := by decide +kernel
theorem dm_X12_line_63 : mj_dec prog_14_method_95_code 63 = some (.invokevirtual 507, 3) := by decide +kernel
theorem dm_X12_line_66 : mj_dec prog_14_method_95_code 66 = some (.aload_n 0, 1) := by decide +kernel
theorem dm_X12_line_67 : mj_dec prog_14_method_95_code 67 = some (.getfield 427, 3) := by decide +kernel
theorem dm_X12_line_70 : mj_dec prog_14_method_95_code 70 = some (.ifCond .lt 16, 3) := by decide +kernel
theorem dm_X12_line_73 : mj_dec prog_14_method_95_code 73 = some (.aload_n 0, 1) := by decide +kernel
theorem dm_X12_line_74 : mj_dec prog_14_method_95_code 74 = some (.iconst 1, 1) := by decide +kernel
theorem dm_X12_line_75 : mj_dec prog_14_method_95_code 75 = some (.aload_n 0, 1) := by decide +kernel
theorem dm_X12_line_76 : mj_dec prog_14_method_95_code 76 = some (.getfield 427, 3) := by decide +kernel
theorem dm_X12_line_79 : mj_dec prog_14_method_95_code 79 = some (.invokevirtual 190, 3) := by decide +kernel
theorem dm_X12_line_82 : mj_dec prog_14_method_95_code 82 = some (.pop, 1) := by decide +kernel
theorem dm_X12_line_83 : mj_dec prog_14_method_95_code 83 = some (.goto 7, 3) := by decide +kernel
theorem dm_X12_line_90 : mj_dec prog_14_method_95_code 90 = some (.aload_n 0, 1) := by decide +kernel
theorem dm_X12_line_91 : mj_dec prog_14_method_95_code 91 = some (.getfield 181, 3) := by decide +kernel
theorem dm_X12_line_94 : mj_dec prog_14_method_95_code 94 = some (.ifCond .le 13, 3) := by decide +kernel
theorem dm_X12_line_97 : mj_dec prog_14_method_95_code 97 = some (.aload_n 0, 1) := by decide +kernel
theorem dm_X12_line_98 : mj_dec prog_14_method_95_code 98 = some (.iload_n 2, 1) := by decide +kernel
theorem dm_X12_line_99 : mj_dec prog_14_method_95_code 99 = some (.putfield 119, 3) := by decide +kernel
theorem dm_X12_line_102 : mj_dec prog_14_method_95_code 102 = some (.aload_n 0, 1) := by decide +kernel
theorem dm_X12_line_103 : mj_dec prog_14_method_95_code 103 = some (.iload_n 3, 1) := by decide +kernel
theorem dm_X12_line_104 : mj_dec prog_14_method_95_code 104 = some (.putfield 102, 3) := by decide +kernel
theorem dm_X12_line_107 : mj_dec prog_14_method_95_code 107 = some (.aload_n 0, 1) := by decide +kernel
theorem dm_X12_line_108 : mj_dec prog_14_method_95_code 108 = some (.getfield 181, 3) := by decide +kernel
theorem dm_X12_line_111 : mj_dec prog_14_method_95_code 111 = some (.ifCond .gt 11, 3) := by decide +kernel
theorem dm_X12_line_122 : mj_dec prog_14_method_95_code 122 = some (.aload_n 0, 1) := by decide +kernel
theorem dm_X12_line_123 : mj_dec prog_14_method_95_code 123 = some (.iload 4, 2) := by decide +kernel
theorem dm_X12_line_125 : mj_dec prog_14_method_95_code 125 = some (.putfield 424, 3) := by decide +kernel
theorem dm_X12_line_128 : mj_dec prog_14_method_95_code 128 = some (.aload_n 0, 1) := by decide +kernel
theorem dm_X12_line_129 : mj_dec prog_14_method_95_code 129 = some (.aload_n 0, 1) := by decide +kernel
theorem dm_X12_line_130 : mj_dec prog_14_method_95_code 130 = some (.getfield 109, 3) := by decide +kernel
theorem dm_X12_line_133 : mj_dec prog_14_method_95_code 133 = some (.putfield 112, 3) := by decide +kernel
theorem dm_X12_line_136 : mj_dec prog_14_method_95_code 136 = some (.aload_n 0, 1) := by decide +kernel
theorem dm_X12_line_137 : mj_dec prog_14_method_95_code 137 = some (.getfield 181, 3) := by decide +kernel
theorem dm_X12_line_140 : mj_dec prog_14_method_95_code 140 = some (.ineg, 1) := by decide +kernel
theorem dm_X12_line_141 : mj_dec prog_14_method_95_code 141 = some (.ireturn, 1) := by decide +kernel
set_option maxRecDepth 20000 in
theorem pm_X12_read : mj_mmof pg_ms 203 = some ((⟨"ArrayCalculatorModel", "read", "(I)V"⟩, prog_14_method_92_code, 4, (Option.none : Option Jvm.ClassFile.FieldType)), 12, false, mj_dec prog_14_method_92_code) := rfl
theorem dm_X12_read_0 : mj_dec prog_14_method_92_code 0 = some (.aload_n 0, 1) := by decide +kernel
theorem dm_X12_read_1 : mj_dec prog_14_method_92_code 1 = some (.iload_n 1, 1) := by decide +kernel
theorem dm_X12_read_2 : mj_dec prog_14_method_92_code 2 = some (.invokevirtual 475, 3) := by decide +kernel
theorem dm_X12_read_5 : mj_dec prog_14_method_92_code 5 = some (.aload_n 0, 1) := by decide +kernel
theorem dm_X12_read_6 : mj_dec prog_14_method_92_code 6 = some (.iconst 0, 1) := by decide +kernel
theorem dm_X12_read_7 : mj_dec prog_14_method_92_code 7 = some (.putfield 478, 3) := by decide +kernel
theorem dm_X12_read_10 : mj_dec prog_14_method_92_code 10 = some (.aload_n 0, 1) := by decide +kernel
theorem dm_X12_read_11 : mj_dec prog_14_method_92_code 11 = some (.iload_n 1, 1) := by decide +kernel
theorem dm_X12_read_12 : mj_dec prog_14_method_92_code 12 = some (.invokevirtual 481, 3) := by decide +kernel
theorem dm_X12_read_15 : mj_dec prog_14_method_92_code 15 = some (.istore_n 2, 1) := by decide +kernel
theorem dm_X12_read_16 : mj_dec prog_14_method_92_code 16 = some (.iload_n 2, 1) := by decide +kernel
theorem dm_X12_read_17 : mj_dec prog_14_method_92_code 17 = some (.ifCond .ne 15, 3) := by decide +kernel
theorem dm_X12_read_20 : mj_dec prog_14_method_92_code 20 = some (.aload_n 0, 1) := by decide +kernel
theorem dm_X12_read_21 : mj_dec prog_14_method_92_code 21 = some (.iload_n 1, 1) := by decide +kernel
theorem dm_X12_read_22 : mj_dec prog_14_method_92_code 22 = some (.invokevirtual 484, 3) := by decide +kernel
theorem dm_X12_read_25 : mj_dec prog_14_method_92_code 25 = some (.ifCond .eq 7, 3) := by decide +kernel
theorem dm_X12_read_32 : mj_dec prog_14_method_92_code 32 = some (.iconst 0, 1) := by decide +kernel
theorem dm_X12_read_33 : mj_dec prog_14_method_92_code 33 = some (.istore_n 3, 1) := by decide +kernel
theorem dm_X12_read_34 : mj_dec prog_14_method_92_code 34 = some (.iload_n 2, 1) := by decide +kernel
theorem dm_X12_read_35 : mj_dec prog_14_method_92_code 35 = some (.ifCond .ne 7, 3) := by decide +kernel
theorem dm_X12_read_38 : mj_dec prog_14_method_92_code 38 = some (.iload_n 3, 1) := by decide +kernel
theorem dm_X12_read_39 : mj_dec prog_14_method_92_code 39 = some (.ifCond .eq 55, 3) := by decide +kernel
theorem dm_X12_read_94 : mj_dec prog_14_method_92_code 94 = some (.iload_n 2, 1) := by decide +kernel
theorem dm_X12_read_95 : mj_dec prog_14_method_92_code 95 = some (.ifCond .eq 66, 3) := by decide +kernel
theorem dm_X12_read_161 : mj_dec prog_14_method_92_code 161 = some (.iload_n 3, 1) := by decide +kernel
theorem dm_X12_read_162 : mj_dec prog_14_method_92_code 162 = some (.ifCond .eq 55, 3) := by decide +kernel
theorem dm_X12_read_217 : mj_dec prog_14_method_92_code 217 = some (.aload_n 0, 1) := by decide +kernel
theorem dm_X12_read_218 : mj_dec prog_14_method_92_code 218 = some (.aload_n 0, 1) := by decide +kernel
theorem dm_X12_read_219 : mj_dec prog_14_method_92_code 219 = some (.invokevirtual 460, 3) := by decide +kernel
theorem dm_X12_read_222 : mj_dec prog_14_method_92_code 222 = some (.putfield 492, 3) := by decide +kernel
theorem dm_X12_read_225 : mj_dec prog_14_method_92_code 225 = some (.aload_n 0, 1) := by decide +kernel
theorem dm_X12_read_226 : mj_dec prog_14_method_92_code 226 = some (.getfield 427, 3) := by decide +kernel
theorem dm_X12_read_229 : mj_dec prog_14_method_92_code 229 = some (.ifCond .ge 15, 3) := by decide +kernel
theorem dm_X12_read_244 : mj_dec prog_14_method_92_code 244 = some (.return_, 1) := by decide +kernel
set_option maxRecDepth 20000 in
theorem pm_X12_begin : mj_mmof pg_ms 204 = some ((⟨"ArrayCalculatorModel", "begin", "(I)V"⟩, prog_14_method_89_code, 2, (Option.none : Option Jvm.ClassFile.FieldType)), 12, false, mj_dec prog_14_method_89_code) := rfl
theorem dm_X12_begin_0 : mj_dec prog_14_method_89_code 0 = some (.aload_n 0, 1) := by decide +kernel
theorem dm_X12_begin_1 : mj_dec prog_14_method_89_code 1 = some (.iload_n 1, 1) := by decide +kernel
theorem dm_X12_begin_2 : mj_dec prog_14_method_89_code 2 = some (.putfield 370, 3) := by decide +kernel
theorem dm_X12_begin_5 : mj_dec prog_14_method_89_code 5 = some (.aload_n 0, 1) := by decide +kernel
theorem dm_X12_begin_6 : mj_dec prog_14_method_89_code 6 = some (.iconst 0, 1) := by decide +kernel
theorem dm_X12_begin_7 : mj_dec prog_14_method_89_code 7 = some (.putfield 383, 3) := by decide +kernel
theorem dm_X12_begin_10 : mj_dec prog_14_method_89_code 10 = some (.aload_n 0, 1) := by decide +kernel
theorem dm_X12_begin_11 : mj_dec prog_14_method_89_code 11 = some (.iconst 0, 1) := by decide +kernel
theorem dm_X12_begin_12 : mj_dec prog_14_method_89_code 12 = some (.putfield 376, 3) := by decide +kernel
theorem dm_X12_begin_15 : mj_dec prog_14_method_89_code 15 = some (.aload_n 0, 1) := by decide +kernel
theorem dm_X12_begin_16 : mj_dec prog_14_method_89_code 16 = some (.iconst (-1), 1) := by decide +kernel
theorem dm_X12_begin_17 : mj_dec prog_14_method_89_code 17 = some (.putfield 402, 3) := by decide +kernel
theorem dm_X12_begin_20 : mj_dec prog_14_method_89_code 20 = some (.aload_n 0, 1) := by decide +kernel
theorem dm_X12_begin_21 : mj_dec prog_14_method_89_code 21 = some (.lconst 0, 1) := by decide +kernel
theorem dm_X12_begin_22 : mj_dec prog_14_method_89_code 22 = some (.putfield 421, 3) := by decide +kernel
theorem dm_X12_begin_25 : mj_dec prog_14_method_89_code 25 = some (.aload_n 0, 1) := by decide +kernel
theorem dm_X12_begin_26 : mj_dec prog_14_method_89_code 26 = some (.iconst 0, 1) := by decide +kernel
theorem dm_X12_begin_27 : mj_dec prog_14_method_89_code 27 = some (.putfield 430, 3) := by decide +kernel
theorem dm_X12_begin_30 : mj_dec prog_14_method_89_code 30 = some (.aload_n 0, 1) := by decide +kernel
theorem dm_X12_begin_31 : mj_dec prog_14_method_89_code 31 = some (.iconst (-1), 1) := by decide +kernel
theorem dm_X12_begin_32 : mj_dec prog_14_method_89_code 32 = some (.putfield 427, 3) := by decide +kernel
theorem dm_X12_begin_35 : mj_dec prog_14_method_89_code 35 = some (.aload_n 0, 1) := by decide +kernel
theorem dm_X12_begin_36 : mj_dec prog_14_method_89_code 36 = some (.invokevirtual 437, 3) := by decide +kernel
theorem dm_X12_begin_39 : mj_dec prog_14_method_89_code 39 = some (.return_, 1) := by decide +kernel
set_option maxRecDepth 20000 in
theorem pm_X12_next : mj_mmof pg_ms 205 = some ((⟨"ArrayCalculatorModel", "next", "()V"⟩, prog_14_method_73_code, 2, (Option.none : Option Jvm.ClassFile.FieldType)), 12, false, mj_dec prog_14_method_73_code) := rfl
theorem dm_X12_next_0 : mj_dec prog_14_method_73_code 0 = some (.aload_n 0, 1) := by decide +kernel
theorem dm_X12_next_1 : mj_dec prog_14_method_73_code 1 = some (.getfield 376, 3) := by decide +kernel
theorem dm_X12_next_4 : mj_dec prog_14_method_73_code 4 = some (.ifCond .eq 18, 3) := by decide +kernel
theorem dm_X12_next_22 : mj_dec prog_14_method_73_code 22 = some (.aload_n 0, 1) := by decide +kernel
theorem dm_X12_next_23 : mj_dec prog_14_method_73_code 23 = some (.getfield 383, 3) := by decide +kernel
theorem dm_X12_next_26 : mj_dec prog_14_method_73_code 26 = some (.aload_n 0, 1) := by decide +kernel
theorem dm_X12_next_27 : mj_dec prog_14_method_73_code 27 = some (.getfield 370, 3) := by decide +kernel
theorem dm_X12_next_30 : mj_dec prog_14_method_73_code 30 = some (.if_icmp .ge 30, 3) := by decide +kernel
theorem dm_X12_next_60 : mj_dec prog_14_method_73_code 60 = some (.aload_n 0, 1) := by decide +kernel
theorem dm_X12_next_61 : mj_dec prog_14_method_73_code 61 = some (.aload_n 0, 1) := by decide +kernel
theorem dm_X12_next_62 : mj_dec prog_14_method_73_code 62 = some (.getfield 383, 3) := by decide +kernel
theorem dm_X12_next_65 : mj_dec prog_14_method_73_code 65 = some (.putfield 386, 3) := by decide +kernel
theorem dm_X12_next_68 : mj_dec prog_14_method_73_code 68 = some (.aload_n 0, 1) := by decide +kernel
theorem dm_X12_next_69 : mj_dec prog_14_method_73_code 69 = some (.aload_n 0, 1) := by decide +kernel
theorem dm_X12_next_70 : mj_dec prog_14_method_73_code 70 = some (.getfield 383, 3) := by decide +kernel
theorem dm_X12_next_73 : mj_dec prog_14_method_73_code 73 = some (.invokevirtual 373, 3) := by decide +kernel
theorem dm_X12_next_76 : mj_dec prog_14_method_73_code 76 = some (.istore_n 1, 1) := by decide +kernel
theorem dm_X12_next_77 : mj_dec prog_14_method_73_code 77 = some (.aload_n 0, 1) := by decide +kernel
theorem dm_X12_next_78 : mj_dec prog_14_method_73_code 78 = some (.getfield 383, 3) := by decide +kernel
theorem dm_X12_next_81 : mj_dec prog_14_method_73_code 81 = some (.aload_n 0, 1) := by decide +kernel
theorem dm_X12_next_82 : mj_dec prog_14_method_73_code 82 = some (.getfield 370, 3) := by decide +kernel
theorem dm_X12_next_85 : mj_dec prog_14_method_73_code 85 = some (.if_icmp .lt 11, 3) := by decide +kernel
theorem dm_X12_next_88 : mj_dec prog_14_method_73_code 88 = some (.aload_n 0, 1) := by decide +kernel
theorem dm_X12_next_89 : mj_dec prog_14_method_73_code 89 = some (.iconst 0, 1) := by decide +kernel
theorem dm_X12_next_90 : mj_dec prog_14_method_73_code 90 = some (.putfield 380, 3) := by decide +kernel
theorem dm_X12_next_93 : mj_dec prog_14_method_73_code 93 = some (.goto 194, 3) := by decide +kernel
theorem dm_X12_next_287 : mj_dec prog_14_method_73_code 287 = some (.return_, 1) := by decide +kernel
set_option maxRecDepth 20000 in
theorem pm_X12_byteAt : mj_mmof pg_ms 206 = some ((⟨"ArrayCalculatorModel", "byteAt", "(I)I"⟩, prog_14_method_68_code, 2, (Option.some Jvm.ClassFile.FieldType.int)), 12, false, mj_dec prog_14_method_68_code) := rfl
theorem dm_X12_byteAt_0 : mj_dec prog_14_method_68_code 0 = some (.iload_n 1, 1) := by decide +kernel
theorem dm_X12_byteAt_1 : mj_dec prog_14_method_68_code 1 = some (.aload_n 0, 1) := by decide +kernel
theorem dm_X12_byteAt_2 : mj_dec prog_14_method_68_code 2 = some (.getfield 370, 3) := by decide +kernel
theorem dm_X12_byteAt_5 : mj_dec prog_14_method_68_code 5 = some (.if_icmp .ge 16, 3) := by decide +kernel
theorem dm_X12_byteAt_21 : mj_dec prog_14_method_68_code 21 = some (.iconst 0, 1) := by decide +kernel
theorem dm_X12_byteAt_22 : mj_dec prog_14_method_68_code 22 = some (.ireturn, 1) := by decide +kernel
set_option maxRecDepth 20000 in
theorem pm_X12_isNaming : mj_mmof pg_ms 215 = some ((⟨"ArrayCalculatorModel", "isNaming", "(I)Z"⟩, prog_14_method_91_code, 3, (Option.some Jvm.ClassFile.FieldType.boolean)), 12, false, mj_dec prog_14_method_91_code) := rfl
theorem dm_X12_isNaming_0 : mj_dec prog_14_method_91_code 0 = some (.aload_n 0, 1) := by decide +kernel
theorem dm_X12_isNaming_1 : mj_dec prog_14_method_91_code 1 = some (.getfield 380, 3) := by decide +kernel
theorem dm_X12_isNaming_4 : mj_dec prog_14_method_91_code 4 = some (.iconst 3, 1) := by decide +kernel
theorem dm_X12_isNaming_5 : mj_dec prog_14_method_91_code 5 = some (.if_icmp .eq 11, 3) := by decide +kernel
theorem dm_X12_isNaming_8 : mj_dec prog_14_method_91_code 8 = some (.aload_n 0, 1) := by decide +kernel
theorem dm_X12_isNaming_9 : mj_dec prog_14_method_91_code 9 = some (.getfield 380, 3) := by decide +kernel
theorem dm_X12_isNaming_12 : mj_dec prog_14_method_91_code 12 = some (.iconst 4, 1) := by decide +kernel
theorem dm_X12_isNaming_13 : mj_dec prog_14_method_91_code 13 = some (.if_icmp .ne 7, 3) := by decide +kernel
theorem dm_X12_isNaming_20 : mj_dec prog_14_method_91_code 20 = some (.iconst 0, 1) := by decide +kernel
theorem dm_X12_isNaming_21 : mj_dec prog_14_method_91_code 21 = some (.istore_n 2, 1) := by decide +kernel
theorem dm_X12_isNaming_22 : mj_dec prog_14_method_91_code 22 = some (.aload_n 0, 1) := by decide +kernel
theorem dm_X12_isNaming_23 : mj_dec prog_14_method_91_code 23 = some (.invokevirtual 437, 3) := by decide +kernel
theorem dm_X12_isNaming_26 : mj_dec prog_14_method_91_code 26 = some (.iload_n 2, 1) := by decide +kernel
theorem dm_X12_isNaming_27 : mj_dec prog_14_method_91_code 27 = some (.ifCond .eq 16, 3) := by decide +kernel
theorem dm_X12_isNaming_43 : mj_dec prog_14_method_91_code 43 = some (.iconst 0, 1) := by decide +kernel
theorem dm_X12_isNaming_44 : mj_dec prog_14_method_91_code 44 = some (.istore_n 2, 1) := by decide +kernel
theorem dm_X12_isNaming_45 : mj_dec prog_14_method_91_code 45 = some (.aload_n 0, 1) := by decide +kernel
theorem dm_X12_isNaming_46 : mj_dec prog_14_method_91_code 46 = some (.iload_n 1, 1) := by decide +kernel
theorem dm_X12_isNaming_47 : mj_dec prog_14_method_91_code 47 = some (.invokevirtual 475, 3) := by decide +kernel
theorem dm_X12_isNaming_50 : mj_dec prog_14_method_91_code 50 = some (.iload_n 2, 1) := by decide +kernel
theorem dm_X12_isNaming_51 : mj_dec prog_14_method_91_code 51 = some (.ireturn, 1) := by decide +kernel
set_option maxRecDepth 20000 in
theorem pm_X12_isMarked : mj_mmof pg_ms 216 = some ((⟨"ArrayCalculatorModel", "isMarked", "(I)Z"⟩, prog_14_method_77_code, 2, (Option.some Jvm.ClassFile.FieldType.boolean)), 12, false, mj_dec prog_14_method_77_code) := rfl
theorem dm_X12_isMarked_0 : mj_dec prog_14_method_77_code 0 = some (.aload_n 0, 1) := by decide +kernel
theorem dm_X12_isMarked_1 : mj_dec prog_14_method_77_code 1 = some (.getfield 380, 3) := by decide +kernel
theorem dm_X12_isMarked_4 : mj_dec prog_14_method_77_code 4 = some (.bipush 7, 2) := by decide +kernel
theorem dm_X12_isMarked_6 : mj_dec prog_14_method_77_code 6 = some (.if_icmp .ne 15, 3) := by decide +kernel
theorem dm_X12_isMarked_21 : mj_dec prog_14_method_77_code 21 = some (.iconst 0, 1) := by decide +kernel
theorem dm_X12_isMarked_22 : mj_dec prog_14_method_77_code 22 = some (.ireturn, 1) := by decide +kernel
set_option maxRecDepth 20000 in
theorem pm_X12_isAmending : mj_mmof pg_ms 217 = some ((⟨"ArrayCalculatorModel", "isAmending", "(I)Z"⟩, prog_14_method_90_code, 4, (Option.some Jvm.ClassFile.FieldType.boolean)), 12, false, mj_dec prog_14_method_90_code) := rfl
theorem dm_X12_isAmending_0 : mj_dec prog_14_method_90_code 0 = some (.aload_n 0, 1) := by decide +kernel
theorem dm_X12_isAmending_1 : mj_dec prog_14_method_90_code 1 = some (.getfield 380, 3) := by decide +kernel
theorem dm_X12_isAmending_4 : mj_dec prog_14_method_90_code 4 = some (.iconst 3, 1) := by decide +kernel
theorem dm_X12_isAmending_5 : mj_dec prog_14_method_90_code 5 = some (.if_icmp .eq 11, 3) := by decide +kernel
theorem dm_X12_isAmending_8 : mj_dec prog_14_method_90_code 8 = some (.aload_n 0, 1) := by decide +kernel
theorem dm_X12_isAmending_9 : mj_dec prog_14_method_90_code 9 = some (.getfield 380, 3) := by decide +kernel
theorem dm_X12_isAmending_12 : mj_dec prog_14_method_90_code 12 = some (.iconst 4, 1) := by decide +kernel
theorem dm_X12_isAmending_13 : mj_dec prog_14_method_90_code 13 = some (.if_icmp .ne 7, 3) := by decide +kernel
theorem dm_X12_isAmending_20 : mj_dec prog_14_method_90_code 20 = some (.iconst 0, 1) := by decide +kernel
theorem dm_X12_isAmending_21 : mj_dec prog_14_method_90_code 21 = some (.istore_n 2, 1) := by decide +kernel
theorem dm_X12_isAmending_22 : mj_dec prog_14_method_90_code 22 = some (.aload_n 0, 1) := by decide +kernel
theorem dm_X12_isAmending_23 : mj_dec prog_14_method_90_code 23 = some (.invokevirtual 437, 3) := by decide +kernel
theorem dm_X12_isAmending_26 : mj_dec prog_14_method_90_code 26 = some (.iload_n 2, 1) := by decide +kernel
theorem dm_X12_isAmending_27 : mj_dec prog_14_method_90_code 27 = some (.ifCond .eq 16, 3) := by decide +kernel
theorem dm_X12_isAmending_43 : mj_dec prog_14_method_90_code 43 = some (.iconst 0, 1) := by decide +kernel
theorem dm_X12_isAmending_44 : mj_dec prog_14_method_90_code 44 = some (.istore_n 2, 1) := by decide +kernel
theorem dm_X12_isAmending_45 : mj_dec prog_14_method_90_code 45 = some (.aload_n 0, 1) := by decide +kernel
theorem dm_X12_isAmending_46 : mj_dec prog_14_method_90_code 46 = some (.invokevirtual 437, 3) := by decide +kernel
theorem dm_X12_isAmending_49 : mj_dec prog_14_method_90_code 49 = some (.iload_n 2, 1) := by decide +kernel
theorem dm_X12_isAmending_50 : mj_dec prog_14_method_90_code 50 = some (.ifCond .eq 16, 3) := by decide +kernel
theorem dm_X12_isAmending_66 : mj_dec prog_14_method_90_code 66 = some (.iconst 0, 1) := by decide +kernel
theorem dm_X12_isAmending_67 : mj_dec prog_14_method_90_code 67 = some (.istore_n 2, 1) := by decide +kernel
theorem dm_X12_isAmending_68 : mj_dec prog_14_method_90_code 68 = some (.iload_n 2, 1) := by decide +kernel
theorem dm_X12_isAmending_69 : mj_dec prog_14_method_90_code 69 = some (.ifCond .eq 7, 3) := by decide +kernel
theorem dm_X12_isAmending_76 : mj_dec prog_14_method_90_code 76 = some (.iconst 0, 1) := by decide +kernel
theorem dm_X12_isAmending_77 : mj_dec prog_14_method_90_code 77 = some (.istore_n 3, 1) := by decide +kernel
theorem dm_X12_isAmending_78 : mj_dec prog_14_method_90_code 78 = some (.iload_n 3, 1) := by decide +kernel
theorem dm_X12_isAmending_79 : mj_dec prog_14_method_90_code 79 = some (.ifCond .le 94, 3) := by decide +kernel
theorem dm_X12_isAmending_173 : mj_dec prog_14_method_90_code 173 = some (.iload_n 2, 1) := by decide +kernel
theorem dm_X12_isAmending_174 : mj_dec prog_14_method_90_code 174 = some (.ifCond .eq 11, 3) := by decide +kernel
theorem dm_X12_isAmending_185 : mj_dec prog_14_method_90_code 185 = some (.iload_n 2, 1) := by decide +kernel
theorem dm_X12_isAmending_186 : mj_dec prog_14_method_90_code 186 = some (.ifCond .eq 20, 3) := by decide +kernel
theorem dm_X12_isAmending_206 : mj_dec prog_14_method_90_code 206 = some (.iconst 0, 1) := by decide +kernel
theorem dm_X12_isAmending_207 : mj_dec prog_14_method_90_code 207 = some (.istore_n 2, 1) := by decide +kernel
theorem dm_X12_isAmending_208 : mj_dec prog_14_method_90_code 208 = some (.aload_n 0, 1) := by decide +kernel
theorem dm_X12_isAmending_209 : mj_dec prog_14_method_90_code 209 = some (.iload_n 1, 1) := by decide +kernel
theorem dm_X12_isAmending_210 : mj_dec prog_14_method_90_code 210 = some (.invokevirtual 475, 3) := by decide +kernel
theorem dm_X12_isAmending_213 : mj_dec prog_14_method_90_code 213 = some (.iload_n 2, 1) := by decide +kernel
theorem dm_X12_isAmending_214 : mj_dec prog_14_method_90_code 214 = some (.ireturn, 1) := by decide +kernel
set_option maxRecDepth 20000 in
theorem pm_X12_wrong : mj_mmof pg_ms 219 = some ((⟨"ArrayCalculatorModel", "wrong", "()I"⟩, prog_14_method_80_code, 1, (Option.some Jvm.ClassFile.FieldType.int)), 12, false, mj_dec prog_14_method_80_code) := rfl
theorem dm_X12_wrong_0 : mj_dec prog_14_method_80_code 0 = some (.aload_n 0, 1) := by decide +kernel
theorem dm_X12_wrong_1 : mj_dec prog_14_method_80_code 1 = some (.getfield 427, 3) := by decide +kernel
theorem dm_X12_wrong_4 : mj_dec prog_14_method_80_code 4 = some (.ifCond .ge 11, 3) := by decide +kernel
theorem dm_X12_wrong_7 : mj_dec prog_14_method_80_code 7 = some (.aload_n 0, 1) := by decide +kernel
theorem dm_X12_wrong_8 : mj_dec prog_14_method_80_code 8 = some (.aload_n 0, 1) := by decide +kernel
theorem dm_X12_wrong_9 : mj_dec prog_14_method_80_code 9 = some (.getfield 386, 3) := by decide +kernel
theorem dm_X12_wrong_12 : mj_dec prog_14_method_80_code 12 = some (.putfield 427, 3) := by decide +kernel
theorem dm_X12_wrong_15 : mj_dec prog_14_method_80_code 15 = some (.iconst (-1), 1) := by decide +kernel
theorem dm_X12_wrong_16 : mj_dec prog_14_method_80_code 16 = some (.ireturn, 1) := by decide +kernel
set_option maxRecDepth 20000 in
theorem pm_X12_expression : mj_mmof pg_ms 221 = some ((⟨"ArrayCalculatorModel", "expression", "()I"⟩, prog_14_method_84_code, 5, (Option.some Jvm.ClassFile.FieldType.int)), 12, false, mj_dec prog_14_method_84_code) := rfl
theorem dm_X12_expression_0 : mj_dec prog_14_method_84_code 0 = some (.iconst (-1), 1) := by decide +kernel
theorem dm_X12_expression_1 : mj_dec prog_14_method_84_code 1 = some (.istore_n 1, 1) := by decide +kernel
theorem dm_X12_expression_2 : mj_dec prog_14_method_84_code 2 = some (.aload_n 0, 1) := by decide +kernel
theorem dm_X12_expression_3 : mj_dec prog_14_method_84_code 3 = some (.getfield 427, 3) := by decide +kernel
theorem dm_X12_expression_6 : mj_dec prog_14_method_84_code 6 = some (.ifCond .ge 210, 3) := by decide +kernel
theorem dm_X12_expression_9 : mj_dec prog_14_method_84_code 9 = some (.iconst (-1), 1) := by decide +kernel
theorem dm_X12_expression_10 : mj_dec prog_14_method_84_code 10 = some (.istore_n 2, 1) := by decide +kernel
theorem dm_X12_expression_11 : mj_dec prog_14_method_84_code 11 = some (.aload_n 0, 1) := by decide +kernel
theorem dm_X12_expression_12 : mj_dec prog_14_method_84_code 12 = some (.invokevirtual 443, 3) := by decide +kernel
theorem dm_X12_expression_15 : mj_dec prog_14_method_84_code 15 = some (.ifCond .eq 43, 3) := by decide +kernel
theorem dm_X12_expression_58 : mj_dec prog_14_method_84_code 58 = some (.aload_n 0, 1) := by decide +kernel
theorem dm_X12_expression_59 : mj_dec prog_14_method_84_code 59 = some (.getfield 380, 3) := by decide +kernel
theorem dm_X12_expression_62 : mj_dec prog_14_method_84_code 62 = some (.iconst 5, 1) := by decide +kernel
theorem dm_X12_expression_63 : mj_dec prog_14_method_84_code 63 = some (.if_icmp .eq 16, 3) := by decide +kernel
theorem dm_X12_expression_66 : mj_dec prog_14_method_84_code 66 = some (.aload_n 0, 1) := by decide +kernel
theorem dm_X12_expression_67 : mj_dec prog_14_method_84_code 67 = some (.getfield 380, 3) := by decide +kernel
theorem dm_X12_expression_70 : mj_dec prog_14_method_84_code 70 = some (.iconst 4, 1) := by decide +kernel
theorem dm_X12_expression_71 : mj_dec prog_14_method_84_code 71 = some (.if_icmp .eq 8, 3) := by decide +kernel
theorem dm_X12_expression_74 : mj_dec prog_14_method_84_code 74 = some (.aload_n 0, 1) := by decide +kernel
theorem dm_X12_expression_75 : mj_dec prog_14_method_84_code 75 = some (.invokevirtual 433, 3) := by decide +kernel
theorem dm_X12_expression_78 : mj_dec prog_14_method_84_code 78 = some (.ireturn, 1) := by decide +kernel
set_option maxRecDepth 20000 in
theorem pm_X12_isNoun : mj_mmof pg_ms 222 = some ((⟨"ArrayCalculatorModel", "isNoun", "()Z"⟩, prog_14_method_83_code, 1, (Option.some Jvm.ClassFile.FieldType.boolean)), 12, false, mj_dec prog_14_method_83_code) := rfl
theorem dm_X12_isNoun_0 : mj_dec prog_14_method_83_code 0 = some (.aload_n 0, 1) := by decide +kernel
theorem dm_X12_isNoun_1 : mj_dec prog_14_method_83_code 1 = some (.getfield 380, 3) := by decide +kernel
theorem dm_X12_isNoun_4 : mj_dec prog_14_method_83_code 4 = some (.iconst 1, 1) := by decide +kernel
theorem dm_X12_isNoun_5 : mj_dec prog_14_method_83_code 5 = some (.if_icmp .eq 37, 3) := by decide +kernel
theorem dm_X12_isNoun_8 : mj_dec prog_14_method_83_code 8 = some (.aload_n 0, 1) := by decide +kernel
theorem dm_X12_isNoun_9 : mj_dec prog_14_method_83_code 9 = some (.getfield 380, 3) := by decide +kernel
theorem dm_X12_isNoun_12 : mj_dec prog_14_method_83_code 12 = some (.iconst 2, 1) := by decide +kernel
theorem dm_X12_isNoun_13 : mj_dec prog_14_method_83_code 13 = some (.if_icmp .eq 29, 3) := by decide +kernel
theorem dm_X12_isNoun_16 : mj_dec prog_14_method_83_code 16 = some (.aload_n 0, 1) := by decide +kernel
theorem dm_X12_isNoun_17 : mj_dec prog_14_method_83_code 17 = some (.getfield 380, 3) := by decide +kernel
theorem dm_X12_isNoun_20 : mj_dec prog_14_method_83_code 20 = some (.iconst 3, 1) := by decide +kernel
theorem dm_X12_isNoun_21 : mj_dec prog_14_method_83_code 21 = some (.if_icmp .eq 21, 3) := by decide +kernel
theorem dm_X12_isNoun_24 : mj_dec prog_14_method_83_code 24 = some (.aload_n 0, 1) := by decide +kernel
theorem dm_X12_isNoun_25 : mj_dec prog_14_method_83_code 25 = some (.bipush 40, 2) := by decide +kernel
theorem dm_X12_isNoun_27 : mj_dec prog_14_method_83_code 27 = some (.invokevirtual 440, 3) := by decide +kernel
theorem dm_X12_isNoun_30 : mj_dec prog_14_method_83_code 30 = some (.ifCond .ne 12, 3) := by decide +kernel
theorem dm_X12_isNoun_33 : mj_dec prog_14_method_83_code 33 = some (.aload_n 0, 1) := by decide +kernel
theorem dm_X12_isNoun_34 : mj_dec prog_14_method_83_code 34 = some (.bipush 91, 2) := by decide +kernel
theorem dm_X12_isNoun_36 : mj_dec prog_14_method_83_code 36 = some (.invokevirtual 440, 3) := by decide +kernel
theorem dm_X12_isNoun_39 : mj_dec prog_14_method_83_code 39 = some (.ifCond .eq 7, 3) := by decide +kernel
theorem dm_X12_isNoun_46 : mj_dec prog_14_method_83_code 46 = some (.iconst 0, 1) := by decide +kernel
theorem dm_X12_isNoun_47 : mj_dec prog_14_method_83_code 47 = some (.ireturn, 1) := by decide +kernel
set_option maxRecDepth 20000 in
theorem pm_X12_fail : mj_mmof pg_ms 233 = some ((⟨"ArrayCalculatorModel", "fail", "(II)I"⟩, prog_14_method_24_code, 3, (Option.some Jvm.ClassFile.FieldType.int)), 12, false, mj_dec prog_14_method_24_code) := rfl
theorem dm_X12_fail_0 : mj_dec prog_14_method_24_code 0 = some (.aload_n 0, 1) := by decide +kernel
theorem dm_X12_fail_1 : mj_dec prog_14_method_24_code 1 = some (.getfield 181, 3) := by decide +kernel
theorem dm_X12_fail_4 : mj_dec prog_14_method_24_code 4 = some (.ifCond .ne 27, 3) := by decide +kernel
theorem dm_X12_fail_7 : mj_dec prog_14_method_24_code 7 = some (.aload_n 0, 1) := by decide +kernel
theorem dm_X12_fail_8 : mj_dec prog_14_method_24_code 8 = some (.iload_n 1, 1) := by decide +kernel
theorem dm_X12_fail_9 : mj_dec prog_14_method_24_code 9 = some (.putfield 181, 3) := by decide +kernel
theorem dm_X12_fail_12 : mj_dec prog_14_method_24_code 12 = some (.aload_n 0, 1) := by decide +kernel
theorem dm_X12_fail_13 : mj_dec prog_14_method_24_code 13 = some (.aload_n 0, 1) := by decide +kernel
theorem dm_X12_fail_14 : mj_dec prog_14_method_24_code 14 = some (.getfield 184, 3) := by decide +kernel
theorem dm_X12_fail_17 : mj_dec prog_14_method_24_code 17 = some (.ifCond .le 10, 3) := by decide +kernel
theorem dm_X12_fail_27 : mj_dec prog_14_method_24_code 27 = some (.iload_n 2, 1) := by decide +kernel
theorem dm_X12_fail_28 : mj_dec prog_14_method_24_code 28 = some (.putfield 22, 3) := by decide +kernel
theorem dm_X12_fail_31 : mj_dec prog_14_method_24_code 31 = some (.iconst (-1), 1) := by decide +kernel
theorem dm_X12_fail_32 : mj_dec prog_14_method_24_code 32 = some (.ireturn, 1) := by decide +kernel
set_option maxRecDepth 20000 in
theorem pm_X11_told : mj_mmof pg_ms 181 = some ((⟨"ArrayCalculator", "told", "(I)I"⟩, prog_1_method_8_code, 2, (Option.some Jvm.ClassFile.FieldType.int)), 11, false, mj_dec prog_1_method_8_code) := rfl
theorem dm_X11_told_0 : mj_dec prog_1_method_8_code 0 = some (.iload_n 1, 1) := by decide +kernel
theorem dm_X11_told_1 : mj_dec prog_1_method_8_code 1 = some (.tableswitch 54 0 3 #[31, 36, 41, 46], 31) := by decide +kernel
theorem dm_X11_told_55 : mj_dec prog_1_method_8_code 55 = some (.iconst (-1), 1) := by decide +kernel
theorem dm_X11_told_56 : mj_dec prog_1_method_8_code 56 = some (.ireturn, 1) := by decide +kernel
theorem dm_X11_told_32 : mj_dec prog_1_method_8_code 32 = some (.aload_n 0, 1) := by decide +kernel
theorem dm_X11_told_33 : mj_dec prog_1_method_8_code 33 = some (.getfield 134, 3) := by decide +kernel
theorem dm_X11_told_36 : mj_dec prog_1_method_8_code 36 = some (.ireturn, 1) := by decide +kernel
theorem dm_X11_told_37 : mj_dec prog_1_method_8_code 37 = some (.aload_n 0, 1) := by decide +kernel
theorem dm_X11_told_38 : mj_dec prog_1_method_8_code 38 = some (.getfield 73, 3) := by decide +kernel
theorem dm_X11_told_41 : mj_dec prog_1_method_8_code 41 = some (.ireturn, 1) := by decide +kernel
theorem dm_X11_told_42 : mj_dec prog_1_method_8_code 42 = some (.aload_n 0, 1) := by decide +kernel
theorem dm_X11_told_43 : mj_dec prog_1_method_8_code 43 = some (.getfield 131, 3) := by decide +kernel
theorem dm_X11_told_46 : mj_dec prog_1_method_8_code 46 = some (.ireturn, 1) := by decide +kernel
theorem dm_X11_told_47 : mj_dec prog_1_method_8_code 47 = some (.aload_n 0, 1) := by decide +kernel
theorem dm_X11_told_48 : mj_dec prog_1_method_8_code 48 = some (.getfield 47, 3) := by decide +kernel
theorem dm_X11_told_51 : mj_dec prog_1_method_8_code 51 = some (.invokevirtual 83, 3) := by decide +kernel
theorem dm_X11_told_54 : mj_dec prog_1_method_8_code 54 = some (.ireturn, 1) := by decide +kernel
set_option maxRecDepth 20000 in
theorem pm_X12_told : mj_mmof pg_ms 305 = some ((⟨"ArrayCalculatorModel", "told", "(I)I"⟩, prog_14_method_112_code, 2, (Option.some Jvm.ClassFile.FieldType.int)), 12, false, mj_dec prog_14_method_112_code) := rfl
theorem dm_X12_told_0 : mj_dec prog_14_method_112_code 0 = some (.iload_n 1, 1) := by decide +kernel
theorem dm_X12_told_1 : mj_dec prog_14_method_112_code 1 = some (.tableswitch 51 0 3 #[31, 36, 41, 46], 31) := by decide +kernel
theorem dm_X12_told_52 : mj_dec prog_14_method_112_code 52 = some (.iconst (-1), 1) := by decide +kernel
theorem dm_X12_told_53 : mj_dec prog_14_method_112_code 53 = some (.ireturn, 1) := by decide +kernel
theorem dm_X12_told_32 : mj_dec prog_14_method_112_code 32 = some (.aload_n 0, 1) := by decide +kernel
theorem dm_X12_told_33 : mj_dec prog_14_method_112_code 33 = some (.getfield 181, 3) := by decide +kernel
theorem dm_X12_told_36 : mj_dec prog_14_method_112_code 36 = some (.ireturn, 1) := by decide +kernel
theorem dm_X12_told_37 : mj_dec prog_14_method_112_code 37 = some (.aload_n 0, 1) := by decide +kernel
theorem dm_X12_told_38 : mj_dec prog_14_method_112_code 38 = some (.getfield 22, 3) := by decide +kernel
theorem dm_X12_told_41 : mj_dec prog_14_method_112_code 41 = some (.ireturn, 1) := by decide +kernel
theorem dm_X12_told_42 : mj_dec prog_14_method_112_code 42 = some (.aload_n 0, 1) := by decide +kernel
theorem dm_X12_told_43 : mj_dec prog_14_method_112_code 43 = some (.getfield 193, 3) := by decide +kernel
theorem dm_X12_told_46 : mj_dec prog_14_method_112_code 46 = some (.ireturn, 1) := by decide +kernel
theorem dm_X12_told_47 : mj_dec prog_14_method_112_code 47 = some (.aload_n 0, 1) := by decide +kernel
theorem dm_X12_told_48 : mj_dec prog_14_method_112_code 48 = some (.getfield 27, 3) := by decide +kernel
theorem dm_X12_told_51 : mj_dec prog_14_method_112_code 51 = some (.ireturn, 1) := by decide +kernel
set_option maxRecDepth 20000 in
theorem pm_X11_point : mj_mmof pg_ms 182 = some ((⟨"ArrayCalculator", "point", "(II)Z"⟩, prog_1_method_9_code, 4, (Option.some Jvm.ClassFile.FieldType.boolean)), 11, false, mj_dec prog_1_method_9_code) := rfl
theorem dm_X11_point_0 : mj_dec prog_1_method_9_code 0 = some (.aconst_null, 1) := by decide +kernel
theorem dm_X11_point_1 : mj_dec prog_1_method_9_code 1 = some (.astore_n 3, 1) := by decide +kernel
theorem dm_X11_point_2 : mj_dec prog_1_method_9_code 2 = some (.iload_n 1, 1) := by decide +kernel
theorem dm_X11_point_3 : mj_dec prog_1_method_9_code 3 = some (.ifCond .ne 11, 3) := by decide +kernel
theorem dm_X11_point_14 : mj_dec prog_1_method_9_code 14 = some (.iload_n 1, 1) := by decide +kernel
theorem dm_X11_point_15 : mj_dec prog_1_method_9_code 15 = some (.iconst 1, 1) := by decide +kernel
theorem dm_X11_point_16 : mj_dec prog_1_method_9_code 16 = some (.if_icmp .ne 15, 3) := by decide +kernel
theorem dm_X11_point_31 : mj_dec prog_1_method_9_code 31 = some (.iload_n 1, 1) := by decide +kernel
theorem dm_X11_point_32 : mj_dec prog_1_method_9_code 32 = some (.iconst 2, 1) := by decide +kernel
theorem dm_X11_point_33 : mj_dec prog_1_method_9_code 33 = some (.if_icmp .ne 51, 3) := by decide +kernel
theorem dm_X11_point_84 : mj_dec prog_1_method_9_code 84 = some (.aload_n 3, 1) := by decide +kernel
theorem dm_X11_point_85 : mj_dec prog_1_method_9_code 85 = some (.ifnonnull 5, 3) := by decide +kernel
theorem dm_X11_point_88 : mj_dec prog_1_method_9_code 88 = some (.iconst 0, 1) := by decide +kernel
theorem dm_X11_point_89 : mj_dec prog_1_method_9_code 89 = some (.ireturn, 1) := by decide +kernel
theorem dm_X11_point_6 : mj_dec prog_1_method_9_code 6 = some (.aload_n 0, 1) := by decide +kernel
theorem dm_X11_point_7 : mj_dec prog_1_method_9_code 7 = some (.getfield 66, 3) := by decide +kernel
theorem dm_X11_point_10 : mj_dec prog_1_method_9_code 10 = some (.astore_n 3, 1) := by decide +kernel
theorem dm_X11_point_11 : mj_dec prog_1_method_9_code 11 = some (.goto 73, 3) := by decide +kernel
theorem dm_X11_point_90 : mj_dec prog_1_method_9_code 90 = some (.aload_n 0, 1) := by decide +kernel
theorem dm_X11_point_91 : mj_dec prog_1_method_9_code 91 = some (.aload_n 3, 1) := by decide +kernel
theorem dm_X11_point_92 : mj_dec prog_1_method_9_code 92 = some (.putfield 70, 3) := by decide +kernel
theorem dm_X11_point_95 : mj_dec prog_1_method_9_code 95 = some (.iconst 1, 1) := by decide +kernel
theorem dm_X11_point_96 : mj_dec prog_1_method_9_code 96 = some (.ireturn, 1) := by decide +kernel
set_option maxRecDepth 20000 in
theorem pm_X2_valueAt : mj_mmof pg_ms 66 = some ((⟨"ArrayCalculator$Names", "valueAt", "(I)LArrayCalculator$Value;"⟩, prog_4_method_4_code, 2, (Option.some (Jvm.ClassFile.FieldType.object "ArrayCalculator$Value"))), 2, false, mj_dec prog_4_method_4_code) := rfl
theorem dm_X2_valueAt_0 : mj_dec prog_4_method_4_code 0 = some (.iload_n 1, 1) := by decide +kernel
theorem dm_X2_valueAt_1 : mj_dec prog_4_method_4_code 1 = some (.ifCond .lt 20, 3) := by decide +kernel
theorem dm_X2_valueAt_21 : mj_dec prog_4_method_4_code 21 = some (.aconst_null, 1) := by decide +kernel
theorem dm_X2_valueAt_22 : mj_dec prog_4_method_4_code 22 = some (.areturn, 1) := by decide +kernel
theorem dm_X11_point_19 : mj_dec prog_1_method_9_code 19 = some (.aload_n 0, 1) := by decide +kernel
theorem dm_X11_point_20 : mj_dec prog_1_method_9_code 20 = some (.getfield 16, 3) := by decide +kernel
theorem dm_X11_point_23 : mj_dec prog_1_method_9_code 23 = some (.iload_n 2, 1) := by decide +kernel
theorem dm_X11_point_24 : mj_dec prog_1_method_9_code 24 = some (.invokevirtual 154, 3) := by decide +kernel
theorem dm_X11_point_27 : mj_dec prog_1_method_9_code 27 = some (.astore_n 3, 1) := by decide +kernel
theorem dm_X11_point_28 : mj_dec prog_1_method_9_code 28 = some (.goto 56, 3) := by decide +kernel
theorem dm_X2_valueAt_4 : mj_dec prog_4_method_4_code 4 = some (.iload_n 1, 1) := by decide +kernel
theorem dm_X2_valueAt_5 : mj_dec prog_4_method_4_code 5 = some (.aload_n 0, 1) := by decide +kernel
theorem dm_X2_valueAt_6 : mj_dec prog_4_method_4_code 6 = some (.getfield 30, 3) := by decide +kernel
theorem dm_X2_valueAt_9 : mj_dec prog_4_method_4_code 9 = some (.if_icmp .ge 12, 3) := by decide +kernel
theorem dm_X11_point_36 : mj_dec prog_1_method_9_code 36 = some (.aload_n 0, 1) := by decide +kernel
theorem dm_X11_point_37 : mj_dec prog_1_method_9_code 37 = some (.getfield 70, 3) := by decide +kernel
theorem dm_X11_point_40 : mj_dec prog_1_method_9_code 40 = some (.getfield 158, 3) := by decide +kernel
theorem dm_X11_point_43 : mj_dec prog_1_method_9_code 43 = some (.bipush 7, 2) := by decide +kernel
theorem dm_X11_point_45 : mj_dec prog_1_method_9_code 45 = some (.if_icmp .eq 15, 3) := by decide +kernel
theorem dm_X11_point_48 : mj_dec prog_1_method_9_code 48 = some (.aload_n 0, 1) := by decide +kernel
theorem dm_X11_point_49 : mj_dec prog_1_method_9_code 49 = some (.getfield 70, 3) := by decide +kernel
theorem dm_X11_point_52 : mj_dec prog_1_method_9_code 52 = some (.getfield 158, 3) := by decide +kernel
theorem dm_X11_point_55 : mj_dec prog_1_method_9_code 55 = some (.bipush 6, 2) := by decide +kernel
theorem dm_X11_point_57 : mj_dec prog_1_method_9_code 57 = some (.if_icmp .ne 27, 3) := by decide +kernel
set_option maxRecDepth 20000 in
theorem pm_X12_point : mj_mmof pg_ms 306 = some ((⟨"ArrayCalculatorModel", "point", "(II)Z"⟩, prog_14_method_113_code, 3, (Option.some Jvm.ClassFile.FieldType.boolean)), 12, false, mj_dec prog_14_method_113_code) := rfl
theorem dm_X12_point_0 : mj_dec prog_14_method_113_code 0 = some (.iload_n 1, 1) := by decide +kernel
theorem dm_X12_point_1 : mj_dec prog_14_method_113_code 1 = some (.ifCond .ne 13, 3) := by decide +kernel
theorem dm_X12_point_14 : mj_dec prog_14_method_113_code 14 = some (.iload_n 1, 1) := by decide +kernel
theorem dm_X12_point_15 : mj_dec prog_14_method_113_code 15 = some (.iconst 1, 1) := by decide +kernel
theorem dm_X12_point_16 : mj_dec prog_14_method_113_code 16 = some (.if_icmp .ne 29, 3) := by decide +kernel
theorem dm_X12_point_45 : mj_dec prog_14_method_113_code 45 = some (.iload_n 1, 1) := by decide +kernel
theorem dm_X12_point_46 : mj_dec prog_14_method_113_code 46 = some (.iconst 2, 1) := by decide +kernel
theorem dm_X12_point_47 : mj_dec prog_14_method_113_code 47 = some (.if_icmp .ne 32, 3) := by decide +kernel
theorem dm_X12_point_79 : mj_dec prog_14_method_113_code 79 = some (.iconst 0, 1) := by decide +kernel
theorem dm_X12_point_80 : mj_dec prog_14_method_113_code 80 = some (.ireturn, 1) := by decide +kernel
theorem dm_X12_point_4 : mj_dec prog_14_method_113_code 4 = some (.aload_n 0, 1) := by decide +kernel
theorem dm_X12_point_5 : mj_dec prog_14_method_113_code 5 = some (.aload_n 0, 1) := by decide +kernel
theorem dm_X12_point_6 : mj_dec prog_14_method_113_code 6 = some (.getfield 109, 3) := by decide +kernel
theorem dm_X12_point_9 : mj_dec prog_14_method_113_code 9 = some (.putfield 112, 3) := by decide +kernel
theorem dm_X12_point_12 : mj_dec prog_14_method_113_code 12 = some (.iconst 1, 1) := by decide +kernel
theorem dm_X12_point_13 : mj_dec prog_14_method_113_code 13 = some (.ireturn, 1) := by decide +kernel
theorem dm_X12_point_19 : mj_dec prog_14_method_113_code 19 = some (.iload_n 2, 1) := by decide +kernel
theorem dm_X12_point_20 : mj_dec prog_14_method_113_code 20 = some (.ifCond .lt 11, 3) := by decide +kernel
theorem dm_X12_point_31 : mj_dec prog_14_method_113_code 31 = some (.iconst 0, 1) := by decide +kernel
theorem dm_X12_point_32 : mj_dec prog_14_method_113_code 32 = some (.ireturn, 1) := by decide +kernel
theorem dm_X12_point_23 : mj_dec prog_14_method_113_code 23 = some (.iload_n 2, 1) := by decide +kernel
theorem dm_X12_point_24 : mj_dec prog_14_method_113_code 24 = some (.aload_n 0, 1) := by decide +kernel
theorem dm_X12_point_25 : mj_dec prog_14_method_113_code 25 = some (.getfield 357, 3) := by decide +kernel
theorem dm_X12_point_28 : mj_dec prog_14_method_113_code 28 = some (.if_icmp .lt 5, 3) := by decide +kernel
set_option maxRecDepth 20000 in
theorem pm_X12_kindOf : mj_mmof pg_ms 245 = some ((⟨"ArrayCalculatorModel", "kindOf", "(I)I"⟩, prog_14_method_2_code, 2, (Option.some Jvm.ClassFile.FieldType.int)), 12, false, mj_dec prog_14_method_2_code) := rfl
theorem dm_X12_kindOf_0 : mj_dec prog_14_method_2_code 0 = some (.aload_n 0, 1) := by decide +kernel
theorem dm_X12_kindOf_1 : mj_dec prog_14_method_2_code 1 = some (.getfield 19, 3) := by decide +kernel
theorem dm_X12_kindOf_4 : mj_dec prog_14_method_2_code 4 = some (.iload_n 1, 1) := by decide +kernel
theorem dm_X12_kindOf_5 : mj_dec prog_14_method_2_code 5 = some (.iaload, 1) := by decide +kernel
theorem dm_X12_kindOf_6 : mj_dec prog_14_method_2_code 6 = some (.bipush 7, 2) := by decide +kernel
theorem dm_X12_kindOf_8 : mj_dec prog_14_method_2_code 8 = some (.iand, 1) := by decide +kernel
theorem dm_X12_kindOf_9 : mj_dec prog_14_method_2_code 9 = some (.ireturn, 1) := by decide +kernel
theorem dm_X12_point_50 : mj_dec prog_14_method_113_code 50 = some (.aload_n 0, 1) := by decide +kernel
theorem dm_X12_point_51 : mj_dec prog_14_method_113_code 51 = some (.aload_n 0, 1) := by decide +kernel
theorem dm_X12_point_52 : mj_dec prog_14_method_113_code 52 = some (.getfield 112, 3) := by decide +kernel
theorem dm_X12_point_55 : mj_dec prog_14_method_113_code 55 = some (.invokevirtual 146, 3) := by decide +kernel
theorem dm_X12_point_58 : mj_dec prog_14_method_113_code 58 = some (.bipush 6, 2) := by decide +kernel
theorem dm_X12_point_60 : mj_dec prog_14_method_113_code 60 = some (.if_icmp .lt 19, 3) := by decide +kernel
set_option maxRecDepth 20000 in
theorem pm_X11_kind : mj_mmof pg_ms 183 = some ((⟨"ArrayCalculator", "kind", "()I"⟩, prog_1_method_10_code, 1, (Option.some Jvm.ClassFile.FieldType.int)), 11, false, mj_dec prog_1_method_10_code) := rfl
theorem dm_X11_kind_0 : mj_dec prog_1_method_10_code 0 = some (.aload_n 0, 1) := by decide +kernel
theorem dm_X11_kind_1 : mj_dec prog_1_method_10_code 1 = some (.getfield 70, 3) := by decide +kernel
theorem dm_X11_kind_4 : mj_dec prog_1_method_10_code 4 = some (.getfield 158, 3) := by decide +kernel
theorem dm_X11_kind_7 : mj_dec prog_1_method_10_code 7 = some (.ireturn, 1) := by decide +kernel
set_option maxRecDepth 20000 in
theorem pm_X12_kind : mj_mmof pg_ms 307 = some ((⟨"ArrayCalculatorModel", "kind", "()I"⟩, prog_14_method_114_code, 1, (Option.some Jvm.ClassFile.FieldType.int)), 12, false, mj_dec prog_14_method_114_code) := rfl
theorem dm_X12_kind_0 : mj_dec prog_14_method_114_code 0 = some (.aload_n 0, 1) := by decide +kernel
theorem dm_X12_kind_1 : mj_dec prog_14_method_114_code 1 = some (.aload_n 0, 1) := by decide +kernel
theorem dm_X12_kind_2 : mj_dec prog_14_method_114_code 2 = some (.getfield 112, 3) := by decide +kernel
theorem dm_X12_kind_5 : mj_dec prog_14_method_114_code 5 = some (.invokevirtual 146, 3) := by decide +kernel
theorem dm_X12_kind_8 : mj_dec prog_14_method_114_code 8 = some (.ireturn, 1) := by decide +kernel
set_option maxRecDepth 20000 in
theorem pm_X11_count : mj_mmof pg_ms 184 = some ((⟨"ArrayCalculator", "count", "(I)I"⟩, prog_1_method_11_code, 2, (Option.some Jvm.ClassFile.FieldType.int)), 11, false, mj_dec prog_1_method_11_code) := rfl
theorem dm_X11_count_0 : mj_dec prog_1_method_11_code 0 = some (.iload_n 1, 1) := by decide +kernel
theorem dm_X11_count_1 : mj_dec prog_1_method_11_code 1 = some (.ifCond .ne 11, 3) := by decide +kernel
theorem dm_X11_count_12 : mj_dec prog_1_method_11_code 12 = some (.iload_n 1, 1) := by decide +kernel
theorem dm_X11_count_13 : mj_dec prog_1_method_11_code 13 = some (.iconst 1, 1) := by decide +kernel
theorem dm_X11_count_14 : mj_dec prog_1_method_11_code 14 = some (.if_icmp .ne 23, 3) := by decide +kernel
theorem dm_X11_count_37 : mj_dec prog_1_method_11_code 37 = some (.iload_n 1, 1) := by decide +kernel
theorem dm_X11_count_38 : mj_dec prog_1_method_11_code 38 = some (.iconst 2, 1) := by decide +kernel
theorem dm_X11_count_39 : mj_dec prog_1_method_11_code 39 = some (.if_icmp .ne 13, 3) := by decide +kernel
theorem dm_X11_count_52 : mj_dec prog_1_method_11_code 52 = some (.iconst (-1), 1) := by decide +kernel
theorem dm_X11_count_53 : mj_dec prog_1_method_11_code 53 = some (.ireturn, 1) := by decide +kernel
theorem dm_X11_count_4 : mj_dec prog_1_method_11_code 4 = some (.aload_n 0, 1) := by decide +kernel
theorem dm_X11_count_5 : mj_dec prog_1_method_11_code 5 = some (.getfield 70, 3) := by decide +kernel
theorem dm_X11_count_8 : mj_dec prog_1_method_11_code 8 = some (.getfield 161, 3) := by decide +kernel
theorem dm_X11_count_11 : mj_dec prog_1_method_11_code 11 = some (.ireturn, 1) := by decide +kernel
theorem dm_X11_count_17 : mj_dec prog_1_method_11_code 17 = some (.aload_n 0, 1) := by decide +kernel
theorem dm_X11_count_18 : mj_dec prog_1_method_11_code 18 = some (.getfield 70, 3) := by decide +kernel
theorem dm_X11_count_21 : mj_dec prog_1_method_11_code 21 = some (.getfield 158, 3) := by decide +kernel
theorem dm_X11_count_24 : mj_dec prog_1_method_11_code 24 = some (.bipush 6, 2) := by decide +kernel
theorem dm_X11_count_26 : mj_dec prog_1_method_11_code 26 = some (.if_icmp .ne 11, 3) := by decide +kernel
theorem dm_X11_count_42 : mj_dec prog_1_method_11_code 42 = some (.aload_n 0, 1) := by decide +kernel
theorem dm_X11_count_43 : mj_dec prog_1_method_11_code 43 = some (.getfield 70, 3) := by decide +kernel
theorem dm_X11_count_46 : mj_dec prog_1_method_11_code 46 = some (.getfield 170, 3) := by decide +kernel
theorem dm_X11_count_49 : mj_dec prog_1_method_11_code 49 = some (.goto 4, 3) := by decide +kernel
set_option maxRecDepth 20000 in
theorem pm_X12_count : mj_mmof pg_ms 308 = some ((⟨"ArrayCalculatorModel", "count", "(I)I"⟩, prog_14_method_115_code, 2, (Option.some Jvm.ClassFile.FieldType.int)), 12, false, mj_dec prog_14_method_115_code) := rfl
theorem dm_X12_count_0 : mj_dec prog_14_method_115_code 0 = some (.iload_n 1, 1) := by decide +kernel
theorem dm_X12_count_1 : mj_dec prog_14_method_115_code 1 = some (.tableswitch 71 0 2 #[27, 36, 62], 27) := by decide +kernel
theorem dm_X12_count_72 : mj_dec prog_14_method_115_code 72 = some (.iconst (-1), 1) := by decide +kernel
theorem dm_X12_count_73 : mj_dec prog_14_method_115_code 73 = some (.ireturn, 1) := by decide +kernel
set_option maxRecDepth 20000 in
theorem pm_X12_many : mj_mmof pg_ms 225 = some ((⟨"ArrayCalculatorModel", "many", "(I)I"⟩, prog_14_method_3_code, 2, (Option.some Jvm.ClassFile.FieldType.int)), 12, false, mj_dec prog_14_method_3_code) := rfl
theorem dm_X12_many_0 : mj_dec prog_14_method_3_code 0 = some (.aload_n 0, 1) := by decide +kernel
theorem dm_X12_many_1 : mj_dec prog_14_method_3_code 1 = some (.getfield 19, 3) := by decide +kernel
theorem dm_X12_many_4 : mj_dec prog_14_method_3_code 4 = some (.iload_n 1, 1) := by decide +kernel
theorem dm_X12_many_5 : mj_dec prog_14_method_3_code 5 = some (.iaload, 1) := by decide +kernel
theorem dm_X12_many_6 : mj_dec prog_14_method_3_code 6 = some (.iconst 3, 1) := by decide +kernel
theorem dm_X12_many_7 : mj_dec prog_14_method_3_code 7 = some (.ishr, 1) := by decide +kernel
theorem dm_X12_many_8 : mj_dec prog_14_method_3_code 8 = some (.sipush 255, 3) := by decide +kernel
theorem dm_X12_many_11 : mj_dec prog_14_method_3_code 11 = some (.iand, 1) := by decide +kernel
theorem dm_X12_many_12 : mj_dec prog_14_method_3_code 12 = some (.ireturn, 1) := by decide +kernel
theorem dm_X12_count_28 : mj_dec prog_14_method_115_code 28 = some (.aload_n 0, 1) := by decide +kernel
theorem dm_X12_count_29 : mj_dec prog_14_method_115_code 29 = some (.aload_n 0, 1) := by decide +kernel
theorem dm_X12_count_30 : mj_dec prog_14_method_115_code 30 = some (.getfield 112, 3) := by decide +kernel
theorem dm_X12_count_33 : mj_dec prog_14_method_115_code 33 = some (.invokevirtual 134, 3) := by decide +kernel
theorem dm_X12_count_36 : mj_dec prog_14_method_115_code 36 = some (.ireturn, 1) := by decide +kernel
theorem dm_X12_count_37 : mj_dec prog_14_method_115_code 37 = some (.aload_n 0, 1) := by decide +kernel
theorem dm_X12_count_38 : mj_dec prog_14_method_115_code 38 = some (.aload_n 0, 1) := by decide +kernel
theorem dm_X12_count_39 : mj_dec prog_14_method_115_code 39 = some (.getfield 112, 3) := by decide +kernel
theorem dm_X12_count_42 : mj_dec prog_14_method_115_code 42 = some (.invokevirtual 146, 3) := by decide +kernel
theorem dm_X12_count_45 : mj_dec prog_14_method_115_code 45 = some (.bipush 6, 2) := by decide +kernel
theorem dm_X12_count_47 : mj_dec prog_14_method_115_code 47 = some (.if_icmp .ne 14, 3) := by decide +kernel
theorem dm_X12_count_61 : mj_dec prog_14_method_115_code 61 = some (.iconst (-1), 1) := by decide +kernel
theorem dm_X12_count_62 : mj_dec prog_14_method_115_code 62 = some (.ireturn, 1) := by decide +kernel
set_option maxRecDepth 20000 in
theorem pm_X12_isOne : mj_mmof pg_ms 248 = some ((⟨"ArrayCalculatorModel", "isOne", "(I)Z"⟩, prog_14_method_14_code, 2, (Option.some Jvm.ClassFile.FieldType.boolean)), 12, false, mj_dec prog_14_method_14_code) := rfl
theorem dm_X12_isOne_0 : mj_dec prog_14_method_14_code 0 = some (.aload_n 0, 1) := by decide +kernel
theorem dm_X12_isOne_1 : mj_dec prog_14_method_14_code 1 = some (.iload_n 1, 1) := by decide +kernel
theorem dm_X12_isOne_2 : mj_dec prog_14_method_14_code 2 = some (.invokevirtual 146, 3) := by decide +kernel
theorem dm_X12_isOne_5 : mj_dec prog_14_method_14_code 5 = some (.iconst 1, 1) := by decide +kernel
theorem dm_X12_isOne_6 : mj_dec prog_14_method_14_code 6 = some (.if_icmp .gt 7, 3) := by decide +kernel
theorem dm_X12_isOne_9 : mj_dec prog_14_method_14_code 9 = some (.iconst 1, 1) := by decide +kernel
theorem dm_X12_isOne_10 : mj_dec prog_14_method_14_code 10 = some (.goto 4, 3) := by decide +kernel
theorem dm_X12_isOne_14 : mj_dec prog_14_method_14_code 14 = some (.ireturn, 1) := by decide +kernel
set_option maxRecDepth 20000 in
theorem pm_X12_levelsOf : mj_mmof pg_ms 251 = some ((⟨"ArrayCalculatorModel", "levelsOf", "(I)I"⟩, prog_14_method_20_code, 4, (Option.some Jvm.ClassFile.FieldType.int)), 12, false, mj_dec prog_14_method_20_code) := rfl
theorem dm_X12_levelsOf_0 : mj_dec prog_14_method_20_code 0 = some (.aload_n 0, 1) := by decide +kernel
theorem dm_X12_levelsOf_1 : mj_dec prog_14_method_20_code 1 = some (.iload_n 1, 1) := by decide +kernel
theorem dm_X12_levelsOf_2 : mj_dec prog_14_method_20_code 2 = some (.invokevirtual 146, 3) := by decide +kernel
theorem dm_X12_levelsOf_5 : mj_dec prog_14_method_20_code 5 = some (.bipush 7, 2) := by decide +kernel
theorem dm_X12_levelsOf_7 : mj_dec prog_14_method_20_code 7 = some (.if_icmp .eq 31, 3) := by decide +kernel
theorem dm_X12_levelsOf_10 : mj_dec prog_14_method_20_code 10 = some (.aload_n 0, 1) := by decide +kernel
theorem dm_X12_levelsOf_11 : mj_dec prog_14_method_20_code 11 = some (.iload_n 1, 1) := by decide +kernel
theorem dm_X12_levelsOf_12 : mj_dec prog_14_method_20_code 12 = some (.invokevirtual 162, 3) := by decide +kernel
theorem dm_X12_levelsOf_15 : mj_dec prog_14_method_20_code 15 = some (.ifCond .eq 7, 3) := by decide +kernel
theorem dm_X12_levelsOf_18 : mj_dec prog_14_method_20_code 18 = some (.iconst 0, 1) := by decide +kernel
theorem dm_X12_levelsOf_19 : mj_dec prog_14_method_20_code 19 = some (.goto 18, 3) := by decide +kernel
theorem dm_X12_levelsOf_37 : mj_dec prog_14_method_20_code 37 = some (.ireturn, 1) := by decide +kernel
theorem dm_X12_count_63 : mj_dec prog_14_method_115_code 63 = some (.aload_n 0, 1) := by decide +kernel
theorem dm_X12_count_64 : mj_dec prog_14_method_115_code 64 = some (.aload_n 0, 1) := by decide +kernel
theorem dm_X12_count_65 : mj_dec prog_14_method_115_code 65 = some (.getfield 112, 3) := by decide +kernel
theorem dm_X12_count_68 : mj_dec prog_14_method_115_code 68 = some (.invokevirtual 168, 3) := by decide +kernel
theorem dm_X12_count_71 : mj_dec prog_14_method_115_code 71 = some (.ireturn, 1) := by decide +kernel
set_option maxRecDepth 20000 in
theorem pm_X10_isOne : mj_mmof pg_ms 75 = some ((⟨"ArrayCalculator$Value", "isOne", "()Z"⟩, prog_12_method_15_code, 1, (Option.some Jvm.ClassFile.FieldType.boolean)), 10, false, mj_dec prog_12_method_15_code) := rfl
theorem dm_X10_isOne_0 : mj_dec prog_12_method_15_code 0 = some (.aload_n 0, 1) := by decide +kernel
theorem dm_X10_isOne_1 : mj_dec prog_12_method_15_code 1 = some (.getfield 9, 3) := by decide +kernel
theorem dm_X10_isOne_4 : mj_dec prog_12_method_15_code 4 = some (.ifCond .eq 11, 3) := by decide +kernel
theorem dm_X10_isOne_15 : mj_dec prog_12_method_15_code 15 = some (.iconst 1, 1) := by decide +kernel
theorem dm_X10_isOne_16 : mj_dec prog_12_method_15_code 16 = some (.goto 4, 3) := by decide +kernel
theorem dm_X10_isOne_20 : mj_dec prog_12_method_15_code 20 = some (.ireturn, 1) := by decide +kernel
set_option maxRecDepth 20000 in
theorem pm_X11_item : mj_mmof pg_ms 185 = some ((⟨"ArrayCalculator", "item", "(I)J"⟩, prog_1_method_12_code, 2, (Option.some Jvm.ClassFile.FieldType.long)), 11, false, mj_dec prog_1_method_12_code) := rfl
theorem dm_X11_item_0 : mj_dec prog_1_method_12_code 0 = some (.aload_n 0, 1) := by decide +kernel
theorem dm_X11_item_1 : mj_dec prog_1_method_12_code 1 = some (.getfield 70, 3) := by decide +kernel
theorem dm_X11_item_4 : mj_dec prog_1_method_12_code 4 = some (.invokevirtual 173, 3) := by decide +kernel
theorem dm_X11_item_7 : mj_dec prog_1_method_12_code 7 = some (.ifCond .eq 19, 3) := by decide +kernel
theorem dm_X11_item_10 : mj_dec prog_1_method_12_code 10 = some (.iload_n 1, 1) := by decide +kernel
theorem dm_X11_item_11 : mj_dec prog_1_method_12_code 11 = some (.ifCond .ne 13, 3) := by decide +kernel
theorem dm_X11_item_24 : mj_dec prog_1_method_12_code 24 = some (.lconst 0, 1) := by decide +kernel
theorem dm_X11_item_25 : mj_dec prog_1_method_12_code 25 = some (.lreturn, 1) := by decide +kernel
theorem dm_X11_item_14 : mj_dec prog_1_method_12_code 14 = some (.aload_n 0, 1) := by decide +kernel
theorem dm_X11_item_15 : mj_dec prog_1_method_12_code 15 = some (.getfield 70, 3) := by decide +kernel
theorem dm_X11_item_18 : mj_dec prog_1_method_12_code 18 = some (.getfield 176, 3) := by decide +kernel
theorem dm_X11_item_21 : mj_dec prog_1_method_12_code 21 = some (.goto 4, 3) := by decide +kernel
set_option maxRecDepth 20000 in
theorem pm_X12_item : mj_mmof pg_ms 309 = some ((⟨"ArrayCalculatorModel", "item", "(I)J"⟩, prog_14_method_116_code, 4, (Option.some Jvm.ClassFile.FieldType.long)), 12, false, mj_dec prog_14_method_116_code) := rfl
theorem dm_X12_item_0 : mj_dec prog_14_method_116_code 0 = some (.aload_n 0, 1) := by decide +kernel
theorem dm_X12_item_1 : mj_dec prog_14_method_116_code 1 = some (.aload_n 0, 1) := by decide +kernel
theorem dm_X12_item_2 : mj_dec prog_14_method_116_code 2 = some (.getfield 112, 3) := by decide +kernel
theorem dm_X12_item_5 : mj_dec prog_14_method_116_code 5 = some (.invokevirtual 146, 3) := by decide +kernel
theorem dm_X12_item_8 : mj_dec prog_14_method_116_code 8 = some (.istore_n 2, 1) := by decide +kernel
theorem dm_X12_item_9 : mj_dec prog_14_method_116_code 9 = some (.iload_n 2, 1) := by decide +kernel
theorem dm_X12_item_10 : mj_dec prog_14_method_116_code 10 = some (.bipush 7, 2) := by decide +kernel
theorem dm_X12_item_12 : mj_dec prog_14_method_116_code 12 = some (.if_icmp .ne 7, 3) := by decide +kernel
theorem dm_X12_item_19 : mj_dec prog_14_method_116_code 19 = some (.iload_n 2, 1) := by decide +kernel
theorem dm_X12_item_20 : mj_dec prog_14_method_116_code 20 = some (.bipush 6, 2) := by decide +kernel
theorem dm_X12_item_22 : mj_dec prog_14_method_116_code 22 = some (.if_icmp .ne 23, 3) := by decide +kernel
theorem dm_X12_item_45 : mj_dec prog_14_method_116_code 45 = some (.aload_n 0, 1) := by decide +kernel
theorem dm_X12_item_46 : mj_dec prog_14_method_116_code 46 = some (.aload_n 0, 1) := by decide +kernel
theorem dm_X12_item_47 : mj_dec prog_14_method_116_code 47 = some (.getfield 112, 3) := by decide +kernel
theorem dm_X12_item_50 : mj_dec prog_14_method_116_code 50 = some (.invokevirtual 134, 3) := by decide +kernel
theorem dm_X12_item_53 : mj_dec prog_14_method_116_code 53 = some (.istore_n 3, 1) := by decide +kernel
theorem dm_X12_item_54 : mj_dec prog_14_method_116_code 54 = some (.iload_n 1, 1) := by decide +kernel
theorem dm_X12_item_55 : mj_dec prog_14_method_116_code 55 = some (.ifCond .lt 8, 3) := by decide +kernel
theorem dm_X12_item_63 : mj_dec prog_14_method_116_code 63 = some (.lconst 0, 1) := by decide +kernel
theorem dm_X12_item_64 : mj_dec prog_14_method_116_code 64 = some (.goto 12, 3) := by decide +kernel
theorem dm_X12_item_76 : mj_dec prog_14_method_116_code 76 = some (.lreturn, 1) := by decide +kernel
set_option maxRecDepth 20000 in
theorem pm_X12_number : mj_mmof pg_ms 226 = some ((⟨"ArrayCalculatorModel", "number", "(II)J"⟩, prog_14_method_5_code, 3, (Option.some Jvm.ClassFile.FieldType.long)), 12, false, mj_dec prog_14_method_5_code) := rfl
theorem dm_X12_number_0 : mj_dec prog_14_method_5_code 0 = some (.aload_n 0, 1) := by decide +kernel
theorem dm_X12_number_1 : mj_dec prog_14_method_5_code 1 = some (.getfield 8, 3) := by decide +kernel
theorem dm_X12_number_4 : mj_dec prog_14_method_5_code 4 = some (.aload_n 0, 1) := by decide +kernel
theorem dm_X12_number_5 : mj_dec prog_14_method_5_code 5 = some (.getfield 15, 3) := by decide +kernel
theorem dm_X12_number_8 : mj_dec prog_14_method_5_code 8 = some (.iload_n 1, 1) := by decide +kernel
theorem dm_X12_number_9 : mj_dec prog_14_method_5_code 9 = some (.iaload, 1) := by decide +kernel
theorem dm_X12_number_10 : mj_dec prog_14_method_5_code 10 = some (.iload_n 2, 1) := by decide +kernel
theorem dm_X12_number_11 : mj_dec prog_14_method_5_code 11 = some (.iadd, 1) := by decide +kernel
theorem dm_X12_number_12 : mj_dec prog_14_method_5_code 12 = some (.laload, 1) := by decide +kernel
theorem dm_X12_number_13 : mj_dec prog_14_method_5_code 13 = some (.lreturn, 1) := by decide +kernel
theorem dm_X12_item_58 : mj_dec prog_14_method_116_code 58 = some (.iload_n 1, 1) := by decide +kernel
theorem dm_X12_item_59 : mj_dec prog_14_method_116_code 59 = some (.iload_n 3, 1) := by decide +kernel
theorem dm_X12_item_60 : mj_dec prog_14_method_116_code 60 = some (.if_icmp .lt 7, 3) := by decide +kernel
theorem dm_X12_item_67 : mj_dec prog_14_method_116_code 67 = some (.aload_n 0, 1) := by decide +kernel
theorem dm_X12_item_68 : mj_dec prog_14_method_116_code 68 = some (.aload_n 0, 1) := by decide +kernel
theorem dm_X12_item_69 : mj_dec prog_14_method_116_code 69 = some (.getfield 112, 3) := by decide +kernel
theorem dm_X12_item_72 : mj_dec prog_14_method_116_code 72 = some (.iload_n 1, 1) := by decide +kernel
theorem dm_X12_item_73 : mj_dec prog_14_method_116_code 73 = some (.invokevirtual 138, 3) := by decide +kernel
set_option maxRecDepth 20000 in
theorem pm_X6_clear : mj_mmof pg_ms 134 = some ((⟨"ArrayCalculator$Printer", "clear", "()V"⟩, prog_8_method_2_code, 1, (Option.none : Option Jvm.ClassFile.FieldType)), 6, false, mj_dec prog_8_method_2_code) := rfl
theorem dm_X6_clear_0 : mj_dec prog_8_method_2_code 0 = some (.aload_n 0, 1) := by decide +kernel
theorem dm_X6_clear_1 : mj_dec prog_8_method_2_code 1 = some (.iconst 0, 1) := by decide +kernel
theorem dm_X6_clear_2 : mj_dec prog_8_method_2_code 2 = some (.putfield 18, 3) := by decide +kernel
theorem dm_X6_clear_5 : mj_dec prog_8_method_2_code 5 = some (.return_, 1) := by decide +kernel
set_option maxRecDepth 20000 in
theorem pm_X6_put : mj_mmof pg_ms 135 = some ((⟨"ArrayCalculator$Printer", "put", "(LArrayCalculator$Value;)V"⟩, prog_8_method_5_code, 3, (Option.none : Option Jvm.ClassFile.FieldType)), 6, false, mj_dec prog_8_method_5_code) := rfl
theorem dm_X6_put_0 : mj_dec prog_8_method_5_code 0 = some (.aload_n 1, 1) := by decide +kernel
theorem dm_X6_put_1 : mj_dec prog_8_method_5_code 1 = some (.getfield 22, 3) := by decide +kernel
theorem dm_X6_put_4 : mj_dec prog_8_method_5_code 4 = some (.tableswitch 198 0 7 #[48, 59, 67, 59, 81, 81, 128, 148], 48) := by decide +kernel
theorem dm_X6_put_52 : mj_dec prog_8_method_5_code 52 = some (.aload_n 0, 1) := by decide +kernel
theorem dm_X6_put_53 : mj_dec prog_8_method_5_code 53 = some (.aload_n 1, 1) := by decide +kernel
theorem dm_X6_put_54 : mj_dec prog_8_method_5_code 54 = some (.getfield 27, 3) := by decide +kernel
theorem dm_X6_put_57 : mj_dec prog_8_method_5_code 57 = some (.invokevirtual 31, 3) := by decide +kernel
theorem dm_X6_put_60 : mj_dec prog_8_method_5_code 60 = some (.goto 142, 3) := by decide +kernel
theorem dm_X6_put_202 : mj_dec prog_8_method_5_code 202 = some (.return_, 1) := by decide +kernel
set_option maxRecDepth 20000 in
theorem pm_X6_putNumber : mj_mmof pg_ms 136 = some ((⟨"ArrayCalculator$Printer", "putNumber", "(J)V"⟩, prog_8_method_7_code, 6, (Option.none : Option Jvm.ClassFile.FieldType)), 6, false, mj_dec prog_8_method_7_code) := rfl
theorem dm_X6_putNumber_0 : mj_dec prog_8_method_7_code 0 = some (.lload_n 1, 1) := by decide +kernel
theorem dm_X6_putNumber_1 : mj_dec prog_8_method_7_code 1 = some (.lconst 0, 1) := by decide +kernel
theorem dm_X6_putNumber_2 : mj_dec prog_8_method_7_code 2 = some (.lcmp, 1) := by decide +kernel
theorem dm_X6_putNumber_3 : mj_dec prog_8_method_7_code 3 = some (.ifCond .ge 7, 3) := by decide +kernel
theorem dm_X6_putNumber_10 : mj_dec prog_8_method_7_code 10 = some (.lload_n 1, 1) := by decide +kernel
theorem dm_X6_putNumber_11 : mj_dec prog_8_method_7_code 11 = some (.lneg, 1) := by decide +kernel
theorem dm_X6_putNumber_12 : mj_dec prog_8_method_7_code 12 = some (.lstore_n 3, 1) := by decide +kernel
theorem dm_X6_putNumber_13 : mj_dec prog_8_method_7_code 13 = some (.iconst 0, 1) := by decide +kernel
theorem dm_X6_putNumber_14 : mj_dec prog_8_method_7_code 14 = some (.istore 5, 2) := by decide +kernel
theorem dm_X6_putNumber_16 : mj_dec prog_8_method_7_code 16 = some (.aload_n 0, 1) := by decide +kernel
theorem dm_X6_putNumber_17 : mj_dec prog_8_method_7_code 17 = some (.getfield 11, 3) := by decide +kernel
theorem dm_X6_putNumber_20 : mj_dec prog_8_method_7_code 20 = some (.iload 5, 2) := by decide +kernel
theorem dm_X6_putNumber_22 : mj_dec prog_8_method_7_code 22 = some (.ldc2_w 56, 3) := by decide +kernel
theorem dm_X6_putNumber_25 : mj_dec prog_8_method_7_code 25 = some (.lload_n 3, 1) := by decide +kernel
theorem dm_X6_putNumber_26 : mj_dec prog_8_method_7_code 26 = some (.ldc2_w 58, 3) := by decide +kernel
theorem dm_X6_putNumber_29 : mj_dec prog_8_method_7_code 29 = some (.lrem, 1) := by decide +kernel
theorem dm_X6_putNumber_30 : mj_dec prog_8_method_7_code 30 = some (.lsub, 1) := by decide +kernel
theorem dm_X6_putNumber_31 : mj_dec prog_8_method_7_code 31 = some (.l2i, 1) := by decide +kernel
theorem dm_X6_putNumber_32 : mj_dec prog_8_method_7_code 32 = some (.i2b, 1) := by decide +kernel
theorem dm_X6_putNumber_33 : mj_dec prog_8_method_7_code 33 = some (.bastore, 1) := by decide +kernel
theorem dm_X6_putNumber_34 : mj_dec prog_8_method_7_code 34 = some (.iinc 5 1, 3) := by decide +kernel
theorem dm_X6_putNumber_37 : mj_dec prog_8_method_7_code 37 = some (.lload_n 3, 1) := by decide +kernel
theorem dm_X6_putNumber_38 : mj_dec prog_8_method_7_code 38 = some (.ldc2_w 58, 3) := by decide +kernel
theorem dm_X6_putNumber_41 : mj_dec prog_8_method_7_code 41 = some (.ldiv, 1) := by decide +kernel
theorem dm_X6_putNumber_42 : mj_dec prog_8_method_7_code 42 = some (.lstore_n 3, 1) := by decide +kernel
theorem dm_X6_putNumber_43 : mj_dec prog_8_method_7_code 43 = some (.lload_n 3, 1) := by decide +kernel
theorem dm_X6_putNumber_44 : mj_dec prog_8_method_7_code 44 = some (.lconst 0, 1) := by decide +kernel
theorem dm_X6_putNumber_45 : mj_dec prog_8_method_7_code 45 = some (.lcmp, 1) := by decide +kernel
theorem dm_X6_putNumber_46 : mj_dec prog_8_method_7_code 46 = some (.ifCond .eq 15, 3) := by decide +kernel
theorem dm_X6_putNumber_61 : mj_dec prog_8_method_7_code 61 = some (.lload_n 1, 1) := by decide +kernel
theorem dm_X6_putNumber_62 : mj_dec prog_8_method_7_code 62 = some (.lconst 0, 1) := by decide +kernel
theorem dm_X6_putNumber_63 : mj_dec prog_8_method_7_code 63 = some (.lcmp, 1) := by decide +kernel
theorem dm_X6_putNumber_64 : mj_dec prog_8_method_7_code 64 = some (.ifCond .ge 15, 3) := by decide +kernel
theorem dm_X6_putNumber_79 : mj_dec prog_8_method_7_code 79 = some (.iload 5, 2) := by decide +kernel
theorem dm_X6_putNumber_81 : mj_dec prog_8_method_7_code 81 = some (.ifCond .le 47, 3) := by decide +kernel
theorem dm_X6_putNumber_84 : mj_dec prog_8_method_7_code 84 = some (.aload_n 0, 1) := by decide +kernel
theorem dm_X6_putNumber_85 : mj_dec prog_8_method_7_code 85 = some (.getfield 18, 3) := by decide +kernel
theorem dm_X6_putNumber_88 : mj_dec prog_8_method_7_code 88 = some (.aload_n 0, 1) := by decide +kernel
theorem dm_X6_putNumber_89 : mj_dec prog_8_method_7_code 89 = some (.getfield 15, 3) := by decide +kernel
theorem dm_X6_putNumber_92 : mj_dec prog_8_method_7_code 92 = some (.arraylength, 1) := by decide +kernel
theorem dm_X6_putNumber_93 : mj_dec prog_8_method_7_code 93 = some (.if_icmp .ge 35, 3) := by decide +kernel
theorem dm_X6_putNumber_96 : mj_dec prog_8_method_7_code 96 = some (.iinc 5 (-1), 3) := by decide +kernel
theorem dm_X6_putNumber_99 : mj_dec prog_8_method_7_code 99 = some (.aload_n 0, 1) := by decide +kernel
theorem dm_X6_putNumber_100 : mj_dec prog_8_method_7_code 100 = some (.getfield 15, 3) := by decide +kernel
theorem dm_X6_putNumber_103 : mj_dec prog_8_method_7_code 103 = some (.aload_n 0, 1) := by decide +kernel
theorem dm_X6_putNumber_104 : mj_dec prog_8_method_7_code 104 = some (.getfield 18, 3) := by decide +kernel
theorem dm_X6_putNumber_107 : mj_dec prog_8_method_7_code 107 = some (.aload_n 0, 1) := by decide +kernel
theorem dm_X6_putNumber_108 : mj_dec prog_8_method_7_code 108 = some (.getfield 11, 3) := by decide +kernel
theorem dm_X6_putNumber_111 : mj_dec prog_8_method_7_code 111 = some (.iload 5, 2) := by decide +kernel
theorem dm_X6_putNumber_113 : mj_dec prog_8_method_7_code 113 = some (.baload, 1) := by decide +kernel
theorem dm_X6_putNumber_114 : mj_dec prog_8_method_7_code 114 = some (.bastore, 1) := by decide +kernel
theorem dm_X6_putNumber_115 : mj_dec prog_8_method_7_code 115 = some (.aload_n 0, 1) := by decide +kernel
theorem dm_X6_putNumber_116 : mj_dec prog_8_method_7_code 116 = some (.dup, 1) := by decide +kernel
theorem dm_X6_putNumber_117 : mj_dec prog_8_method_7_code 117 = some (.getfield 18, 3) := by decide +kernel
theorem dm_X6_putNumber_120 : mj_dec prog_8_method_7_code 120 = some (.iconst 1, 1) := by decide +kernel
theorem dm_X6_putNumber_121 : mj_dec prog_8_method_7_code 121 = some (.iadd, 1) := by decide +kernel
theorem dm_X6_putNumber_122 : mj_dec prog_8_method_7_code 122 = some (.putfield 18, 3) := by decide +kernel
theorem dm_X6_putNumber_125 : mj_dec prog_8_method_7_code 125 = some (.goto (-46), 3) := by decide +kernel
theorem dm_X6_putNumber_128 : mj_dec prog_8_method_7_code 128 = some (.return_, 1) := by decide +kernel
set_option maxRecDepth 20000 in
theorem pm_X6_length : mj_mmof pg_ms 140 = some ((⟨"ArrayCalculator$Printer", "length", "()I"⟩, prog_8_method_3_code, 1, (Option.some Jvm.ClassFile.FieldType.int)), 6, false, mj_dec prog_8_method_3_code) := rfl
theorem dm_X6_length_0 : mj_dec prog_8_method_3_code 0 = some (.aload_n 0, 1) := by decide +kernel
theorem dm_X6_length_1 : mj_dec prog_8_method_3_code 1 = some (.getfield 18, 3) := by decide +kernel
theorem dm_X6_length_4 : mj_dec prog_8_method_3_code 4 = some (.ireturn, 1) := by decide +kernel
set_option maxRecDepth 20000 in
theorem pm_X11_print : mj_mmof pg_ms 186 = some ((⟨"ArrayCalculator", "print", "()I"⟩, prog_1_method_13_code, 1, (Option.some Jvm.ClassFile.FieldType.int)), 11, false, mj_dec prog_1_method_13_code) := rfl
theorem dm_X11_print_0 : mj_dec prog_1_method_13_code 0 = some (.aload_n 0, 1) := by decide +kernel
theorem dm_X11_print_1 : mj_dec prog_1_method_13_code 1 = some (.getfield 56, 3) := by decide +kernel
theorem dm_X11_print_4 : mj_dec prog_1_method_13_code 4 = some (.invokevirtual 184, 3) := by decide +kernel
theorem dm_X11_print_7 : mj_dec prog_1_method_13_code 7 = some (.aload_n 0, 1) := by decide +kernel
theorem dm_X11_print_8 : mj_dec prog_1_method_13_code 8 = some (.getfield 56, 3) := by decide +kernel
theorem dm_X11_print_11 : mj_dec prog_1_method_13_code 11 = some (.aload_n 0, 1) := by decide +kernel
theorem dm_X11_print_12 : mj_dec prog_1_method_13_code 12 = some (.getfield 70, 3) := by decide +kernel
theorem dm_X11_print_15 : mj_dec prog_1_method_13_code 15 = some (.invokevirtual 187, 3) := by decide +kernel
theorem dm_X11_print_18 : mj_dec prog_1_method_13_code 18 = some (.aload_n 0, 1) := by decide +kernel
theorem dm_X11_print_19 : mj_dec prog_1_method_13_code 19 = some (.getfield 56, 3) := by decide +kernel
theorem dm_X11_print_22 : mj_dec prog_1_method_13_code 22 = some (.invokevirtual 190, 3) := by decide +kernel
theorem dm_X11_print_25 : mj_dec prog_1_method_13_code 25 = some (.ireturn, 1) := by decide +kernel
set_option maxRecDepth 20000 in
theorem pm_X12_putValue : mj_mmof pg_ms 294 = some ((⟨"ArrayCalculatorModel", "putValue", "(I)V"⟩, prog_14_method_46_code, 5, (Option.none : Option Jvm.ClassFile.FieldType)), 12, false, mj_dec prog_14_method_46_code) := rfl
theorem dm_X12_putValue_0 : mj_dec prog_14_method_46_code 0 = some (.aload_n 0, 1) := by decide +kernel
theorem dm_X12_putValue_1 : mj_dec prog_14_method_46_code 1 = some (.iload_n 1, 1) := by decide +kernel
theorem dm_X12_putValue_2 : mj_dec prog_14_method_46_code 2 = some (.invokevirtual 146, 3) := by decide +kernel
theorem dm_X12_putValue_5 : mj_dec prog_14_method_46_code 5 = some (.istore_n 2, 1) := by decide +kernel
theorem dm_X12_putValue_6 : mj_dec prog_14_method_46_code 6 = some (.aload_n 0, 1) := by decide +kernel
theorem dm_X12_putValue_7 : mj_dec prog_14_method_46_code 7 = some (.iload_n 1, 1) := by decide +kernel
theorem dm_X12_putValue_8 : mj_dec prog_14_method_46_code 8 = some (.invokevirtual 134, 3) := by decide +kernel
theorem dm_X12_putValue_11 : mj_dec prog_14_method_46_code 11 = some (.istore_n 3, 1) := by decide +kernel
theorem dm_X12_putValue_12 : mj_dec prog_14_method_46_code 12 = some (.iload_n 2, 1) := by decide +kernel
theorem dm_X12_putValue_13 : mj_dec prog_14_method_46_code 13 = some (.tableswitch 316 0 7 #[47, 60, 165, 60, 316, 316, 205, 264], 47) := by decide +kernel
theorem dm_X12_putValue_60 : mj_dec prog_14_method_46_code 60 = some (.aload_n 0, 1) := by decide +kernel
theorem dm_X12_putValue_61 : mj_dec prog_14_method_46_code 61 = some (.aload_n 0, 1) := by decide +kernel
theorem dm_X12_putValue_62 : mj_dec prog_14_method_46_code 62 = some (.iload_n 1, 1) := by decide +kernel
theorem dm_X12_putValue_63 : mj_dec prog_14_method_46_code 63 = some (.iconst 0, 1) := by decide +kernel
theorem dm_X12_putValue_64 : mj_dec prog_14_method_46_code 64 = some (.invokevirtual 138, 3) := by decide +kernel
theorem dm_X12_putValue_67 : mj_dec prog_14_method_46_code 67 = some (.invokevirtual 289, 3) := by decide +kernel
theorem dm_X12_putValue_70 : mj_dec prog_14_method_46_code 70 = some (.goto 297, 3) := by decide +kernel
theorem dm_X12_putValue_367 : mj_dec prog_14_method_46_code 367 = some (.return_, 1) := by decide +kernel
set_option maxRecDepth 20000 in
theorem pm_X12_putNumber : mj_mmof pg_ms 295 = some ((⟨"ArrayCalculatorModel", "putNumber", "(J)V"⟩, prog_14_method_44_code, 7, (Option.none : Option Jvm.ClassFile.FieldType)), 12, false, mj_dec prog_14_method_44_code) := rfl
theorem dm_X12_putNumber_0 : mj_dec prog_14_method_44_code 0 = some (.lload_n 1, 1) := by decide +kernel
theorem dm_X12_putNumber_1 : mj_dec prog_14_method_44_code 1 = some (.lconst 0, 1) := by decide +kernel
theorem dm_X12_putNumber_2 : mj_dec prog_14_method_44_code 2 = some (.lcmp, 1) := by decide +kernel
theorem dm_X12_putNumber_3 : mj_dec prog_14_method_44_code 3 = some (.ifCond .ge 9, 3) := by decide +kernel
theorem dm_X12_putNumber_12 : mj_dec prog_14_method_44_code 12 = some (.lconst 1, 1) := by decide +kernel
theorem dm_X12_putNumber_13 : mj_dec prog_14_method_44_code 13 = some (.lstore_n 3, 1) := by decide +kernel
theorem dm_X12_putNumber_14 : mj_dec prog_14_method_44_code 14 = some (.lload_n 1, 1) := by decide +kernel
theorem dm_X12_putNumber_15 : mj_dec prog_14_method_44_code 15 = some (.lconst 0, 1) := by decide +kernel
theorem dm_X12_putNumber_16 : mj_dec prog_14_method_44_code 16 = some (.lcmp, 1) := by decide +kernel
theorem dm_X12_putNumber_17 : mj_dec prog_14_method_44_code 17 = some (.ifCond .ge 7, 3) := by decide +kernel
theorem dm_X12_putNumber_24 : mj_dec prog_14_method_44_code 24 = some (.lload_n 1, 1) := by decide +kernel
theorem dm_X12_putNumber_25 : mj_dec prog_14_method_44_code 25 = some (.lneg, 1) := by decide +kernel
theorem dm_X12_putNumber_26 : mj_dec prog_14_method_44_code 26 = some (.lstore 5, 2) := by decide +kernel
theorem dm_X12_putNumber_28 : mj_dec prog_14_method_44_code 28 = some (.lload 5, 2) := by decide +kernel
theorem dm_X12_putNumber_30 : mj_dec prog_14_method_44_code 30 = some (.lload_n 3, 1) := by decide +kernel
theorem dm_X12_putNumber_31 : mj_dec prog_14_method_44_code 31 = some (.ldiv, 1) := by decide +kernel
theorem dm_X12_putNumber_32 : mj_dec prog_14_method_44_code 32 = some (.ldc2_w 287, 3) := by decide +kernel
theorem dm_X12_putNumber_35 : mj_dec prog_14_method_44_code 35 = some (.lcmp, 1) := by decide +kernel
theorem dm_X12_putNumber_36 : mj_dec prog_14_method_44_code 36 = some (.ifCond .gt 12, 3) := by decide +kernel
theorem dm_X12_putNumber_48 : mj_dec prog_14_method_44_code 48 = some (.lload_n 3, 1) := by decide +kernel
theorem dm_X12_putNumber_49 : mj_dec prog_14_method_44_code 49 = some (.lconst 0, 1) := by decide +kernel
theorem dm_X12_putNumber_50 : mj_dec prog_14_method_44_code 50 = some (.lcmp, 1) := by decide +kernel
theorem dm_X12_putNumber_51 : mj_dec prog_14_method_44_code 51 = some (.ifCond .le 29, 3) := by decide +kernel
theorem dm_X12_putNumber_54 : mj_dec prog_14_method_44_code 54 = some (.aload_n 0, 1) := by decide +kernel
theorem dm_X12_putNumber_55 : mj_dec prog_14_method_44_code 55 = some (.ldc2_w 275, 3) := by decide +kernel
theorem dm_X12_putNumber_58 : mj_dec prog_14_method_44_code 58 = some (.lload 5, 2) := by decide +kernel
theorem dm_X12_putNumber_60 : mj_dec prog_14_method_44_code 60 = some (.lload_n 3, 1) := by decide +kernel
theorem dm_X12_putNumber_61 : mj_dec prog_14_method_44_code 61 = some (.ldiv, 1) := by decide +kernel
theorem dm_X12_putNumber_62 : mj_dec prog_14_method_44_code 62 = some (.ldc2_w 279, 3) := by decide +kernel
theorem dm_X12_putNumber_65 : mj_dec prog_14_method_44_code 65 = some (.lrem, 1) := by decide +kernel
theorem dm_X12_putNumber_66 : mj_dec prog_14_method_44_code 66 = some (.lsub, 1) := by decide +kernel
theorem dm_X12_putNumber_67 : mj_dec prog_14_method_44_code 67 = some (.l2i, 1) := by decide +kernel
theorem dm_X12_putNumber_68 : mj_dec prog_14_method_44_code 68 = some (.invokevirtual 284, 3) := by decide +kernel
theorem dm_X12_putNumber_71 : mj_dec prog_14_method_44_code 71 = some (.lload_n 3, 1) := by decide +kernel
theorem dm_X12_putNumber_72 : mj_dec prog_14_method_44_code 72 = some (.ldc2_w 279, 3) := by decide +kernel
theorem dm_X12_putNumber_75 : mj_dec prog_14_method_44_code 75 = some (.ldiv, 1) := by decide +kernel
theorem dm_X12_putNumber_76 : mj_dec prog_14_method_44_code 76 = some (.lstore_n 3, 1) := by decide +kernel
theorem dm_X12_putNumber_77 : mj_dec prog_14_method_44_code 77 = some (.goto (-29), 3) := by decide +kernel
theorem dm_X12_putNumber_80 : mj_dec prog_14_method_44_code 80 = some (.return_, 1) := by decide +kernel
set_option maxRecDepth 20000 in
theorem pm_X12_put : mj_mmof pg_ms 296 = some ((⟨"ArrayCalculatorModel", "put", "(I)V"⟩, prog_14_method_43_code, 2, (Option.none : Option Jvm.ClassFile.FieldType)), 12, false, mj_dec prog_14_method_43_code) := rfl
theorem dm_X12_put_0 : mj_dec prog_14_method_43_code 0 = some (.aload_n 0, 1) := by decide +kernel
theorem dm_X12_put_1 : mj_dec prog_14_method_43_code 1 = some (.getfield 281, 3) := by decide +kernel
theorem dm_X12_put_4 : mj_dec prog_14_method_43_code 4 = some (.sipush 400, 3) := by decide +kernel
theorem dm_X12_put_7 : mj_dec prog_14_method_43_code 7 = some (.if_icmp .ne 4, 3) := by decide +kernel
theorem dm_X12_put_11 : mj_dec prog_14_method_43_code 11 = some (.aload_n 0, 1) := by decide +kernel
theorem dm_X12_put_12 : mj_dec prog_14_method_43_code 12 = some (.getfield 36, 3) := by decide +kernel
theorem dm_X12_put_15 : mj_dec prog_14_method_43_code 15 = some (.aload_n 0, 1) := by decide +kernel
theorem dm_X12_put_16 : mj_dec prog_14_method_43_code 16 = some (.getfield 281, 3) := by decide +kernel
theorem dm_X12_put_19 : mj_dec prog_14_method_43_code 19 = some (.iload_n 1, 1) := by decide +kernel
theorem dm_X12_put_20 : mj_dec prog_14_method_43_code 20 = some (.i2b, 1) := by decide +kernel
theorem dm_X12_put_21 : mj_dec prog_14_method_43_code 21 = some (.bastore, 1) := by decide +kernel
theorem dm_X12_put_22 : mj_dec prog_14_method_43_code 22 = some (.aload_n 0, 1) := by decide +kernel
theorem dm_X12_put_23 : mj_dec prog_14_method_43_code 23 = some (.dup, 1) := by decide +kernel
theorem dm_X12_put_24 : mj_dec prog_14_method_43_code 24 = some (.getfield 281, 3) := by decide +kernel
theorem dm_X12_put_27 : mj_dec prog_14_method_43_code 27 = some (.iconst 1, 1) := by decide +kernel
theorem dm_X12_put_28 : mj_dec prog_14_method_43_code 28 = some (.iadd, 1) := by decide +kernel
theorem dm_X12_put_29 : mj_dec prog_14_method_43_code 29 = some (.putfield 281, 3) := by decide +kernel
theorem dm_X12_put_32 : mj_dec prog_14_method_43_code 32 = some (.return_, 1) := by decide +kernel
set_option maxRecDepth 20000 in
theorem pm_X12_print : mj_mmof pg_ms 310 = some ((⟨"ArrayCalculatorModel", "print", "()I"⟩, prog_14_method_117_code, 2, (Option.some Jvm.ClassFile.FieldType.int)), 12, false, mj_dec prog_14_method_117_code) := rfl
theorem dm_X12_print_0 : mj_dec prog_14_method_117_code 0 = some (.aload_n 0, 1) := by decide +kernel
theorem dm_X12_print_1 : mj_dec prog_14_method_117_code 1 = some (.iconst 0, 1) := by decide +kernel
theorem dm_X12_print_2 : mj_dec prog_14_method_117_code 2 = some (.putfield 281, 3) := by decide +kernel
theorem dm_X12_print_5 : mj_dec prog_14_method_117_code 5 = some (.aload_n 0, 1) := by decide +kernel
theorem dm_X12_print_6 : mj_dec prog_14_method_117_code 6 = some (.aload_n 0, 1) := by decide +kernel
theorem dm_X12_print_7 : mj_dec prog_14_method_117_code 7 = some (.getfield 112, 3) := by decide +kernel
theorem dm_X12_print_10 : mj_dec prog_14_method_117_code 10 = some (.invokevirtual 301, 3) := by decide +kernel
theorem dm_X12_print_13 : mj_dec prog_14_method_117_code 13 = some (.aload_n 0, 1) := by decide +kernel
theorem dm_X12_print_14 : mj_dec prog_14_method_117_code 14 = some (.aload_n 0, 1) := by decide +kernel
theorem dm_X12_print_15 : mj_dec prog_14_method_117_code 15 = some (.getfield 281, 3) := by decide +kernel
theorem dm_X12_print_18 : mj_dec prog_14_method_117_code 18 = some (.putfield 577, 3) := by decide +kernel
theorem dm_X12_print_21 : mj_dec prog_14_method_117_code 21 = some (.iconst 0, 1) := by decide +kernel
theorem dm_X12_print_22 : mj_dec prog_14_method_117_code 22 = some (.istore_n 1, 1) := by decide +kernel
theorem dm_X12_print_23 : mj_dec prog_14_method_117_code 23 = some (.iload_n 1, 1) := by decide +kernel
theorem dm_X12_print_24 : mj_dec prog_14_method_117_code 24 = some (.aload_n 0, 1) := by decide +kernel
theorem dm_X12_print_25 : mj_dec prog_14_method_117_code 25 = some (.getfield 577, 3) := by decide +kernel
theorem dm_X12_print_28 : mj_dec prog_14_method_117_code 28 = some (.if_icmp .ge 21, 3) := by decide +kernel
theorem dm_X12_print_31 : mj_dec prog_14_method_117_code 31 = some (.aload_n 0, 1) := by decide +kernel
theorem dm_X12_print_32 : mj_dec prog_14_method_117_code 32 = some (.getfield 40, 3) := by decide +kernel
theorem dm_X12_print_35 : mj_dec prog_14_method_117_code 35 = some (.iload_n 1, 1) := by decide +kernel
theorem dm_X12_print_36 : mj_dec prog_14_method_117_code 36 = some (.aload_n 0, 1) := by decide +kernel
theorem dm_X12_print_37 : mj_dec prog_14_method_117_code 37 = some (.getfield 36, 3) := by decide +kernel
theorem dm_X12_print_40 : mj_dec prog_14_method_117_code 40 = some (.iload_n 1, 1) := by decide +kernel
theorem dm_X12_print_41 : mj_dec prog_14_method_117_code 41 = some (.baload, 1) := by decide +kernel
theorem dm_X12_print_42 : mj_dec prog_14_method_117_code 42 = some (.bastore, 1) := by decide +kernel
theorem dm_X12_print_43 : mj_dec prog_14_method_117_code 43 = some (.iinc 1 1, 3) := by decide +kernel
theorem dm_X12_print_46 : mj_dec prog_14_method_117_code 46 = some (.goto (-23), 3) := by decide +kernel
theorem dm_X12_print_49 : mj_dec prog_14_method_117_code 49 = some (.aload_n 0, 1) := by decide +kernel
theorem dm_X12_print_50 : mj_dec prog_14_method_117_code 50 = some (.getfield 577, 3) := by decide +kernel
theorem dm_X12_print_53 : mj_dec prog_14_method_117_code 53 = some (.ireturn, 1) := by decide +kernel
set_option maxRecDepth 20000 in
theorem pm_X6_byteAt : mj_mmof pg_ms 141 = some ((⟨"ArrayCalculator$Printer", "byteAt", "(I)I"⟩, prog_8_method_4_code, 2, (Option.some Jvm.ClassFile.FieldType.int)), 6, false, mj_dec prog_8_method_4_code) := rfl
theorem dm_X6_byteAt_0 : mj_dec prog_8_method_4_code 0 = some (.iload_n 1, 1) := by decide +kernel
theorem dm_X6_byteAt_1 : mj_dec prog_8_method_4_code 1 = some (.ifCond .lt 20, 3) := by decide +kernel
theorem dm_X6_byteAt_21 : mj_dec prog_8_method_4_code 21 = some (.iconst (-1), 1) := by decide +kernel
theorem dm_X6_byteAt_22 : mj_dec prog_8_method_4_code 22 = some (.ireturn, 1) := by decide +kernel
set_option maxRecDepth 20000 in
theorem pm_X11_octet : mj_mmof pg_ms 187 = some ((⟨"ArrayCalculator", "octet", "(I)I"⟩, prog_1_method_14_code, 2, (Option.some Jvm.ClassFile.FieldType.int)), 11, false, mj_dec prog_1_method_14_code) := rfl
theorem dm_X11_octet_0 : mj_dec prog_1_method_14_code 0 = some (.aload_n 0, 1) := by decide +kernel
theorem dm_X11_octet_1 : mj_dec prog_1_method_14_code 1 = some (.getfield 56, 3) := by decide +kernel
theorem dm_X11_octet_4 : mj_dec prog_1_method_14_code 4 = some (.iload_n 1, 1) := by decide +kernel
theorem dm_X11_octet_5 : mj_dec prog_1_method_14_code 5 = some (.invokevirtual 193, 3) := by decide +kernel
theorem dm_X11_octet_8 : mj_dec prog_1_method_14_code 8 = some (.ireturn, 1) := by decide +kernel
theorem dm_X6_byteAt_4 : mj_dec prog_8_method_4_code 4 = some (.iload_n 1, 1) := by decide +kernel
theorem dm_X6_byteAt_5 : mj_dec prog_8_method_4_code 5 = some (.aload_n 0, 1) := by decide +kernel
theorem dm_X6_byteAt_6 : mj_dec prog_8_method_4_code 6 = some (.getfield 18, 3) := by decide +kernel
theorem dm_X6_byteAt_9 : mj_dec prog_8_method_4_code 9 = some (.if_icmp .ge 12, 3) := by decide +kernel
set_option maxRecDepth 20000 in
theorem pm_X12_octet : mj_mmof pg_ms 311 = some ((⟨"ArrayCalculatorModel", "octet", "(I)I"⟩, prog_14_method_118_code, 2, (Option.some Jvm.ClassFile.FieldType.int)), 12, false, mj_dec prog_14_method_118_code) := rfl
theorem dm_X12_octet_0 : mj_dec prog_14_method_118_code 0 = some (.iload_n 1, 1) := by decide +kernel
theorem dm_X12_octet_1 : mj_dec prog_14_method_118_code 1 = some (.ifCond .lt 11, 3) := by decide +kernel
theorem dm_X12_octet_12 : mj_dec prog_14_method_118_code 12 = some (.iconst (-1), 1) := by decide +kernel
theorem dm_X12_octet_13 : mj_dec prog_14_method_118_code 13 = some (.goto 9, 3) := by decide +kernel
theorem dm_X12_octet_22 : mj_dec prog_14_method_118_code 22 = some (.ireturn, 1) := by decide +kernel
theorem dm_X12_octet_4 : mj_dec prog_14_method_118_code 4 = some (.iload_n 1, 1) := by decide +kernel
theorem dm_X12_octet_5 : mj_dec prog_14_method_118_code 5 = some (.aload_n 0, 1) := by decide +kernel
theorem dm_X12_octet_6 : mj_dec prog_14_method_118_code 6 = some (.getfield 577, 3) := by decide +kernel
theorem dm_X12_octet_9 : mj_dec prog_14_method_118_code 9 = some (.if_icmp .lt 7, 3) := by decide +kernel
set_option maxRecDepth 20000 in
theorem pm_X11_keep : mj_mmof pg_ms 188 = some ((⟨"ArrayCalculator", "keep", "(I)Z"⟩, prog_1_method_15_code, 2, (Option.some Jvm.ClassFile.FieldType.boolean)), 11, false, mj_dec prog_1_method_15_code) := rfl
theorem dm_X11_keep_0 : mj_dec prog_1_method_15_code 0 = some (.iload_n 1, 1) := by decide +kernel
theorem dm_X11_keep_1 : mj_dec prog_1_method_15_code 1 = some (.ifCond .lt 12, 3) := by decide +kernel
theorem dm_X11_keep_13 : mj_dec prog_1_method_15_code 13 = some (.iconst 0, 1) := by decide +kernel
theorem dm_X11_keep_14 : mj_dec prog_1_method_15_code 14 = some (.ireturn, 1) := by decide +kernel
theorem dm_X11_keep_4 : mj_dec prog_1_method_15_code 4 = some (.iload_n 1, 1) := by decide +kernel
theorem dm_X11_keep_5 : mj_dec prog_1_method_15_code 5 = some (.aload_n 0, 1) := by decide +kernel
theorem dm_X11_keep_6 : mj_dec prog_1_method_15_code 6 = some (.getfield 38, 3) := by decide +kernel
theorem dm_X11_keep_9 : mj_dec prog_1_method_15_code 9 = some (.arraylength, 1) := by decide +kernel
theorem dm_X11_keep_10 : mj_dec prog_1_method_15_code 10 = some (.if_icmp .lt 5, 3) := by decide +kernel
theorem dm_X11_keep_15 : mj_dec prog_1_method_15_code 15 = some (.aload_n 0, 1) := by decide +kernel
theorem dm_X11_keep_16 : mj_dec prog_1_method_15_code 16 = some (.getfield 38, 3) := by decide +kernel
theorem dm_X11_keep_19 : mj_dec prog_1_method_15_code 19 = some (.iload_n 1, 1) := by decide +kernel
theorem dm_X11_keep_20 : mj_dec prog_1_method_15_code 20 = some (.aaload, 1) := by decide +kernel
theorem dm_X11_keep_21 : mj_dec prog_1_method_15_code 21 = some (.ifnonnull 16, 3) := by decide +kernel
theorem dm_X11_keep_24 : mj_dec prog_1_method_15_code 24 = some (.aload_n 0, 1) := by decide +kernel
theorem dm_X11_keep_25 : mj_dec prog_1_method_15_code 25 = some (.getfield 38, 3) := by decide +kernel
theorem dm_X11_keep_28 : mj_dec prog_1_method_15_code 28 = some (.iload_n 1, 1) := by decide +kernel
theorem dm_X11_keep_29 : mj_dec prog_1_method_15_code 29 = some (.new 13, 3) := by decide +kernel
theorem dm_X11_keep_32 : mj_dec prog_1_method_15_code 32 = some (.dup, 1) := by decide +kernel
theorem dm_X11_keep_33 : mj_dec prog_1_method_15_code 33 = some (.invokespecial 15, 3) := by decide +kernel
theorem dm_X11_keep_36 : mj_dec prog_1_method_15_code 36 = some (.aastore, 1) := by decide +kernel
theorem dm_X11_keep_37 : mj_dec prog_1_method_15_code 37 = some (.aload_n 0, 1) := by decide +kernel
theorem dm_X11_keep_38 : mj_dec prog_1_method_15_code 38 = some (.getfield 38, 3) := by decide +kernel
theorem dm_X11_keep_41 : mj_dec prog_1_method_15_code 41 = some (.iload_n 1, 1) := by decide +kernel
theorem dm_X11_keep_42 : mj_dec prog_1_method_15_code 42 = some (.aaload, 1) := by decide +kernel
theorem dm_X11_keep_43 : mj_dec prog_1_method_15_code 43 = some (.aload_n 0, 1) := by decide +kernel
theorem dm_X11_keep_44 : mj_dec prog_1_method_15_code 44 = some (.getfield 16, 3) := by decide +kernel
theorem dm_X11_keep_47 : mj_dec prog_1_method_15_code 47 = some (.invokevirtual 196, 3) := by decide +kernel
theorem dm_X11_keep_50 : mj_dec prog_1_method_15_code 50 = some (.iconst 1, 1) := by decide +kernel
theorem dm_X11_keep_51 : mj_dec prog_1_method_15_code 51 = some (.ireturn, 1) := by decide +kernel
set_option maxRecDepth 20000 in
theorem pm_X2_copyOf : mj_mmof pg_ms 189 = some ((⟨"ArrayCalculator$Names", "copyOf", "(LArrayCalculator$Names;)V"⟩, prog_4_method_11_code, 3, (Option.none : Option Jvm.ClassFile.FieldType)), 2, false, mj_dec prog_4_method_11_code) := rfl
theorem dm_X2_copyOf_0 : mj_dec prog_4_method_11_code 0 = some (.aload_n 0, 1) := by decide +kernel
theorem dm_X2_copyOf_1 : mj_dec prog_4_method_11_code 1 = some (.aload_n 1, 1) := by decide +kernel
theorem dm_X2_copyOf_2 : mj_dec prog_4_method_11_code 2 = some (.getfield 30, 3) := by decide +kernel
theorem dm_X2_copyOf_5 : mj_dec prog_4_method_11_code 5 = some (.putfield 30, 3) := by decide +kernel
theorem dm_X2_copyOf_8 : mj_dec prog_4_method_11_code 8 = some (.aload_n 0, 1) := by decide +kernel
theorem dm_X2_copyOf_9 : mj_dec prog_4_method_11_code 9 = some (.aload_n 1, 1) := by decide +kernel
theorem dm_X2_copyOf_10 : mj_dec prog_4_method_11_code 10 = some (.getfield 34, 3) := by decide +kernel
theorem dm_X2_copyOf_13 : mj_dec prog_4_method_11_code 13 = some (.putfield 34, 3) := by decide +kernel
theorem dm_X2_copyOf_16 : mj_dec prog_4_method_11_code 16 = some (.iconst 0, 1) := by decide +kernel
theorem dm_X2_copyOf_17 : mj_dec prog_4_method_11_code 17 = some (.istore_n 2, 1) := by decide +kernel
theorem dm_X2_copyOf_18 : mj_dec prog_4_method_11_code 18 = some (.iload_n 2, 1) := by decide +kernel
theorem dm_X2_copyOf_19 : mj_dec prog_4_method_11_code 19 = some (.bipush 40, 2) := by decide +kernel
theorem dm_X2_copyOf_21 : mj_dec prog_4_method_11_code 21 = some (.if_icmp .ge 57, 3) := by decide +kernel
theorem dm_X2_copyOf_24 : mj_dec prog_4_method_11_code 24 = some (.aload_n 0, 1) := by decide +kernel
theorem dm_X2_copyOf_25 : mj_dec prog_4_method_11_code 25 = some (.getfield 9, 3) := by decide +kernel
theorem dm_X2_copyOf_28 : mj_dec prog_4_method_11_code 28 = some (.iload_n 2, 1) := by decide +kernel
theorem dm_X2_copyOf_29 : mj_dec prog_4_method_11_code 29 = some (.aload_n 1, 1) := by decide +kernel
theorem dm_X2_copyOf_30 : mj_dec prog_4_method_11_code 30 = some (.getfield 9, 3) := by decide +kernel
theorem dm_X2_copyOf_33 : mj_dec prog_4_method_11_code 33 = some (.iload_n 2, 1) := by decide +kernel
theorem dm_X2_copyOf_34 : mj_dec prog_4_method_11_code 34 = some (.laload, 1) := by decide +kernel
theorem dm_X2_copyOf_35 : mj_dec prog_4_method_11_code 35 = some (.lastore, 1) := by decide +kernel
theorem dm_X2_copyOf_36 : mj_dec prog_4_method_11_code 36 = some (.aload_n 0, 1) := by decide +kernel
theorem dm_X2_copyOf_37 : mj_dec prog_4_method_11_code 37 = some (.getfield 17, 3) := by decide +kernel
theorem dm_X2_copyOf_40 : mj_dec prog_4_method_11_code 40 = some (.iload_n 2, 1) := by decide +kernel
theorem dm_X2_copyOf_41 : mj_dec prog_4_method_11_code 41 = some (.aload_n 1, 1) := by decide +kernel
theorem dm_X2_copyOf_42 : mj_dec prog_4_method_11_code 42 = some (.getfield 17, 3) := by decide +kernel
theorem dm_X2_copyOf_45 : mj_dec prog_4_method_11_code 45 = some (.iload_n 2, 1) := by decide +kernel
theorem dm_X2_copyOf_46 : mj_dec prog_4_method_11_code 46 = some (.aaload, 1) := by decide +kernel
theorem dm_X2_copyOf_47 : mj_dec prog_4_method_11_code 47 = some (.aastore, 1) := by decide +kernel
theorem dm_X2_copyOf_48 : mj_dec prog_4_method_11_code 48 = some (.aload_n 0, 1) := by decide +kernel
theorem dm_X2_copyOf_49 : mj_dec prog_4_method_11_code 49 = some (.getfield 21, 3) := by decide +kernel
theorem dm_X2_copyOf_52 : mj_dec prog_4_method_11_code 52 = some (.iload_n 2, 1) := by decide +kernel
theorem dm_X2_copyOf_53 : mj_dec prog_4_method_11_code 53 = some (.aload_n 1, 1) := by decide +kernel
theorem dm_X2_copyOf_54 : mj_dec prog_4_method_11_code 54 = some (.getfield 21, 3) := by decide +kernel
theorem dm_X2_copyOf_57 : mj_dec prog_4_method_11_code 57 = some (.iload_n 2, 1) := by decide +kernel
theorem dm_X2_copyOf_58 : mj_dec prog_4_method_11_code 58 = some (.laload, 1) := by decide +kernel
theorem dm_X2_copyOf_59 : mj_dec prog_4_method_11_code 59 = some (.lastore, 1) := by decide +kernel
theorem dm_X2_copyOf_60 : mj_dec prog_4_method_11_code 60 = some (.aload_n 0, 1) := by decide +kernel
theorem dm_X2_copyOf_61 : mj_dec prog_4_method_11_code 61 = some (.getfield 26, 3) := by decide +kernel
theorem dm_X2_copyOf_64 : mj_dec prog_4_method_11_code 64 = some (.iload_n 2, 1) := by decide +kernel
theorem dm_X2_copyOf_65 : mj_dec prog_4_method_11_code 65 = some (.aload_n 1, 1) := by decide +kernel
theorem dm_X2_copyOf_66 : mj_dec prog_4_method_11_code 66 = some (.getfield 26, 3) := by decide +kernel
theorem dm_X2_copyOf_69 : mj_dec prog_4_method_11_code 69 = some (.iload_n 2, 1) := by decide +kernel
theorem dm_X2_copyOf_70 : mj_dec prog_4_method_11_code 70 = some (.aaload, 1) := by decide +kernel
theorem dm_X2_copyOf_71 : mj_dec prog_4_method_11_code 71 = some (.aastore, 1) := by decide +kernel
theorem dm_X2_copyOf_72 : mj_dec prog_4_method_11_code 72 = some (.iinc 2 1, 3) := by decide +kernel
theorem dm_X2_copyOf_75 : mj_dec prog_4_method_11_code 75 = some (.goto (-57), 3) := by decide +kernel
theorem dm_X2_copyOf_78 : mj_dec prog_4_method_11_code 78 = some (.return_, 1) := by decide +kernel
set_option maxRecDepth 20000 in
theorem pm_X12_keep : mj_mmof pg_ms 312 = some ((⟨"ArrayCalculatorModel", "keep", "(I)Z"⟩, prog_14_method_119_code, 3, (Option.some Jvm.ClassFile.FieldType.boolean)), 12, false, mj_dec prog_14_method_119_code) := rfl
theorem dm_X12_keep_0 : mj_dec prog_14_method_119_code 0 = some (.iload_n 1, 1) := by decide +kernel
theorem dm_X12_keep_1 : mj_dec prog_14_method_119_code 1 = some (.ifCond .lt 8, 3) := by decide +kernel
theorem dm_X12_keep_9 : mj_dec prog_14_method_119_code 9 = some (.iconst 0, 1) := by decide +kernel
theorem dm_X12_keep_10 : mj_dec prog_14_method_119_code 10 = some (.ireturn, 1) := by decide +kernel
theorem dm_X12_keep_4 : mj_dec prog_14_method_119_code 4 = some (.iload_n 1, 1) := by decide +kernel
theorem dm_X12_keep_5 : mj_dec prog_14_method_119_code 5 = some (.iconst 3, 1) := by decide +kernel
theorem dm_X12_keep_6 : mj_dec prog_14_method_119_code 6 = some (.if_icmp .le 5, 3) := by decide +kernel
theorem dm_X12_keep_11 : mj_dec prog_14_method_119_code 11 = some (.aload_n 0, 1) := by decide +kernel
theorem dm_X12_keep_12 : mj_dec prog_14_method_119_code 12 = some (.getfield 67, 3) := by decide +kernel
theorem dm_X12_keep_15 : mj_dec prog_14_method_119_code 15 = some (.iload_n 1, 1) := by decide +kernel
theorem dm_X12_keep_16 : mj_dec prog_14_method_119_code 16 = some (.iconst 1, 1) := by decide +kernel
theorem dm_X12_keep_17 : mj_dec prog_14_method_119_code 17 = some (.bastore, 1) := by decide +kernel
theorem dm_X12_keep_18 : mj_dec prog_14_method_119_code 18 = some (.aload_n 0, 1) := by decide +kernel
theorem dm_X12_keep_19 : mj_dec prog_14_method_119_code 19 = some (.getfield 61, 3) := by decide +kernel
theorem dm_X12_keep_22 : mj_dec prog_14_method_119_code 22 = some (.iload_n 1, 1) := by decide +kernel
theorem dm_X12_keep_23 : mj_dec prog_14_method_119_code 23 = some (.aload_n 0, 1) := by decide +kernel
theorem dm_X12_keep_24 : mj_dec prog_14_method_119_code 24 = some (.getfield 357, 3) := by decide +kernel
theorem dm_X12_keep_27 : mj_dec prog_14_method_119_code 27 = some (.iastore, 1) := by decide +kernel
theorem dm_X12_keep_28 : mj_dec prog_14_method_119_code 28 = some (.aload_n 0, 1) := by decide +kernel
theorem dm_X12_keep_29 : mj_dec prog_14_method_119_code 29 = some (.getfield 64, 3) := by decide +kernel
theorem dm_X12_keep_32 : mj_dec prog_14_method_119_code 32 = some (.iload_n 1, 1) := by decide +kernel
theorem dm_X12_keep_33 : mj_dec prog_14_method_119_code 33 = some (.aload_n 0, 1) := by decide +kernel
theorem dm_X12_keep_34 : mj_dec prog_14_method_119_code 34 = some (.getfield 360, 3) := by decide +kernel
theorem dm_X12_keep_37 : mj_dec prog_14_method_119_code 37 = some (.iastore, 1) := by decide +kernel
theorem dm_X12_keep_38 : mj_dec prog_14_method_119_code 38 = some (.iconst 0, 1) := by decide +kernel
theorem dm_X12_keep_39 : mj_dec prog_14_method_119_code 39 = some (.istore_n 2, 1) := by decide +kernel
theorem dm_X12_keep_40 : mj_dec prog_14_method_119_code 40 = some (.iload_n 2, 1) := by decide +kernel
theorem dm_X12_keep_41 : mj_dec prog_14_method_119_code 41 = some (.bipush 40, 2) := by decide +kernel
theorem dm_X12_keep_43 : mj_dec prog_14_method_119_code 43 = some (.if_icmp .ge 83, 3) := by decide +kernel
theorem dm_X12_keep_46 : mj_dec prog_14_method_119_code 46 = some (.aload_n 0, 1) := by decide +kernel
theorem dm_X12_keep_47 : mj_dec prog_14_method_119_code 47 = some (.getfield 55, 3) := by decide +kernel
theorem dm_X12_keep_50 : mj_dec prog_14_method_119_code 50 = some (.bipush 80, 2) := by decide +kernel
theorem dm_X12_keep_52 : mj_dec prog_14_method_119_code 52 = some (.iload_n 1, 1) := by decide +kernel
theorem dm_X12_keep_53 : mj_dec prog_14_method_119_code 53 = some (.imul, 1) := by decide +kernel
theorem dm_X12_keep_54 : mj_dec prog_14_method_119_code 54 = some (.iload_n 2, 1) := by decide +kernel
theorem dm_X12_keep_55 : mj_dec prog_14_method_119_code 55 = some (.iadd, 1) := by decide +kernel
theorem dm_X12_keep_56 : mj_dec prog_14_method_119_code 56 = some (.aload_n 0, 1) := by decide +kernel
theorem dm_X12_keep_57 : mj_dec prog_14_method_119_code 57 = some (.getfield 43, 3) := by decide +kernel
theorem dm_X12_keep_60 : mj_dec prog_14_method_119_code 60 = some (.iload_n 2, 1) := by decide +kernel
theorem dm_X12_keep_61 : mj_dec prog_14_method_119_code 61 = some (.laload, 1) := by decide +kernel
theorem dm_X12_keep_62 : mj_dec prog_14_method_119_code 62 = some (.lastore, 1) := by decide +kernel
theorem dm_X12_keep_63 : mj_dec prog_14_method_119_code 63 = some (.aload_n 0, 1) := by decide +kernel
theorem dm_X12_keep_64 : mj_dec prog_14_method_119_code 64 = some (.getfield 58, 3) := by decide +kernel
theorem dm_X12_keep_67 : mj_dec prog_14_method_119_code 67 = some (.bipush 80, 2) := by decide +kernel
theorem dm_X12_keep_69 : mj_dec prog_14_method_119_code 69 = some (.iload_n 1, 1) := by decide +kernel
theorem dm_X12_keep_70 : mj_dec prog_14_method_119_code 70 = some (.imul, 1) := by decide +kernel
theorem dm_X12_keep_71 : mj_dec prog_14_method_119_code 71 = some (.iload_n 2, 1) := by decide +kernel
theorem dm_X12_keep_72 : mj_dec prog_14_method_119_code 72 = some (.iadd, 1) := by decide +kernel
theorem dm_X12_keep_73 : mj_dec prog_14_method_119_code 73 = some (.aload_n 0, 1) := by decide +kernel
theorem dm_X12_keep_74 : mj_dec prog_14_method_119_code 74 = some (.getfield 49, 3) := by decide +kernel
theorem dm_X12_keep_77 : mj_dec prog_14_method_119_code 77 = some (.iload_n 2, 1) := by decide +kernel
theorem dm_X12_keep_78 : mj_dec prog_14_method_119_code 78 = some (.iaload, 1) := by decide +kernel
theorem dm_X12_keep_79 : mj_dec prog_14_method_119_code 79 = some (.iastore, 1) := by decide +kernel
theorem dm_X12_keep_80 : mj_dec prog_14_method_119_code 80 = some (.aload_n 0, 1) := by decide +kernel
theorem dm_X12_keep_81 : mj_dec prog_14_method_119_code 81 = some (.getfield 55, 3) := by decide +kernel
theorem dm_X12_keep_84 : mj_dec prog_14_method_119_code 84 = some (.bipush 80, 2) := by decide +kernel
theorem dm_X12_keep_86 : mj_dec prog_14_method_119_code 86 = some (.iload_n 1, 1) := by decide +kernel
theorem dm_X12_keep_87 : mj_dec prog_14_method_119_code 87 = some (.imul, 1) := by decide +kernel
theorem dm_X12_keep_88 : mj_dec prog_14_method_119_code 88 = some (.bipush 40, 2) := by decide +kernel
theorem dm_X12_keep_90 : mj_dec prog_14_method_119_code 90 = some (.iadd, 1) := by decide +kernel
theorem dm_X12_keep_91 : mj_dec prog_14_method_119_code 91 = some (.iload_n 2, 1) := by decide +kernel
theorem dm_X12_keep_92 : mj_dec prog_14_method_119_code 92 = some (.iadd, 1) := by decide +kernel
theorem dm_X12_keep_93 : mj_dec prog_14_method_119_code 93 = some (.aload_n 0, 1) := by decide +kernel
theorem dm_X12_keep_94 : mj_dec prog_14_method_119_code 94 = some (.getfield 46, 3) := by decide +kernel
theorem dm_X12_keep_97 : mj_dec prog_14_method_119_code 97 = some (.iload_n 2, 1) := by decide +kernel
theorem dm_X12_keep_98 : mj_dec prog_14_method_119_code 98 = some (.laload, 1) := by decide +kernel
theorem dm_X12_keep_99 : mj_dec prog_14_method_119_code 99 = some (.lastore, 1) := by decide +kernel
theorem dm_X12_keep_100 : mj_dec prog_14_method_119_code 100 = some (.aload_n 0, 1) := by decide +kernel
theorem dm_X12_keep_101 : mj_dec prog_14_method_119_code 101 = some (.getfield 58, 3) := by decide +kernel
theorem dm_X12_keep_104 : mj_dec prog_14_method_119_code 104 = some (.bipush 80, 2) := by decide +kernel
theorem dm_X12_keep_106 : mj_dec prog_14_method_119_code 106 = some (.iload_n 1, 1) := by decide +kernel
theorem dm_X12_keep_107 : mj_dec prog_14_method_119_code 107 = some (.imul, 1) := by decide +kernel
theorem dm_X12_keep_108 : mj_dec prog_14_method_119_code 108 = some (.bipush 40, 2) := by decide +kernel
theorem dm_X12_keep_110 : mj_dec prog_14_method_119_code 110 = some (.iadd, 1) := by decide +kernel
theorem dm_X12_keep_111 : mj_dec prog_14_method_119_code 111 = some (.iload_n 2, 1) := by decide +kernel
theorem dm_X12_keep_112 : mj_dec prog_14_method_119_code 112 = some (.iadd, 1) := by decide +kernel
theorem dm_X12_keep_113 : mj_dec prog_14_method_119_code 113 = some (.aload_n 0, 1) := by decide +kernel
theorem dm_X12_keep_114 : mj_dec prog_14_method_119_code 114 = some (.getfield 52, 3) := by decide +kernel
theorem dm_X12_keep_117 : mj_dec prog_14_method_119_code 117 = some (.iload_n 2, 1) := by decide +kernel
theorem dm_X12_keep_118 : mj_dec prog_14_method_119_code 118 = some (.iaload, 1) := by decide +kernel
theorem dm_X12_keep_119 : mj_dec prog_14_method_119_code 119 = some (.iastore, 1) := by decide +kernel
theorem dm_X12_keep_120 : mj_dec prog_14_method_119_code 120 = some (.iinc 2 1, 3) := by decide +kernel
theorem dm_X12_keep_123 : mj_dec prog_14_method_119_code 123 = some (.goto (-83), 3) := by decide +kernel
theorem dm_X12_keep_126 : mj_dec prog_14_method_119_code 126 = some (.iconst 1, 1) := by decide +kernel
theorem dm_X12_keep_127 : mj_dec prog_14_method_119_code 127 = some (.ireturn, 1) := by decide +kernel
set_option maxRecDepth 20000 in
theorem pm_X11_back : mj_mmof pg_ms 190 = some ((⟨"ArrayCalculator", "back", "(I)Z"⟩, prog_1_method_16_code, 2, (Option.some Jvm.ClassFile.FieldType.boolean)), 11, false, mj_dec prog_1_method_16_code) := rfl
theorem dm_X11_back_0 : mj_dec prog_1_method_16_code 0 = some (.iload_n 1, 1) := by decide +kernel
theorem dm_X11_back_1 : mj_dec prog_1_method_16_code 1 = some (.ifCond .lt 21, 3) := by decide +kernel
theorem dm_X11_back_22 : mj_dec prog_1_method_16_code 22 = some (.iconst 0, 1) := by decide +kernel
theorem dm_X11_back_23 : mj_dec prog_1_method_16_code 23 = some (.ireturn, 1) := by decide +kernel
theorem dm_X11_back_4 : mj_dec prog_1_method_16_code 4 = some (.iload_n 1, 1) := by decide +kernel
theorem dm_X11_back_5 : mj_dec prog_1_method_16_code 5 = some (.aload_n 0, 1) := by decide +kernel
theorem dm_X11_back_6 : mj_dec prog_1_method_16_code 6 = some (.getfield 38, 3) := by decide +kernel
theorem dm_X11_back_9 : mj_dec prog_1_method_16_code 9 = some (.arraylength, 1) := by decide +kernel
theorem dm_X11_back_10 : mj_dec prog_1_method_16_code 10 = some (.if_icmp .ge 12, 3) := by decide +kernel
theorem dm_X11_back_13 : mj_dec prog_1_method_16_code 13 = some (.aload_n 0, 1) := by decide +kernel
theorem dm_X11_back_14 : mj_dec prog_1_method_16_code 14 = some (.getfield 38, 3) := by decide +kernel
theorem dm_X11_back_17 : mj_dec prog_1_method_16_code 17 = some (.iload_n 1, 1) := by decide +kernel
theorem dm_X11_back_18 : mj_dec prog_1_method_16_code 18 = some (.aaload, 1) := by decide +kernel
theorem dm_X11_back_19 : mj_dec prog_1_method_16_code 19 = some (.ifnonnull 5, 3) := by decide +kernel
set_option maxRecDepth 20000 in
theorem pm_X12_back : mj_mmof pg_ms 313 = some ((⟨"ArrayCalculatorModel", "back", "(I)Z"⟩, prog_14_method_120_code, 3, (Option.some Jvm.ClassFile.FieldType.boolean)), 12, false, mj_dec prog_14_method_120_code) := rfl
theorem dm_X12_back_0 : mj_dec prog_14_method_120_code 0 = some (.iload_n 1, 1) := by decide +kernel
theorem dm_X12_back_1 : mj_dec prog_14_method_120_code 1 = some (.ifCond .lt 17, 3) := by decide +kernel
theorem dm_X12_back_18 : mj_dec prog_14_method_120_code 18 = some (.iconst 0, 1) := by decide +kernel
theorem dm_X12_back_19 : mj_dec prog_14_method_120_code 19 = some (.ireturn, 1) := by decide +kernel
theorem dm_X12_back_4 : mj_dec prog_14_method_120_code 4 = some (.iload_n 1, 1) := by decide +kernel
theorem dm_X12_back_5 : mj_dec prog_14_method_120_code 5 = some (.iconst 3, 1) := by decide +kernel
theorem dm_X12_back_6 : mj_dec prog_14_method_120_code 6 = some (.if_icmp .gt 12, 3) := by decide +kernel
theorem dm_X12_back_9 : mj_dec prog_14_method_120_code 9 = some (.aload_n 0, 1) := by decide +kernel
theorem dm_X12_back_10 : mj_dec prog_14_method_120_code 10 = some (.getfield 67, 3) := by decide +kernel
theorem dm_X12_back_13 : mj_dec prog_14_method_120_code 13 = some (.iload_n 1, 1) := by decide +kernel
theorem dm_X12_back_14 : mj_dec prog_14_method_120_code 14 = some (.baload, 1) := by decide +kernel
theorem dm_X12_back_15 : mj_dec prog_14_method_120_code 15 = some (.ifCond .ne 5, 3) := by decide +kernel
set_option maxRecDepth 20000 in
theorem pm_X11_names : mj_mmof pg_ms 191 = some ((⟨"ArrayCalculator", "names", "(I)I"⟩, prog_1_method_17_code, 2, (Option.some Jvm.ClassFile.FieldType.int)), 11, false, mj_dec prog_1_method_17_code) := rfl
theorem dm_X11_names_0 : mj_dec prog_1_method_17_code 0 = some (.aload_n 0, 1) := by decide +kernel
theorem dm_X11_names_1 : mj_dec prog_1_method_17_code 1 = some (.getfield 16, 3) := by decide +kernel
theorem dm_X11_names_4 : mj_dec prog_1_method_17_code 4 = some (.iload_n 1, 1) := by decide +kernel
theorem dm_X11_names_5 : mj_dec prog_1_method_17_code 5 = some (.invokevirtual 199, 3) := by decide +kernel
theorem dm_X11_names_8 : mj_dec prog_1_method_17_code 8 = some (.ireturn, 1) := by decide +kernel
set_option maxRecDepth 20000 in
theorem pm_X2_howMany : mj_mmof pg_ms 192 = some ((⟨"ArrayCalculator$Names", "howMany", "(I)I"⟩, prog_4_method_2_code, 2, (Option.some Jvm.ClassFile.FieldType.int)), 2, false, mj_dec prog_4_method_2_code) := rfl
theorem dm_X2_howMany_0 : mj_dec prog_4_method_2_code 0 = some (.iload_n 1, 1) := by decide +kernel
theorem dm_X2_howMany_1 : mj_dec prog_4_method_2_code 1 = some (.ifCond .ne 8, 3) := by decide +kernel
theorem dm_X2_howMany_9 : mj_dec prog_4_method_2_code 9 = some (.iload_n 1, 1) := by decide +kernel
theorem dm_X2_howMany_10 : mj_dec prog_4_method_2_code 10 = some (.iconst 1, 1) := by decide +kernel
theorem dm_X2_howMany_11 : mj_dec prog_4_method_2_code 11 = some (.if_icmp .ne 10, 3) := by decide +kernel
theorem dm_X2_howMany_21 : mj_dec prog_4_method_2_code 21 = some (.iconst (-1), 1) := by decide +kernel
theorem dm_X2_howMany_22 : mj_dec prog_4_method_2_code 22 = some (.ireturn, 1) := by decide +kernel
theorem dm_X2_howMany_4 : mj_dec prog_4_method_2_code 4 = some (.aload_n 0, 1) := by decide +kernel
theorem dm_X2_howMany_5 : mj_dec prog_4_method_2_code 5 = some (.getfield 30, 3) := by decide +kernel
theorem dm_X2_howMany_8 : mj_dec prog_4_method_2_code 8 = some (.ireturn, 1) := by decide +kernel
theorem dm_X2_howMany_14 : mj_dec prog_4_method_2_code 14 = some (.aload_n 0, 1) := by decide +kernel
theorem dm_X2_howMany_15 : mj_dec prog_4_method_2_code 15 = some (.getfield 34, 3) := by decide +kernel
theorem dm_X2_howMany_18 : mj_dec prog_4_method_2_code 18 = some (.goto 4, 3) := by decide +kernel
set_option maxRecDepth 20000 in
theorem pm_X12_names : mj_mmof pg_ms 314 = some ((⟨"ArrayCalculatorModel", "names", "(I)I"⟩, prog_14_method_121_code, 2, (Option.some Jvm.ClassFile.FieldType.int)), 12, false, mj_dec prog_14_method_121_code) := rfl
theorem dm_X12_names_0 : mj_dec prog_14_method_121_code 0 = some (.iload_n 1, 1) := by decide +kernel
theorem dm_X12_names_1 : mj_dec prog_14_method_121_code 1 = some (.ifCond .ne 10, 3) := by decide +kernel
theorem dm_X12_names_11 : mj_dec prog_14_method_121_code 11 = some (.iload_n 1, 1) := by decide +kernel
theorem dm_X12_names_12 : mj_dec prog_14_method_121_code 12 = some (.iconst 1, 1) := by decide +kernel
theorem dm_X12_names_13 : mj_dec prog_14_method_121_code 13 = some (.if_icmp .ne 10, 3) := by decide +kernel
theorem dm_X12_names_23 : mj_dec prog_14_method_121_code 23 = some (.iconst (-1), 1) := by decide +kernel
theorem dm_X12_names_24 : mj_dec prog_14_method_121_code 24 = some (.ireturn, 1) := by decide +kernel
theorem dm_X12_names_4 : mj_dec prog_14_method_121_code 4 = some (.aload_n 0, 1) := by decide +kernel
theorem dm_X12_names_5 : mj_dec prog_14_method_121_code 5 = some (.getfield 357, 3) := by decide +kernel
theorem dm_X12_names_8 : mj_dec prog_14_method_121_code 8 = some (.goto 16, 3) := by decide +kernel
theorem dm_X12_names_16 : mj_dec prog_14_method_121_code 16 = some (.aload_n 0, 1) := by decide +kernel
theorem dm_X12_names_17 : mj_dec prog_14_method_121_code 17 = some (.getfield 360, 3) := by decide +kernel
theorem dm_X12_names_20 : mj_dec prog_14_method_121_code 20 = some (.goto 4, 3) := by decide +kernel
set_option maxRecDepth 20000 in
theorem pm_X11_letter : mj_mmof pg_ms 193 = some ((⟨"ArrayCalculator", "letter", "(III)I"⟩, prog_1_method_18_code, 5, (Option.some Jvm.ClassFile.FieldType.int)), 11, false, mj_dec prog_1_method_18_code) := rfl
theorem dm_X11_letter_0 : mj_dec prog_1_method_18_code 0 = some (.iload_n 3, 1) := by decide +kernel
theorem dm_X11_letter_1 : mj_dec prog_1_method_18_code 1 = some (.ifCond .lt 9, 3) := by decide +kernel
theorem dm_X11_letter_10 : mj_dec prog_1_method_18_code 10 = some (.iconst (-1), 1) := by decide +kernel
theorem dm_X11_letter_11 : mj_dec prog_1_method_18_code 11 = some (.ireturn, 1) := by decide +kernel
theorem dm_X11_letter_4 : mj_dec prog_1_method_18_code 4 = some (.iload_n 3, 1) := by decide +kernel
theorem dm_X11_letter_5 : mj_dec prog_1_method_18_code 5 = some (.bipush 8, 2) := by decide +kernel
theorem dm_X11_letter_7 : mj_dec prog_1_method_18_code 7 = some (.if_icmp .lt 5, 3) := by decide +kernel
theorem dm_X11_letter_12 : mj_dec prog_1_method_18_code 12 = some (.aload_n 0, 1) := by decide +kernel
theorem dm_X11_letter_13 : mj_dec prog_1_method_18_code 13 = some (.getfield 16, 3) := by decide +kernel
theorem dm_X11_letter_16 : mj_dec prog_1_method_18_code 16 = some (.iload_n 1, 1) := by decide +kernel
theorem dm_X11_letter_17 : mj_dec prog_1_method_18_code 17 = some (.iload_n 2, 1) := by decide +kernel
theorem dm_X11_letter_18 : mj_dec prog_1_method_18_code 18 = some (.invokevirtual 202, 3) := by decide +kernel
theorem dm_X11_letter_21 : mj_dec prog_1_method_18_code 21 = some (.iload_n 3, 1) := by decide +kernel
theorem dm_X11_letter_22 : mj_dec prog_1_method_18_code 22 = some (.iconst 5, 1) := by decide +kernel
theorem dm_X11_letter_23 : mj_dec prog_1_method_18_code 23 = some (.imul, 1) := by decide +kernel
theorem dm_X11_letter_24 : mj_dec prog_1_method_18_code 24 = some (.lushr, 1) := by decide +kernel
theorem dm_X11_letter_25 : mj_dec prog_1_method_18_code 25 = some (.l2i, 1) := by decide +kernel
theorem dm_X11_letter_26 : mj_dec prog_1_method_18_code 26 = some (.bipush 31, 2) := by decide +kernel
theorem dm_X11_letter_28 : mj_dec prog_1_method_18_code 28 = some (.iand, 1) := by decide +kernel
theorem dm_X11_letter_29 : mj_dec prog_1_method_18_code 29 = some (.istore 4, 2) := by decide +kernel
theorem dm_X11_letter_31 : mj_dec prog_1_method_18_code 31 = some (.iload 4, 2) := by decide +kernel
theorem dm_X11_letter_33 : mj_dec prog_1_method_18_code 33 = some (.ifCond .ne 7, 3) := by decide +kernel
theorem dm_X11_letter_36 : mj_dec prog_1_method_18_code 36 = some (.iconst (-1), 1) := by decide +kernel
theorem dm_X11_letter_37 : mj_dec prog_1_method_18_code 37 = some (.goto 8, 3) := by decide +kernel
theorem dm_X11_letter_45 : mj_dec prog_1_method_18_code 45 = some (.ireturn, 1) := by decide +kernel
set_option maxRecDepth 20000 in
theorem pm_X2_keyAt : mj_mmof pg_ms 194 = some ((⟨"ArrayCalculator$Names", "keyAt", "(II)J"⟩, prog_4_method_3_code, 3, (Option.some Jvm.ClassFile.FieldType.long)), 2, false, mj_dec prog_4_method_3_code) := rfl
theorem dm_X2_keyAt_0 : mj_dec prog_4_method_3_code 0 = some (.iload_n 2, 1) := by decide +kernel
theorem dm_X2_keyAt_1 : mj_dec prog_4_method_3_code 1 = some (.ifCond .lt 12, 3) := by decide +kernel
theorem dm_X2_keyAt_13 : mj_dec prog_4_method_3_code 13 = some (.lconst 0, 1) := by decide +kernel
theorem dm_X2_keyAt_14 : mj_dec prog_4_method_3_code 14 = some (.lreturn, 1) := by decide +kernel
theorem dm_X2_keyAt_4 : mj_dec prog_4_method_3_code 4 = some (.iload_n 2, 1) := by decide +kernel
theorem dm_X2_keyAt_5 : mj_dec prog_4_method_3_code 5 = some (.aload_n 0, 1) := by decide +kernel
theorem dm_X2_keyAt_6 : mj_dec prog_4_method_3_code 6 = some (.iload_n 1, 1) := by decide +kernel
theorem dm_X2_keyAt_7 : mj_dec prog_4_method_3_code 7 = some (.invokevirtual 37, 3) := by decide +kernel
theorem dm_X2_keyAt_10 : mj_dec prog_4_method_3_code 10 = some (.if_icmp .lt 5, 3) := by decide +kernel
set_option maxRecDepth 20000 in
theorem pm_X12_letter : mj_mmof pg_ms 315 = some ((⟨"ArrayCalculatorModel", "letter", "(III)I"⟩, prog_14_method_122_code, 7, (Option.some Jvm.ClassFile.FieldType.int)), 12, false, mj_dec prog_14_method_122_code) := rfl
theorem dm_X12_letter_0 : mj_dec prog_14_method_122_code 0 = some (.iload_n 1, 1) := by decide +kernel
theorem dm_X12_letter_1 : mj_dec prog_14_method_122_code 1 = some (.ifCond .lt 35, 3) := by decide +kernel
theorem dm_X12_letter_36 : mj_dec prog_14_method_122_code 36 = some (.iconst (-1), 1) := by decide +kernel
theorem dm_X12_letter_37 : mj_dec prog_14_method_122_code 37 = some (.ireturn, 1) := by decide +kernel
theorem dm_X12_letter_4 : mj_dec prog_14_method_122_code 4 = some (.iload_n 1, 1) := by decide +kernel
theorem dm_X12_letter_5 : mj_dec prog_14_method_122_code 5 = some (.iconst 1, 1) := by decide +kernel
theorem dm_X12_letter_6 : mj_dec prog_14_method_122_code 6 = some (.if_icmp .gt 30, 3) := by decide +kernel
theorem dm_X12_letter_9 : mj_dec prog_14_method_122_code 9 = some (.iload_n 2, 1) := by decide +kernel
theorem dm_X12_letter_10 : mj_dec prog_14_method_122_code 10 = some (.ifCond .lt 26, 3) := by decide +kernel
theorem dm_X12_letter_13 : mj_dec prog_14_method_122_code 13 = some (.iload_n 2, 1) := by decide +kernel
theorem dm_X12_letter_14 : mj_dec prog_14_method_122_code 14 = some (.iload_n 1, 1) := by decide +kernel
theorem dm_X12_letter_15 : mj_dec prog_14_method_122_code 15 = some (.ifCond .ne 10, 3) := by decide +kernel
theorem dm_X12_letter_18 : mj_dec prog_14_method_122_code 18 = some (.aload_n 0, 1) := by decide +kernel
theorem dm_X12_letter_19 : mj_dec prog_14_method_122_code 19 = some (.getfield 357, 3) := by decide +kernel
theorem dm_X12_letter_22 : mj_dec prog_14_method_122_code 22 = some (.goto 7, 3) := by decide +kernel
theorem dm_X12_letter_29 : mj_dec prog_14_method_122_code 29 = some (.if_icmp .ge 7, 3) := by decide +kernel
theorem dm_X12_letter_25 : mj_dec prog_14_method_122_code 25 = some (.aload_n 0, 1) := by decide +kernel
theorem dm_X12_letter_26 : mj_dec prog_14_method_122_code 26 = some (.getfield 360, 3) := by decide +kernel
theorem dm_L_18 : mj_dec code 18 = some (.iload_n 3, 1) := by decide +kernel
theorem dm_L_19 : mj_dec code 19 = some (.aload_n 0, 1) := by decide +kernel
theorem dm_L_20 : mj_dec code 20 = some (.arraylength, 1) := by decide +kernel
theorem dm_L_21 : mj_dec code 21 = some (.bipush 6, 2) := by decide +kernel
theorem dm_L_23 : mj_dec code 23 = some (.isub, 1) := by decide +kernel
theorem dm_L_24 : mj_dec code 24 = some (.if_icmp .gt 432, 3) := by decide +kernel
theorem dm_L_27 : mj_dec code 27 = some (.aload_n 0, 1) := by decide +kernel
theorem dm_L_28 : mj_dec code 28 = some (.iload_n 3, 1) := by decide +kernel
theorem dm_L_29 : mj_dec code 29 = some (.iaload, 1) := by decide +kernel
theorem dm_L_30 : mj_dec code 30 = some (.bipush 15, 2) := by decide +kernel
theorem dm_L_32 : mj_dec code 32 = some (.iand, 1) := by decide +kernel
theorem dm_L_33 : mj_dec code 33 = some (.tableswitch 417 0 12 #[67, 130, 153, 176, 209, 222, 245, 269, 282, 305, 328, 351, 374], 67) := by decide +kernel
theorem dm_L_100 : mj_dec code 100 = some (.aload_n 1, 1) := by decide +kernel
theorem dm_L_101 : mj_dec code 101 = some (.aload_n 0, 1) := by decide +kernel
theorem dm_L_102 : mj_dec code 102 = some (.iload_n 3, 1) := by decide +kernel
theorem dm_L_103 : mj_dec code 103 = some (.iconst 1, 1) := by decide +kernel
theorem dm_L_104 : mj_dec code 104 = some (.iadd, 1) := by decide +kernel
theorem dm_L_105 : mj_dec code 105 = some (.iaload, 1) := by decide +kernel
theorem dm_L_106 : mj_dec code 106 = some (.aload_n 0, 1) := by decide +kernel
theorem dm_L_107 : mj_dec code 107 = some (.iload_n 3, 1) := by decide +kernel
theorem dm_L_108 : mj_dec code 108 = some (.iconst 2, 1) := by decide +kernel
theorem dm_L_109 : mj_dec code 109 = some (.iadd, 1) := by decide +kernel
theorem dm_L_110 : mj_dec code 110 = some (.iaload, 1) := by decide +kernel
theorem dm_L_111 : mj_dec code 111 = some (.aload_n 0, 1) := by decide +kernel
theorem dm_L_112 : mj_dec code 112 = some (.iload_n 3, 1) := by decide +kernel
theorem dm_L_113 : mj_dec code 113 = some (.iconst 3, 1) := by decide +kernel
theorem dm_L_114 : mj_dec code 114 = some (.iadd, 1) := by decide +kernel
theorem dm_L_115 : mj_dec code 115 = some (.iaload, 1) := by decide +kernel
theorem dm_L_116 : mj_dec code 116 = some (.aload_n 0, 1) := by decide +kernel
theorem dm_L_117 : mj_dec code 117 = some (.iload_n 3, 1) := by decide +kernel
theorem dm_L_118 : mj_dec code 118 = some (.iconst 4, 1) := by decide +kernel
theorem dm_L_119 : mj_dec code 119 = some (.iadd, 1) := by decide +kernel
theorem dm_L_120 : mj_dec code 120 = some (.iaload, 1) := by decide +kernel
theorem dm_L_121 : mj_dec code 121 = some (.aload_n 0, 1) := by decide +kernel
theorem dm_L_122 : mj_dec code 122 = some (.iload_n 3, 1) := by decide +kernel
theorem dm_L_123 : mj_dec code 123 = some (.iconst 5, 1) := by decide +kernel
theorem dm_L_124 : mj_dec code 124 = some (.iadd, 1) := by decide +kernel
theorem dm_L_125 : mj_dec code 125 = some (.iaload, 1) := by decide +kernel
theorem dm_L_126 : mj_dec code 126 = some (.invokevirtual 13, 3) := by decide +kernel
theorem dm_L_129 : mj_dec code 129 = some (.aload_n 2, 1) := by decide +kernel
theorem dm_L_130 : mj_dec code 130 = some (.aload_n 0, 1) := by decide +kernel
theorem dm_L_131 : mj_dec code 131 = some (.iload_n 3, 1) := by decide +kernel
theorem dm_L_132 : mj_dec code 132 = some (.iconst 1, 1) := by decide +kernel
theorem dm_L_133 : mj_dec code 133 = some (.iadd, 1) := by decide +kernel
theorem dm_L_134 : mj_dec code 134 = some (.iaload, 1) := by decide +kernel
theorem dm_L_135 : mj_dec code 135 = some (.aload_n 0, 1) := by decide +kernel
theorem dm_L_136 : mj_dec code 136 = some (.iload_n 3, 1) := by decide +kernel
theorem dm_L_137 : mj_dec code 137 = some (.iconst 2, 1) := by decide +kernel
theorem dm_L_138 : mj_dec code 138 = some (.iadd, 1) := by decide +kernel
theorem dm_L_139 : mj_dec code 139 = some (.iaload, 1) := by decide +kernel
theorem dm_L_140 : mj_dec code 140 = some (.aload_n 0, 1) := by decide +kernel
theorem dm_L_141 : mj_dec code 141 = some (.iload_n 3, 1) := by decide +kernel
theorem dm_L_142 : mj_dec code 142 = some (.iconst 3, 1) := by decide +kernel
theorem dm_L_143 : mj_dec code 143 = some (.iadd, 1) := by decide +kernel
theorem dm_L_144 : mj_dec code 144 = some (.iaload, 1) := by decide +kernel
theorem dm_L_145 : mj_dec code 145 = some (.aload_n 0, 1) := by decide +kernel
theorem dm_L_146 : mj_dec code 146 = some (.iload_n 3, 1) := by decide +kernel
theorem dm_L_147 : mj_dec code 147 = some (.iconst 4, 1) := by decide +kernel
theorem dm_L_148 : mj_dec code 148 = some (.iadd, 1) := by decide +kernel
theorem dm_L_149 : mj_dec code 149 = some (.iaload, 1) := by decide +kernel
theorem dm_L_150 : mj_dec code 150 = some (.aload_n 0, 1) := by decide +kernel
theorem dm_L_151 : mj_dec code 151 = some (.iload_n 3, 1) := by decide +kernel
theorem dm_L_152 : mj_dec code 152 = some (.iconst 5, 1) := by decide +kernel
theorem dm_L_153 : mj_dec code 153 = some (.iadd, 1) := by decide +kernel
theorem dm_L_154 : mj_dec code 154 = some (.iaload, 1) := by decide +kernel
theorem dm_L_155 : mj_dec code 155 = some (.invokevirtual 17, 3) := by decide +kernel
theorem dm_L_158 : mj_dec code 158 = some (.if_icmp .eq 292, 3) := by decide +kernel
theorem dm_L_450 : mj_dec code 450 = some (.iinc 3 6, 3) := by decide +kernel
theorem dm_L_453 : mj_dec code 453 = some (.goto (-435), 3) := by decide +kernel
theorem dm_L_456 : mj_dec code 456 = some (.iconst 1, 1) := by decide +kernel
theorem dm_L_457 : mj_dec code 457 = some (.ireturn, 1) := by decide +kernel
theorem dm_L_163 : mj_dec code 163 = some (.aload_n 1, 1) := by decide +kernel
theorem dm_L_164 : mj_dec code 164 = some (.aload_n 0, 1) := by decide +kernel
theorem dm_L_165 : mj_dec code 165 = some (.iload_n 3, 1) := by decide +kernel
theorem dm_L_166 : mj_dec code 166 = some (.iconst 1, 1) := by decide +kernel
theorem dm_L_167 : mj_dec code 167 = some (.iadd, 1) := by decide +kernel
theorem dm_L_168 : mj_dec code 168 = some (.iaload, 1) := by decide +kernel
theorem dm_L_169 : mj_dec code 169 = some (.invokevirtual 18, 3) := by decide +kernel
theorem dm_L_172 : mj_dec code 172 = some (.aload_n 2, 1) := by decide +kernel
theorem dm_L_173 : mj_dec code 173 = some (.aload_n 0, 1) := by decide +kernel
theorem dm_L_174 : mj_dec code 174 = some (.iload_n 3, 1) := by decide +kernel
theorem dm_L_175 : mj_dec code 175 = some (.iconst 1, 1) := by decide +kernel
theorem dm_L_176 : mj_dec code 176 = some (.iadd, 1) := by decide +kernel
theorem dm_L_177 : mj_dec code 177 = some (.iaload, 1) := by decide +kernel
theorem dm_L_178 : mj_dec code 178 = some (.invokevirtual 22, 3) := by decide +kernel
theorem dm_L_181 : mj_dec code 181 = some (.if_icmp .eq 269, 3) := by decide +kernel
theorem dm_L_186 : mj_dec code 186 = some (.aload_n 1, 1) := by decide +kernel
theorem dm_L_187 : mj_dec code 187 = some (.aload_n 0, 1) := by decide +kernel
theorem dm_L_188 : mj_dec code 188 = some (.iload_n 3, 1) := by decide +kernel
theorem dm_L_189 : mj_dec code 189 = some (.iconst 1, 1) := by decide +kernel
theorem dm_L_190 : mj_dec code 190 = some (.iadd, 1) := by decide +kernel
theorem dm_L_191 : mj_dec code 191 = some (.iaload, 1) := by decide +kernel
theorem dm_L_192 : mj_dec code 192 = some (.invokevirtual 23, 3) := by decide +kernel
theorem dm_L_195 : mj_dec code 195 = some (.aload_n 2, 1) := by decide +kernel
theorem dm_L_196 : mj_dec code 196 = some (.aload_n 0, 1) := by decide +kernel
theorem dm_L_197 : mj_dec code 197 = some (.iload_n 3, 1) := by decide +kernel
theorem dm_L_198 : mj_dec code 198 = some (.iconst 1, 1) := by decide +kernel
theorem dm_L_199 : mj_dec code 199 = some (.iadd, 1) := by decide +kernel
theorem dm_L_200 : mj_dec code 200 = some (.iaload, 1) := by decide +kernel
theorem dm_L_201 : mj_dec code 201 = some (.invokevirtual 26, 3) := by decide +kernel
theorem dm_L_204 : mj_dec code 204 = some (.if_icmp .eq 246, 3) := by decide +kernel
theorem dm_L_209 : mj_dec code 209 = some (.aload_n 1, 1) := by decide +kernel
theorem dm_L_210 : mj_dec code 210 = some (.aload_n 0, 1) := by decide +kernel
theorem dm_L_211 : mj_dec code 211 = some (.iload_n 3, 1) := by decide +kernel
theorem dm_L_212 : mj_dec code 212 = some (.iconst 1, 1) := by decide +kernel
theorem dm_L_213 : mj_dec code 213 = some (.iadd, 1) := by decide +kernel
theorem dm_L_214 : mj_dec code 214 = some (.iaload, 1) := by decide +kernel
theorem dm_L_215 : mj_dec code 215 = some (.aload_n 0, 1) := by decide +kernel
theorem dm_L_216 : mj_dec code 216 = some (.iload_n 3, 1) := by decide +kernel
theorem dm_L_217 : mj_dec code 217 = some (.iconst 2, 1) := by decide +kernel
theorem dm_L_218 : mj_dec code 218 = some (.iadd, 1) := by decide +kernel
theorem dm_L_219 : mj_dec code 219 = some (.iaload, 1) := by decide +kernel
theorem dm_L_220 : mj_dec code 220 = some (.invokevirtual 27, 3) := by decide +kernel
theorem dm_L_223 : mj_dec code 223 = some (.aload_n 2, 1) := by decide +kernel
theorem dm_L_224 : mj_dec code 224 = some (.aload_n 0, 1) := by decide +kernel
theorem dm_L_225 : mj_dec code 225 = some (.iload_n 3, 1) := by decide +kernel
theorem dm_L_226 : mj_dec code 226 = some (.iconst 1, 1) := by decide +kernel
theorem dm_L_227 : mj_dec code 227 = some (.iadd, 1) := by decide +kernel
theorem dm_L_228 : mj_dec code 228 = some (.iaload, 1) := by decide +kernel
theorem dm_L_229 : mj_dec code 229 = some (.aload_n 0, 1) := by decide +kernel
theorem dm_L_230 : mj_dec code 230 = some (.iload_n 3, 1) := by decide +kernel
theorem dm_L_231 : mj_dec code 231 = some (.iconst 2, 1) := by decide +kernel
theorem dm_L_232 : mj_dec code 232 = some (.iadd, 1) := by decide +kernel
theorem dm_L_233 : mj_dec code 233 = some (.iaload, 1) := by decide +kernel
theorem dm_L_234 : mj_dec code 234 = some (.invokevirtual 31, 3) := by decide +kernel
theorem dm_L_237 : mj_dec code 237 = some (.if_icmp .eq 213, 3) := by decide +kernel
theorem dm_L_242 : mj_dec code 242 = some (.aload_n 1, 1) := by decide +kernel
theorem dm_L_243 : mj_dec code 243 = some (.invokevirtual 32, 3) := by decide +kernel
theorem dm_L_246 : mj_dec code 246 = some (.aload_n 2, 1) := by decide +kernel
theorem dm_L_247 : mj_dec code 247 = some (.invokevirtual 36, 3) := by decide +kernel
theorem dm_L_250 : mj_dec code 250 = some (.if_icmp .eq 200, 3) := by decide +kernel
theorem dm_L_255 : mj_dec code 255 = some (.aload_n 1, 1) := by decide +kernel
theorem dm_L_256 : mj_dec code 256 = some (.aload_n 0, 1) := by decide +kernel
theorem dm_L_257 : mj_dec code 257 = some (.iload_n 3, 1) := by decide +kernel
theorem dm_L_258 : mj_dec code 258 = some (.iconst 1, 1) := by decide +kernel
theorem dm_L_259 : mj_dec code 259 = some (.iadd, 1) := by decide +kernel
theorem dm_L_260 : mj_dec code 260 = some (.iaload, 1) := by decide +kernel
theorem dm_L_261 : mj_dec code 261 = some (.invokevirtual 37, 3) := by decide +kernel
theorem dm_L_264 : mj_dec code 264 = some (.aload_n 2, 1) := by decide +kernel
theorem dm_L_265 : mj_dec code 265 = some (.aload_n 0, 1) := by decide +kernel
theorem dm_L_266 : mj_dec code 266 = some (.iload_n 3, 1) := by decide +kernel
theorem dm_L_267 : mj_dec code 267 = some (.iconst 1, 1) := by decide +kernel
theorem dm_L_268 : mj_dec code 268 = some (.iadd, 1) := by decide +kernel
theorem dm_L_269 : mj_dec code 269 = some (.iaload, 1) := by decide +kernel
theorem dm_L_270 : mj_dec code 270 = some (.invokevirtual 40, 3) := by decide +kernel
theorem dm_L_273 : mj_dec code 273 = some (.if_icmp .eq 177, 3) := by decide +kernel
theorem dm_L_278 : mj_dec code 278 = some (.aload_n 1, 1) := by decide +kernel
theorem dm_L_279 : mj_dec code 279 = some (.aload_n 0, 1) := by decide +kernel
theorem dm_L_280 : mj_dec code 280 = some (.iload_n 3, 1) := by decide +kernel
theorem dm_L_281 : mj_dec code 281 = some (.iconst 1, 1) := by decide +kernel
theorem dm_L_282 : mj_dec code 282 = some (.iadd, 1) := by decide +kernel
theorem dm_L_283 : mj_dec code 283 = some (.iaload, 1) := by decide +kernel
theorem dm_L_284 : mj_dec code 284 = some (.invokevirtual 41, 3) := by decide +kernel
theorem dm_L_287 : mj_dec code 287 = some (.aload_n 2, 1) := by decide +kernel
theorem dm_L_288 : mj_dec code 288 = some (.aload_n 0, 1) := by decide +kernel
theorem dm_L_289 : mj_dec code 289 = some (.iload_n 3, 1) := by decide +kernel
theorem dm_L_290 : mj_dec code 290 = some (.iconst 1, 1) := by decide +kernel
theorem dm_L_291 : mj_dec code 291 = some (.iadd, 1) := by decide +kernel
theorem dm_L_292 : mj_dec code 292 = some (.iaload, 1) := by decide +kernel
theorem dm_L_293 : mj_dec code 293 = some (.invokevirtual 45, 3) := by decide +kernel
theorem dm_L_296 : mj_dec code 296 = some (.lcmp, 1) := by decide +kernel
theorem dm_L_297 : mj_dec code 297 = some (.ifCond .eq 153, 3) := by decide +kernel
theorem dm_L_302 : mj_dec code 302 = some (.aload_n 1, 1) := by decide +kernel
theorem dm_L_303 : mj_dec code 303 = some (.invokevirtual 46, 3) := by decide +kernel
theorem dm_L_306 : mj_dec code 306 = some (.aload_n 2, 1) := by decide +kernel
theorem dm_L_307 : mj_dec code 307 = some (.invokevirtual 49, 3) := by decide +kernel
theorem dm_L_310 : mj_dec code 310 = some (.if_icmp .eq 140, 3) := by decide +kernel
theorem dm_L_315 : mj_dec code 315 = some (.aload_n 1, 1) := by decide +kernel
theorem dm_L_316 : mj_dec code 316 = some (.aload_n 0, 1) := by decide +kernel
theorem dm_L_317 : mj_dec code 317 = some (.iload_n 3, 1) := by decide +kernel
theorem dm_L_318 : mj_dec code 318 = some (.iconst 1, 1) := by decide +kernel
theorem dm_L_319 : mj_dec code 319 = some (.iadd, 1) := by decide +kernel
theorem dm_L_320 : mj_dec code 320 = some (.iaload, 1) := by decide +kernel
theorem dm_L_321 : mj_dec code 321 = some (.invokevirtual 50, 3) := by decide +kernel
theorem dm_L_324 : mj_dec code 324 = some (.aload_n 2, 1) := by decide +kernel
theorem dm_L_325 : mj_dec code 325 = some (.aload_n 0, 1) := by decide +kernel
theorem dm_L_326 : mj_dec code 326 = some (.iload_n 3, 1) := by decide +kernel
theorem dm_L_327 : mj_dec code 327 = some (.iconst 1, 1) := by decide +kernel
theorem dm_L_328 : mj_dec code 328 = some (.iadd, 1) := by decide +kernel
theorem dm_L_329 : mj_dec code 329 = some (.iaload, 1) := by decide +kernel
theorem dm_L_330 : mj_dec code 330 = some (.invokevirtual 53, 3) := by decide +kernel
theorem dm_L_333 : mj_dec code 333 = some (.if_icmp .eq 117, 3) := by decide +kernel
theorem dm_L_338 : mj_dec code 338 = some (.aload_n 1, 1) := by decide +kernel
theorem dm_L_339 : mj_dec code 339 = some (.aload_n 0, 1) := by decide +kernel
theorem dm_L_340 : mj_dec code 340 = some (.iload_n 3, 1) := by decide +kernel
theorem dm_L_341 : mj_dec code 341 = some (.iconst 1, 1) := by decide +kernel
theorem dm_L_342 : mj_dec code 342 = some (.iadd, 1) := by decide +kernel
theorem dm_L_343 : mj_dec code 343 = some (.iaload, 1) := by decide +kernel
theorem dm_L_344 : mj_dec code 344 = some (.invokevirtual 54, 3) := by decide +kernel
theorem dm_L_347 : mj_dec code 347 = some (.aload_n 2, 1) := by decide +kernel
theorem dm_L_348 : mj_dec code 348 = some (.aload_n 0, 1) := by decide +kernel
theorem dm_L_349 : mj_dec code 349 = some (.iload_n 3, 1) := by decide +kernel
theorem dm_L_350 : mj_dec code 350 = some (.iconst 1, 1) := by decide +kernel
theorem dm_L_351 : mj_dec code 351 = some (.iadd, 1) := by decide +kernel
theorem dm_L_352 : mj_dec code 352 = some (.iaload, 1) := by decide +kernel
theorem dm_L_353 : mj_dec code 353 = some (.invokevirtual 58, 3) := by decide +kernel
theorem dm_L_356 : mj_dec code 356 = some (.if_icmp .eq 94, 3) := by decide +kernel
theorem dm_L_361 : mj_dec code 361 = some (.aload_n 1, 1) := by decide +kernel
theorem dm_L_362 : mj_dec code 362 = some (.aload_n 0, 1) := by decide +kernel
theorem dm_L_363 : mj_dec code 363 = some (.iload_n 3, 1) := by decide +kernel
theorem dm_L_364 : mj_dec code 364 = some (.iconst 1, 1) := by decide +kernel
theorem dm_L_365 : mj_dec code 365 = some (.iadd, 1) := by decide +kernel
theorem dm_L_366 : mj_dec code 366 = some (.iaload, 1) := by decide +kernel
theorem dm_L_367 : mj_dec code 367 = some (.invokevirtual 59, 3) := by decide +kernel
theorem dm_L_370 : mj_dec code 370 = some (.aload_n 2, 1) := by decide +kernel
theorem dm_L_371 : mj_dec code 371 = some (.aload_n 0, 1) := by decide +kernel
theorem dm_L_372 : mj_dec code 372 = some (.iload_n 3, 1) := by decide +kernel
theorem dm_L_373 : mj_dec code 373 = some (.iconst 1, 1) := by decide +kernel
theorem dm_L_374 : mj_dec code 374 = some (.iadd, 1) := by decide +kernel
theorem dm_L_375 : mj_dec code 375 = some (.iaload, 1) := by decide +kernel
theorem dm_L_376 : mj_dec code 376 = some (.invokevirtual 62, 3) := by decide +kernel
theorem dm_L_379 : mj_dec code 379 = some (.if_icmp .eq 71, 3) := by decide +kernel
theorem dm_L_384 : mj_dec code 384 = some (.aload_n 1, 1) := by decide +kernel
theorem dm_L_385 : mj_dec code 385 = some (.aload_n 0, 1) := by decide +kernel
theorem dm_L_386 : mj_dec code 386 = some (.iload_n 3, 1) := by decide +kernel
theorem dm_L_387 : mj_dec code 387 = some (.iconst 1, 1) := by decide +kernel
theorem dm_L_388 : mj_dec code 388 = some (.iadd, 1) := by decide +kernel
theorem dm_L_389 : mj_dec code 389 = some (.iaload, 1) := by decide +kernel
theorem dm_L_390 : mj_dec code 390 = some (.invokevirtual 63, 3) := by decide +kernel
theorem dm_L_393 : mj_dec code 393 = some (.aload_n 2, 1) := by decide +kernel
theorem dm_L_394 : mj_dec code 394 = some (.aload_n 0, 1) := by decide +kernel
theorem dm_L_395 : mj_dec code 395 = some (.iload_n 3, 1) := by decide +kernel
theorem dm_L_396 : mj_dec code 396 = some (.iconst 1, 1) := by decide +kernel
theorem dm_L_397 : mj_dec code 397 = some (.iadd, 1) := by decide +kernel
theorem dm_L_398 : mj_dec code 398 = some (.iaload, 1) := by decide +kernel
theorem dm_L_399 : mj_dec code 399 = some (.invokevirtual 66, 3) := by decide +kernel
theorem dm_L_402 : mj_dec code 402 = some (.if_icmp .eq 48, 3) := by decide +kernel
theorem dm_L_407 : mj_dec code 407 = some (.aload_n 1, 1) := by decide +kernel
theorem dm_L_408 : mj_dec code 408 = some (.aload_n 0, 1) := by decide +kernel
theorem dm_L_409 : mj_dec code 409 = some (.iload_n 3, 1) := by decide +kernel
theorem dm_L_410 : mj_dec code 410 = some (.iconst 1, 1) := by decide +kernel
theorem dm_L_411 : mj_dec code 411 = some (.iadd, 1) := by decide +kernel
theorem dm_L_412 : mj_dec code 412 = some (.iaload, 1) := by decide +kernel
theorem dm_L_413 : mj_dec code 413 = some (.aload_n 0, 1) := by decide +kernel
theorem dm_L_414 : mj_dec code 414 = some (.iload_n 3, 1) := by decide +kernel
theorem dm_L_415 : mj_dec code 415 = some (.iconst 2, 1) := by decide +kernel
theorem dm_L_416 : mj_dec code 416 = some (.iadd, 1) := by decide +kernel
theorem dm_L_417 : mj_dec code 417 = some (.iaload, 1) := by decide +kernel
theorem dm_L_418 : mj_dec code 418 = some (.aload_n 0, 1) := by decide +kernel
theorem dm_L_419 : mj_dec code 419 = some (.iload_n 3, 1) := by decide +kernel
theorem dm_L_420 : mj_dec code 420 = some (.iconst 3, 1) := by decide +kernel
theorem dm_L_421 : mj_dec code 421 = some (.iadd, 1) := by decide +kernel
theorem dm_L_422 : mj_dec code 422 = some (.iaload, 1) := by decide +kernel
theorem dm_L_423 : mj_dec code 423 = some (.invokevirtual 67, 3) := by decide +kernel
theorem dm_L_426 : mj_dec code 426 = some (.aload_n 2, 1) := by decide +kernel
theorem dm_L_427 : mj_dec code 427 = some (.aload_n 0, 1) := by decide +kernel
theorem dm_L_428 : mj_dec code 428 = some (.iload_n 3, 1) := by decide +kernel
theorem dm_L_429 : mj_dec code 429 = some (.iconst 1, 1) := by decide +kernel
theorem dm_L_430 : mj_dec code 430 = some (.iadd, 1) := by decide +kernel
theorem dm_L_431 : mj_dec code 431 = some (.iaload, 1) := by decide +kernel
theorem dm_L_432 : mj_dec code 432 = some (.aload_n 0, 1) := by decide +kernel
theorem dm_L_433 : mj_dec code 433 = some (.iload_n 3, 1) := by decide +kernel
theorem dm_L_434 : mj_dec code 434 = some (.iconst 2, 1) := by decide +kernel
theorem dm_L_435 : mj_dec code 435 = some (.iadd, 1) := by decide +kernel
theorem dm_L_436 : mj_dec code 436 = some (.iaload, 1) := by decide +kernel
theorem dm_L_437 : mj_dec code 437 = some (.aload_n 0, 1) := by decide +kernel
theorem dm_L_438 : mj_dec code 438 = some (.iload_n 3, 1) := by decide +kernel
theorem dm_L_439 : mj_dec code 439 = some (.iconst 3, 1) := by decide +kernel
theorem dm_L_440 : mj_dec code 440 = some (.iadd, 1) := by decide +kernel
theorem dm_L_441 : mj_dec code 441 = some (.iaload, 1) := by decide +kernel
theorem dm_L_442 : mj_dec code 442 = some (.invokevirtual 71, 3) := by decide +kernel
theorem dm_L_445 : mj_dec code 445 = some (.if_icmp .eq 5, 3) := by decide +kernel
