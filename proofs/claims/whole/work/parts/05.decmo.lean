abbrev zb_MO_init : ByteArray := prog_9_method_1_code
def zy_MO_init : MethodName := ⟨"PortTranslatorModel", "<init>", "()V"⟩
theorem zd_MO_init_0 : decode zb_MO_init 0 = .ok (.aload_n 0, 1) := by decide +kernel
theorem zd_MO_init_1 : decode zb_MO_init 1 = .ok (.invokespecial 1, 3) := by decide +kernel
theorem zd_MO_init_4 : decode zb_MO_init 4 = .ok (.aload_n 0, 1) := by decide +kernel
theorem zd_MO_init_5 : decode zb_MO_init 5 = .ok (.bipush 48, 2) := by decide +kernel
theorem zd_MO_init_7 : decode zb_MO_init 7 = .ok (.newarray .int, 2) := by decide +kernel
theorem zd_MO_init_9 : decode zb_MO_init 9 = .ok (.putfield 7, 3) := by decide +kernel
theorem zd_MO_init_12 : decode zb_MO_init 12 = .ok (.aload_n 0, 1) := by decide +kernel
theorem zd_MO_init_13 : decode zb_MO_init 13 = .ok (.bipush 48, 2) := by decide +kernel
theorem zd_MO_init_15 : decode zb_MO_init 15 = .ok (.newarray .int, 2) := by decide +kernel
theorem zd_MO_init_17 : decode zb_MO_init 17 = .ok (.putfield 13, 3) := by decide +kernel
theorem zd_MO_init_20 : decode zb_MO_init 20 = .ok (.aload_n 0, 1) := by decide +kernel
theorem zd_MO_init_21 : decode zb_MO_init 21 = .ok (.iconst 4, 1) := by decide +kernel
theorem zd_MO_init_22 : decode zb_MO_init 22 = .ok (.newarray .int, 2) := by decide +kernel
theorem zd_MO_init_24 : decode zb_MO_init 24 = .ok (.putfield 16, 3) := by decide +kernel
theorem zd_MO_init_27 : decode zb_MO_init 27 = .ok (.aload_n 0, 1) := by decide +kernel
theorem zd_MO_init_28 : decode zb_MO_init 28 = .ok (.iconst 4, 1) := by decide +kernel
theorem zd_MO_init_29 : decode zb_MO_init 29 = .ok (.newarray .int, 2) := by decide +kernel
theorem zd_MO_init_31 : decode zb_MO_init 31 = .ok (.putfield 19, 3) := by decide +kernel
theorem zd_MO_init_34 : decode zb_MO_init 34 = .ok (.aload_n 0, 1) := by decide +kernel
theorem zd_MO_init_35 : decode zb_MO_init 35 = .ok (.iconst 4, 1) := by decide +kernel
theorem zd_MO_init_36 : decode zb_MO_init 36 = .ok (.newarray .int, 2) := by decide +kernel
theorem zd_MO_init_38 : decode zb_MO_init 38 = .ok (.putfield 22, 3) := by decide +kernel
theorem zd_MO_init_41 : decode zb_MO_init 41 = .ok (.aload_n 0, 1) := by decide +kernel
theorem zd_MO_init_42 : decode zb_MO_init 42 = .ok (.iconst 4, 1) := by decide +kernel
theorem zd_MO_init_43 : decode zb_MO_init 43 = .ok (.newarray .boolean, 2) := by decide +kernel
theorem zd_MO_init_45 : decode zb_MO_init 45 = .ok (.putfield 25, 3) := by decide +kernel
theorem zd_MO_init_48 : decode zb_MO_init 48 = .ok (.aload_n 0, 1) := by decide +kernel
theorem zd_MO_init_49 : decode zb_MO_init 49 = .ok (.bipush 12, 2) := by decide +kernel
theorem zd_MO_init_51 : decode zb_MO_init 51 = .ok (.newarray .int, 2) := by decide +kernel
theorem zd_MO_init_53 : decode zb_MO_init 53 = .ok (.putfield 29, 3) := by decide +kernel
theorem zd_MO_init_56 : decode zb_MO_init 56 = .ok (.aload_n 0, 1) := by decide +kernel
theorem zd_MO_init_57 : decode zb_MO_init 57 = .ok (.bipush 12, 2) := by decide +kernel
theorem zd_MO_init_59 : decode zb_MO_init 59 = .ok (.newarray .int, 2) := by decide +kernel
theorem zd_MO_init_61 : decode zb_MO_init 61 = .ok (.putfield 32, 3) := by decide +kernel
theorem zd_MO_init_64 : decode zb_MO_init 64 = .ok (.aload_n 0, 1) := by decide +kernel
theorem zd_MO_init_65 : decode zb_MO_init 65 = .ok (.bipush 12, 2) := by decide +kernel
theorem zd_MO_init_67 : decode zb_MO_init 67 = .ok (.newarray .int, 2) := by decide +kernel
theorem zd_MO_init_69 : decode zb_MO_init 69 = .ok (.putfield 35, 3) := by decide +kernel
theorem zd_MO_init_72 : decode zb_MO_init 72 = .ok (.aload_n 0, 1) := by decide +kernel
theorem zd_MO_init_73 : decode zb_MO_init 73 = .ok (.bipush 12, 2) := by decide +kernel
theorem zd_MO_init_75 : decode zb_MO_init 75 = .ok (.newarray .int, 2) := by decide +kernel
theorem zd_MO_init_77 : decode zb_MO_init 77 = .ok (.putfield 38, 3) := by decide +kernel
theorem zd_MO_init_80 : decode zb_MO_init 80 = .ok (.aload_n 0, 1) := by decide +kernel
theorem zd_MO_init_81 : decode zb_MO_init 81 = .ok (.bipush 12, 2) := by decide +kernel
theorem zd_MO_init_83 : decode zb_MO_init 83 = .ok (.newarray .int, 2) := by decide +kernel
theorem zd_MO_init_85 : decode zb_MO_init 85 = .ok (.putfield 41, 3) := by decide +kernel
theorem zd_MO_init_88 : decode zb_MO_init 88 = .ok (.aload_n 0, 1) := by decide +kernel
theorem zd_MO_init_89 : decode zb_MO_init 89 = .ok (.bipush 12, 2) := by decide +kernel
theorem zd_MO_init_91 : decode zb_MO_init 91 = .ok (.newarray .int, 2) := by decide +kernel
theorem zd_MO_init_93 : decode zb_MO_init 93 = .ok (.putfield 44, 3) := by decide +kernel
theorem zd_MO_init_96 : decode zb_MO_init 96 = .ok (.aload_n 0, 1) := by decide +kernel
theorem zd_MO_init_97 : decode zb_MO_init 97 = .ok (.bipush 12, 2) := by decide +kernel
theorem zd_MO_init_99 : decode zb_MO_init 99 = .ok (.newarray .int, 2) := by decide +kernel
theorem zd_MO_init_101 : decode zb_MO_init 101 = .ok (.putfield 47, 3) := by decide +kernel
theorem zd_MO_init_104 : decode zb_MO_init 104 = .ok (.aload_n 0, 1) := by decide +kernel
theorem zd_MO_init_105 : decode zb_MO_init 105 = .ok (.bipush 12, 2) := by decide +kernel
theorem zd_MO_init_107 : decode zb_MO_init 107 = .ok (.newarray .int, 2) := by decide +kernel
theorem zd_MO_init_109 : decode zb_MO_init 109 = .ok (.putfield 50, 3) := by decide +kernel
theorem zd_MO_init_112 : decode zb_MO_init 112 = .ok (.iconst 0, 1) := by decide +kernel
theorem zd_MO_init_113 : decode zb_MO_init 113 = .ok (.istore_n 1, 1) := by decide +kernel
theorem zd_MO_init_114 : decode zb_MO_init 114 = .ok (.iload_n 1, 1) := by decide +kernel
theorem zd_MO_init_115 : decode zb_MO_init 115 = .ok (.iconst 4, 1) := by decide +kernel
theorem zd_MO_init_116 : decode zb_MO_init 116 = .ok (.if_icmp .ge 16, 3) := by decide +kernel
theorem zd_MO_init_119 : decode zb_MO_init 119 = .ok (.aload_n 0, 1) := by decide +kernel
theorem zd_MO_init_120 : decode zb_MO_init 120 = .ok (.getfield 16, 3) := by decide +kernel
theorem zd_MO_init_123 : decode zb_MO_init 123 = .ok (.iload_n 1, 1) := by decide +kernel
theorem zd_MO_init_124 : decode zb_MO_init 124 = .ok (.iconst (-1), 1) := by decide +kernel
theorem zd_MO_init_125 : decode zb_MO_init 125 = .ok (.iastore, 1) := by decide +kernel
theorem zd_MO_init_126 : decode zb_MO_init 126 = .ok (.iinc 1 1, 3) := by decide +kernel
theorem zd_MO_init_129 : decode zb_MO_init 129 = .ok (.goto (-15), 3) := by decide +kernel
theorem zd_MO_init_132 : decode zb_MO_init 132 = .ok (.return_, 1) := by decide +kernel
abbrev zb_MO_thrown : ByteArray := prog_9_method_2_code
def zy_MO_thrown : MethodName := ⟨"PortTranslatorModel", "thrown", "()I"⟩
theorem zd_MO_thrown_0 : decode zb_MO_thrown 0 = .ok (.aload_n 0, 1) := by decide +kernel
theorem zd_MO_thrown_1 : decode zb_MO_thrown 1 = .ok (.getfield 53, 3) := by decide +kernel
theorem zd_MO_thrown_4 : decode zb_MO_thrown 4 = .ok (.ireturn, 1) := by decide +kernel
abbrev zb_MO_put : ByteArray := prog_9_method_3_code
def zy_MO_put : MethodName := ⟨"PortTranslatorModel", "put", "(IJ)Z"⟩
theorem zd_MO_put_0 : decode zb_MO_put 0 = .ok (.aload_n 0, 1) := by decide +kernel
theorem zd_MO_put_1 : decode zb_MO_put 1 = .ok (.iconst 0, 1) := by decide +kernel
theorem zd_MO_put_2 : decode zb_MO_put 2 = .ok (.putfield 53, 3) := by decide +kernel
theorem zd_MO_put_5 : decode zb_MO_put 5 = .ok (.iload_n 1, 1) := by decide +kernel
theorem zd_MO_put_6 : decode zb_MO_put 6 = .ok (.iconst 1, 1) := by decide +kernel
theorem zd_MO_put_7 : decode zb_MO_put 7 = .ok (.if_icmp .lt 19, 3) := by decide +kernel
theorem zd_MO_put_10 : decode zb_MO_put 10 = .ok (.iload_n 1, 1) := by decide +kernel
theorem zd_MO_put_11 : decode zb_MO_put 11 = .ok (.iconst 4, 1) := by decide +kernel
theorem zd_MO_put_12 : decode zb_MO_put 12 = .ok (.if_icmp .gt 14, 3) := by decide +kernel
theorem zd_MO_put_15 : decode zb_MO_put 15 = .ok (.aload_n 0, 1) := by decide +kernel
theorem zd_MO_put_16 : decode zb_MO_put 16 = .ok (.getfield 57, 3) := by decide +kernel
theorem zd_MO_put_19 : decode zb_MO_put 19 = .ok (.iload_n 1, 1) := by decide +kernel
theorem zd_MO_put_20 : decode zb_MO_put 20 = .ok (.iadd, 1) := by decide +kernel
theorem zd_MO_put_21 : decode zb_MO_put 21 = .ok (.bipush 48, 2) := by decide +kernel
theorem zd_MO_put_23 : decode zb_MO_put 23 = .ok (.if_icmp .le 5, 3) := by decide +kernel
theorem zd_MO_put_26 : decode zb_MO_put 26 = .ok (.iconst 0, 1) := by decide +kernel
theorem zd_MO_put_27 : decode zb_MO_put 27 = .ok (.ireturn, 1) := by decide +kernel
theorem zd_MO_put_28 : decode zb_MO_put 28 = .ok (.iload_n 1, 1) := by decide +kernel
theorem zd_MO_put_29 : decode zb_MO_put 29 = .ok (.iconst 1, 1) := by decide +kernel
theorem zd_MO_put_30 : decode zb_MO_put 30 = .ok (.isub, 1) := by decide +kernel
theorem zd_MO_put_31 : decode zb_MO_put 31 = .ok (.istore 4, 2) := by decide +kernel
theorem zd_MO_put_33 : decode zb_MO_put 33 = .ok (.iload 4, 2) := by decide +kernel
theorem zd_MO_put_35 : decode zb_MO_put 35 = .ok (.ifCond .lt 40, 3) := by decide +kernel
theorem zd_MO_put_38 : decode zb_MO_put 38 = .ok (.aload_n 0, 1) := by decide +kernel
theorem zd_MO_put_39 : decode zb_MO_put 39 = .ok (.getfield 7, 3) := by decide +kernel
theorem zd_MO_put_42 : decode zb_MO_put 42 = .ok (.aload_n 0, 1) := by decide +kernel
theorem zd_MO_put_43 : decode zb_MO_put 43 = .ok (.getfield 57, 3) := by decide +kernel
theorem zd_MO_put_46 : decode zb_MO_put 46 = .ok (.lload_n 2, 1) := by decide +kernel
theorem zd_MO_put_47 : decode zb_MO_put 47 = .ok (.bipush 16, 2) := by decide +kernel
theorem zd_MO_put_49 : decode zb_MO_put 49 = .ok (.iload 4, 2) := by decide +kernel
theorem zd_MO_put_51 : decode zb_MO_put 51 = .ok (.imul, 1) := by decide +kernel
theorem zd_MO_put_52 : decode zb_MO_put 52 = .ok (.lshr, 1) := by decide +kernel
theorem zd_MO_put_53 : decode zb_MO_put 53 = .ok (.ldc2_w 60, 3) := by decide +kernel
theorem zd_MO_put_56 : decode zb_MO_put 56 = .ok (.land, 1) := by decide +kernel
theorem zd_MO_put_57 : decode zb_MO_put 57 = .ok (.l2i, 1) := by decide +kernel
theorem zd_MO_put_58 : decode zb_MO_put 58 = .ok (.iastore, 1) := by decide +kernel
theorem zd_MO_put_59 : decode zb_MO_put 59 = .ok (.aload_n 0, 1) := by decide +kernel
theorem zd_MO_put_60 : decode zb_MO_put 60 = .ok (.dup, 1) := by decide +kernel
theorem zd_MO_put_61 : decode zb_MO_put 61 = .ok (.getfield 57, 3) := by decide +kernel
theorem zd_MO_put_64 : decode zb_MO_put 64 = .ok (.iconst 1, 1) := by decide +kernel
theorem zd_MO_put_65 : decode zb_MO_put 65 = .ok (.iadd, 1) := by decide +kernel
theorem zd_MO_put_66 : decode zb_MO_put 66 = .ok (.putfield 57, 3) := by decide +kernel
theorem zd_MO_put_69 : decode zb_MO_put 69 = .ok (.iinc 4 (-1), 3) := by decide +kernel
theorem zd_MO_put_72 : decode zb_MO_put 72 = .ok (.goto (-39), 3) := by decide +kernel
theorem zd_MO_put_75 : decode zb_MO_put 75 = .ok (.iconst 1, 1) := by decide +kernel
theorem zd_MO_put_76 : decode zb_MO_put 76 = .ok (.ireturn, 1) := by decide +kernel
abbrev zb_MO_scrap : ByteArray := prog_9_method_4_code
def zy_MO_scrap : MethodName := ⟨"PortTranslatorModel", "scrap", "()V"⟩
theorem zd_MO_scrap_0 : decode zb_MO_scrap 0 = .ok (.aload_n 0, 1) := by decide +kernel
theorem zd_MO_scrap_1 : decode zb_MO_scrap 1 = .ok (.iconst 0, 1) := by decide +kernel
theorem zd_MO_scrap_2 : decode zb_MO_scrap 2 = .ok (.putfield 53, 3) := by decide +kernel
theorem zd_MO_scrap_5 : decode zb_MO_scrap 5 = .ok (.aload_n 0, 1) := by decide +kernel
theorem zd_MO_scrap_6 : decode zb_MO_scrap 6 = .ok (.iconst 0, 1) := by decide +kernel
theorem zd_MO_scrap_7 : decode zb_MO_scrap 7 = .ok (.putfield 57, 3) := by decide +kernel
theorem zd_MO_scrap_10 : decode zb_MO_scrap 10 = .ok (.return_, 1) := by decide +kernel
abbrev zb_MO_fold : ByteArray := prog_9_method_5_code
def zy_MO_fold : MethodName := ⟨"PortTranslatorModel", "fold", "(I)I"⟩
theorem zd_MO_fold_0 : decode zb_MO_fold 0 = .ok (.iload_n 0, 1) := by decide +kernel
theorem zd_MO_fold_1 : decode zb_MO_fold 1 = .ok (.istore_n 1, 1) := by decide +kernel
theorem zd_MO_fold_2 : decode zb_MO_fold 2 = .ok (.iload_n 1, 1) := by decide +kernel
theorem zd_MO_fold_3 : decode zb_MO_fold 3 = .ok (.ldc 62, 2) := by decide +kernel
theorem zd_MO_fold_5 : decode zb_MO_fold 5 = .ok (.if_icmp .le 16, 3) := by decide +kernel
theorem zd_MO_fold_8 : decode zb_MO_fold 8 = .ok (.iload_n 1, 1) := by decide +kernel
theorem zd_MO_fold_9 : decode zb_MO_fold 9 = .ok (.ldc 63, 2) := by decide +kernel
theorem zd_MO_fold_11 : decode zb_MO_fold 11 = .ok (.irem, 1) := by decide +kernel
theorem zd_MO_fold_12 : decode zb_MO_fold 12 = .ok (.iload_n 1, 1) := by decide +kernel
theorem zd_MO_fold_13 : decode zb_MO_fold 13 = .ok (.ldc 63, 2) := by decide +kernel
theorem zd_MO_fold_15 : decode zb_MO_fold 15 = .ok (.idiv, 1) := by decide +kernel
theorem zd_MO_fold_16 : decode zb_MO_fold 16 = .ok (.iadd, 1) := by decide +kernel
theorem zd_MO_fold_17 : decode zb_MO_fold 17 = .ok (.istore_n 1, 1) := by decide +kernel
theorem zd_MO_fold_18 : decode zb_MO_fold 18 = .ok (.goto (-16), 3) := by decide +kernel
theorem zd_MO_fold_21 : decode zb_MO_fold 21 = .ok (.iload_n 1, 1) := by decide +kernel
theorem zd_MO_fold_22 : decode zb_MO_fold 22 = .ok (.ireturn, 1) := by decide +kernel
abbrev zb_MO_total : ByteArray := prog_9_method_6_code
def zy_MO_total : MethodName := ⟨"PortTranslatorModel", "total", "(II)I"⟩
theorem zd_MO_total_0 : decode zb_MO_total 0 = .ok (.iconst 0, 1) := by decide +kernel
theorem zd_MO_total_1 : decode zb_MO_total 1 = .ok (.istore_n 3, 1) := by decide +kernel
theorem zd_MO_total_2 : decode zb_MO_total 2 = .ok (.iload_n 1, 1) := by decide +kernel
theorem zd_MO_total_3 : decode zb_MO_total 3 = .ok (.istore 4, 2) := by decide +kernel
theorem zd_MO_total_5 : decode zb_MO_total 5 = .ok (.iload 4, 2) := by decide +kernel
theorem zd_MO_total_7 : decode zb_MO_total 7 = .ok (.iload_n 2, 1) := by decide +kernel
theorem zd_MO_total_8 : decode zb_MO_total 8 = .ok (.if_icmp .ge 19, 3) := by decide +kernel
theorem zd_MO_total_11 : decode zb_MO_total 11 = .ok (.iload_n 3, 1) := by decide +kernel
theorem zd_MO_total_12 : decode zb_MO_total 12 = .ok (.aload_n 0, 1) := by decide +kernel
theorem zd_MO_total_13 : decode zb_MO_total 13 = .ok (.getfield 7, 3) := by decide +kernel
theorem zd_MO_total_16 : decode zb_MO_total 16 = .ok (.iload 4, 2) := by decide +kernel
theorem zd_MO_total_18 : decode zb_MO_total 18 = .ok (.iaload, 1) := by decide +kernel
theorem zd_MO_total_19 : decode zb_MO_total 19 = .ok (.iadd, 1) := by decide +kernel
theorem zd_MO_total_20 : decode zb_MO_total 20 = .ok (.istore_n 3, 1) := by decide +kernel
theorem zd_MO_total_21 : decode zb_MO_total 21 = .ok (.iinc 4 1, 3) := by decide +kernel
theorem zd_MO_total_24 : decode zb_MO_total 24 = .ok (.goto (-19), 3) := by decide +kernel
theorem zd_MO_total_27 : decode zb_MO_total 27 = .ok (.iload_n 3, 1) := by decide +kernel
theorem zd_MO_total_28 : decode zb_MO_total 28 = .ok (.ireturn, 1) := by decide +kernel
abbrev zb_MO_bodyTotal : ByteArray := prog_9_method_7_code
def zy_MO_bodyTotal : MethodName := ⟨"PortTranslatorModel", "bodyTotal", "(I)I"⟩
theorem zd_MO_bodyTotal_0 : decode zb_MO_bodyTotal 0 = .ok (.aload_n 0, 1) := by decide +kernel
theorem zd_MO_bodyTotal_1 : decode zb_MO_bodyTotal 1 = .ok (.bipush 10, 2) := by decide +kernel
theorem zd_MO_bodyTotal_3 : decode zb_MO_bodyTotal 3 = .ok (.aload_n 0, 1) := by decide +kernel
theorem zd_MO_bodyTotal_4 : decode zb_MO_bodyTotal 4 = .ok (.getfield 57, 3) := by decide +kernel
theorem zd_MO_bodyTotal_7 : decode zb_MO_bodyTotal 7 = .ok (.invokevirtual 64, 3) := by decide +kernel
theorem zd_MO_bodyTotal_10 : decode zb_MO_bodyTotal 10 = .ok (.istore_n 2, 1) := by decide +kernel
theorem zd_MO_bodyTotal_11 : decode zb_MO_bodyTotal 11 = .ok (.iload_n 1, 1) := by decide +kernel
theorem zd_MO_bodyTotal_12 : decode zb_MO_bodyTotal 12 = .ok (.iconst 1, 1) := by decide +kernel
theorem zd_MO_bodyTotal_13 : decode zb_MO_bodyTotal 13 = .ok (.if_icmp .ne 7, 3) := by decide +kernel
theorem zd_MO_bodyTotal_16 : decode zb_MO_bodyTotal 16 = .ok (.iload_n 2, 1) := by decide +kernel
theorem zd_MO_bodyTotal_17 : decode zb_MO_bodyTotal 17 = .ok (.goto 25, 3) := by decide +kernel
theorem zd_MO_bodyTotal_20 : decode zb_MO_bodyTotal 20 = .ok (.iload_n 2, 1) := by decide +kernel
theorem zd_MO_bodyTotal_21 : decode zb_MO_bodyTotal 21 = .ok (.aload_n 0, 1) := by decide +kernel
theorem zd_MO_bodyTotal_22 : decode zb_MO_bodyTotal 22 = .ok (.bipush 6, 2) := by decide +kernel
theorem zd_MO_bodyTotal_24 : decode zb_MO_bodyTotal 24 = .ok (.bipush 10, 2) := by decide +kernel
theorem zd_MO_bodyTotal_26 : decode zb_MO_bodyTotal 26 = .ok (.invokevirtual 64, 3) := by decide +kernel
theorem zd_MO_bodyTotal_29 : decode zb_MO_bodyTotal 29 = .ok (.iadd, 1) := by decide +kernel
theorem zd_MO_bodyTotal_30 : decode zb_MO_bodyTotal 30 = .ok (.iload_n 1, 1) := by decide +kernel
theorem zd_MO_bodyTotal_31 : decode zb_MO_bodyTotal 31 = .ok (.iadd, 1) := by decide +kernel
theorem zd_MO_bodyTotal_32 : decode zb_MO_bodyTotal 32 = .ok (.iconst 2, 1) := by decide +kernel
theorem zd_MO_bodyTotal_33 : decode zb_MO_bodyTotal 33 = .ok (.aload_n 0, 1) := by decide +kernel
theorem zd_MO_bodyTotal_34 : decode zb_MO_bodyTotal 34 = .ok (.getfield 57, 3) := by decide +kernel
theorem zd_MO_bodyTotal_37 : decode zb_MO_bodyTotal 37 = .ok (.bipush 10, 2) := by decide +kernel
theorem zd_MO_bodyTotal_39 : decode zb_MO_bodyTotal 39 = .ok (.isub, 1) := by decide +kernel
theorem zd_MO_bodyTotal_40 : decode zb_MO_bodyTotal 40 = .ok (.imul, 1) := by decide +kernel
theorem zd_MO_bodyTotal_41 : decode zb_MO_bodyTotal 41 = .ok (.iadd, 1) := by decide +kernel
theorem zd_MO_bodyTotal_42 : decode zb_MO_bodyTotal 42 = .ok (.ireturn, 1) := by decide +kernel
abbrev zb_MO_isKind : ByteArray := prog_9_method_8_code
def zy_MO_isKind : MethodName := ⟨"PortTranslatorModel", "isKind", "(I)Z"⟩
theorem zd_MO_isKind_0 : decode zb_MO_isKind 0 = .ok (.iload_n 0, 1) := by decide +kernel
theorem zd_MO_isKind_1 : decode zb_MO_isKind 1 = .ok (.bipush 6, 2) := by decide +kernel
theorem zd_MO_isKind_3 : decode zb_MO_isKind 3 = .ok (.if_icmp .eq 14, 3) := by decide +kernel
theorem zd_MO_isKind_6 : decode zb_MO_isKind 6 = .ok (.iload_n 0, 1) := by decide +kernel
theorem zd_MO_isKind_7 : decode zb_MO_isKind 7 = .ok (.bipush 17, 2) := by decide +kernel
theorem zd_MO_isKind_9 : decode zb_MO_isKind 9 = .ok (.if_icmp .eq 8, 3) := by decide +kernel
theorem zd_MO_isKind_12 : decode zb_MO_isKind 12 = .ok (.iload_n 0, 1) := by decide +kernel
theorem zd_MO_isKind_13 : decode zb_MO_isKind 13 = .ok (.iconst 1, 1) := by decide +kernel
theorem zd_MO_isKind_14 : decode zb_MO_isKind 14 = .ok (.if_icmp .ne 7, 3) := by decide +kernel
theorem zd_MO_isKind_17 : decode zb_MO_isKind 17 = .ok (.iconst 1, 1) := by decide +kernel
theorem zd_MO_isKind_18 : decode zb_MO_isKind 18 = .ok (.goto 4, 3) := by decide +kernel
theorem zd_MO_isKind_21 : decode zb_MO_isKind 21 = .ok (.iconst 0, 1) := by decide +kernel
theorem zd_MO_isKind_22 : decode zb_MO_isKind 22 = .ok (.ireturn, 1) := by decide +kernel
abbrev zb_MO_isError : ByteArray := prog_9_method_9_code
def zy_MO_isError : MethodName := ⟨"PortTranslatorModel", "isError", "()Z"⟩
theorem zd_MO_isError_0 : decode zb_MO_isError 0 = .ok (.aload_n 0, 1) := by decide +kernel
theorem zd_MO_isError_1 : decode zb_MO_isError 1 = .ok (.getfield 7, 3) := by decide +kernel
theorem zd_MO_isError_4 : decode zb_MO_isError 4 = .ok (.iconst 4, 1) := by decide +kernel
theorem zd_MO_isError_5 : decode zb_MO_isError 5 = .ok (.iaload, 1) := by decide +kernel
theorem zd_MO_isError_6 : decode zb_MO_isError 6 = .ok (.sipush 255, 3) := by decide +kernel
theorem zd_MO_isError_9 : decode zb_MO_isError 9 = .ok (.iand, 1) := by decide +kernel
theorem zd_MO_isError_10 : decode zb_MO_isError 10 = .ok (.iconst 1, 1) := by decide +kernel
theorem zd_MO_isError_11 : decode zb_MO_isError 11 = .ok (.if_icmp .ne 38, 3) := by decide +kernel
theorem zd_MO_isError_14 : decode zb_MO_isError 14 = .ok (.aload_n 0, 1) := by decide +kernel
theorem zd_MO_isError_15 : decode zb_MO_isError 15 = .ok (.getfield 7, 3) := by decide +kernel
theorem zd_MO_isError_18 : decode zb_MO_isError 18 = .ok (.bipush 10, 2) := by decide +kernel
theorem zd_MO_isError_20 : decode zb_MO_isError 20 = .ok (.iaload, 1) := by decide +kernel
theorem zd_MO_isError_21 : decode zb_MO_isError 21 = .ok (.sipush 256, 3) := by decide +kernel
theorem zd_MO_isError_24 : decode zb_MO_isError 24 = .ok (.idiv, 1) := by decide +kernel
theorem zd_MO_isError_25 : decode zb_MO_isError 25 = .ok (.iconst 3, 1) := by decide +kernel
theorem zd_MO_isError_26 : decode zb_MO_isError 26 = .ok (.if_icmp .eq 19, 3) := by decide +kernel
theorem zd_MO_isError_29 : decode zb_MO_isError 29 = .ok (.aload_n 0, 1) := by decide +kernel
theorem zd_MO_isError_30 : decode zb_MO_isError 30 = .ok (.getfield 7, 3) := by decide +kernel
theorem zd_MO_isError_33 : decode zb_MO_isError 33 = .ok (.bipush 10, 2) := by decide +kernel
theorem zd_MO_isError_35 : decode zb_MO_isError 35 = .ok (.iaload, 1) := by decide +kernel
theorem zd_MO_isError_36 : decode zb_MO_isError 36 = .ok (.sipush 256, 3) := by decide +kernel
theorem zd_MO_isError_39 : decode zb_MO_isError 39 = .ok (.idiv, 1) := by decide +kernel
theorem zd_MO_isError_40 : decode zb_MO_isError 40 = .ok (.bipush 11, 2) := by decide +kernel
theorem zd_MO_isError_42 : decode zb_MO_isError 42 = .ok (.if_icmp .ne 7, 3) := by decide +kernel
theorem zd_MO_isError_45 : decode zb_MO_isError 45 = .ok (.iconst 1, 1) := by decide +kernel
theorem zd_MO_isError_46 : decode zb_MO_isError 46 = .ok (.goto 4, 3) := by decide +kernel
theorem zd_MO_isError_49 : decode zb_MO_isError 49 = .ok (.iconst 0, 1) := by decide +kernel
theorem zd_MO_isError_50 : decode zb_MO_isError 50 = .ok (.ireturn, 1) := by decide +kernel
abbrev zb_MO_wellBody : ByteArray := prog_9_method_10_code
def zy_MO_wellBody : MethodName := ⟨"PortTranslatorModel", "wellBody", "(I)Z"⟩
theorem zd_MO_wellBody_0 : decode zb_MO_wellBody 0 = .ok (.aload_n 0, 1) := by decide +kernel
theorem zd_MO_wellBody_1 : decode zb_MO_wellBody 1 = .ok (.getfield 57, 3) := by decide +kernel
theorem zd_MO_wellBody_4 : decode zb_MO_wellBody 4 = .ok (.iload_n 1, 1) := by decide +kernel
theorem zd_MO_wellBody_5 : decode zb_MO_wellBody 5 = .ok (.bipush 6, 2) := by decide +kernel
theorem zd_MO_wellBody_7 : decode zb_MO_wellBody 7 = .ok (.if_icmp .ne 8, 3) := by decide +kernel
theorem zd_MO_wellBody_10 : decode zb_MO_wellBody 10 = .ok (.bipush 20, 2) := by decide +kernel
theorem zd_MO_wellBody_12 : decode zb_MO_wellBody 12 = .ok (.goto 5, 3) := by decide +kernel
theorem zd_MO_wellBody_15 : decode zb_MO_wellBody 15 = .ok (.bipush 14, 2) := by decide +kernel
theorem zd_MO_wellBody_17 : decode zb_MO_wellBody 17 = .ok (.if_icmp .ge 5, 3) := by decide +kernel
theorem zd_MO_wellBody_20 : decode zb_MO_wellBody 20 = .ok (.iconst 0, 1) := by decide +kernel
theorem zd_MO_wellBody_21 : decode zb_MO_wellBody 21 = .ok (.ireturn, 1) := by decide +kernel
theorem zd_MO_wellBody_22 : decode zb_MO_wellBody 22 = .ok (.aload_n 0, 1) := by decide +kernel
theorem zd_MO_wellBody_23 : decode zb_MO_wellBody 23 = .ok (.iload_n 1, 1) := by decide +kernel
theorem zd_MO_wellBody_24 : decode zb_MO_wellBody 24 = .ok (.invokevirtual 68, 3) := by decide +kernel
theorem zd_MO_wellBody_27 : decode zb_MO_wellBody 27 = .ok (.invokestatic 72, 3) := by decide +kernel
theorem zd_MO_wellBody_30 : decode zb_MO_wellBody 30 = .ok (.ldc 62, 2) := by decide +kernel
theorem zd_MO_wellBody_32 : decode zb_MO_wellBody 32 = .ok (.if_icmp .ne 7, 3) := by decide +kernel
theorem zd_MO_wellBody_35 : decode zb_MO_wellBody 35 = .ok (.iconst 1, 1) := by decide +kernel
theorem zd_MO_wellBody_36 : decode zb_MO_wellBody 36 = .ok (.goto 4, 3) := by decide +kernel
theorem zd_MO_wellBody_39 : decode zb_MO_wellBody 39 = .ok (.iconst 0, 1) := by decide +kernel
theorem zd_MO_wellBody_40 : decode zb_MO_wellBody 40 = .ok (.istore_n 2, 1) := by decide +kernel
theorem zd_MO_wellBody_41 : decode zb_MO_wellBody 41 = .ok (.iload_n 1, 1) := by decide +kernel
theorem zd_MO_wellBody_42 : decode zb_MO_wellBody 42 = .ok (.bipush 6, 2) := by decide +kernel
theorem zd_MO_wellBody_44 : decode zb_MO_wellBody 44 = .ok (.if_icmp .ne 28, 3) := by decide +kernel
theorem zd_MO_wellBody_47 : decode zb_MO_wellBody 47 = .ok (.aload_n 0, 1) := by decide +kernel
theorem zd_MO_wellBody_48 : decode zb_MO_wellBody 48 = .ok (.getfield 7, 3) := by decide +kernel
theorem zd_MO_wellBody_51 : decode zb_MO_wellBody 51 = .ok (.bipush 16, 2) := by decide +kernel
theorem zd_MO_wellBody_53 : decode zb_MO_wellBody 53 = .ok (.iaload, 1) := by decide +kernel
theorem zd_MO_wellBody_54 : decode zb_MO_wellBody 54 = .ok (.sipush 4096, 3) := by decide +kernel
theorem zd_MO_wellBody_57 : decode zb_MO_wellBody 57 = .ok (.idiv, 1) := by decide +kernel
theorem zd_MO_wellBody_58 : decode zb_MO_wellBody 58 = .ok (.iconst 5, 1) := by decide +kernel
theorem zd_MO_wellBody_59 : decode zb_MO_wellBody 59 = .ok (.if_icmp .ne 11, 3) := by decide +kernel
theorem zd_MO_wellBody_62 : decode zb_MO_wellBody 62 = .ok (.iload_n 2, 1) := by decide +kernel
theorem zd_MO_wellBody_63 : decode zb_MO_wellBody 63 = .ok (.ifCond .eq 7, 3) := by decide +kernel
theorem zd_MO_wellBody_66 : decode zb_MO_wellBody 66 = .ok (.iconst 1, 1) := by decide +kernel
theorem zd_MO_wellBody_67 : decode zb_MO_wellBody 67 = .ok (.goto 4, 3) := by decide +kernel
theorem zd_MO_wellBody_70 : decode zb_MO_wellBody 70 = .ok (.iconst 0, 1) := by decide +kernel
theorem zd_MO_wellBody_71 : decode zb_MO_wellBody 71 = .ok (.ireturn, 1) := by decide +kernel
theorem zd_MO_wellBody_72 : decode zb_MO_wellBody 72 = .ok (.iload_n 1, 1) := by decide +kernel
theorem zd_MO_wellBody_73 : decode zb_MO_wellBody 73 = .ok (.bipush 17, 2) := by decide +kernel
theorem zd_MO_wellBody_75 : decode zb_MO_wellBody 75 = .ok (.if_icmp .ne 42, 3) := by decide +kernel
theorem zd_MO_wellBody_78 : decode zb_MO_wellBody 78 = .ok (.aload_n 0, 1) := by decide +kernel
theorem zd_MO_wellBody_79 : decode zb_MO_wellBody 79 = .ok (.getfield 7, 3) := by decide +kernel
theorem zd_MO_wellBody_82 : decode zb_MO_wellBody 82 = .ok (.bipush 12, 2) := by decide +kernel
theorem zd_MO_wellBody_84 : decode zb_MO_wellBody 84 = .ok (.iaload, 1) := by decide +kernel
theorem zd_MO_wellBody_85 : decode zb_MO_wellBody 85 = .ok (.iconst 2, 1) := by decide +kernel
theorem zd_MO_wellBody_86 : decode zb_MO_wellBody 86 = .ok (.aload_n 0, 1) := by decide +kernel
theorem zd_MO_wellBody_87 : decode zb_MO_wellBody 87 = .ok (.getfield 57, 3) := by decide +kernel
theorem zd_MO_wellBody_90 : decode zb_MO_wellBody 90 = .ok (.bipush 10, 2) := by decide +kernel
theorem zd_MO_wellBody_92 : decode zb_MO_wellBody 92 = .ok (.isub, 1) := by decide +kernel
theorem zd_MO_wellBody_93 : decode zb_MO_wellBody 93 = .ok (.imul, 1) := by decide +kernel
theorem zd_MO_wellBody_94 : decode zb_MO_wellBody 94 = .ok (.if_icmp .ne 21, 3) := by decide +kernel
theorem zd_MO_wellBody_97 : decode zb_MO_wellBody 97 = .ok (.aload_n 0, 1) := by decide +kernel
theorem zd_MO_wellBody_98 : decode zb_MO_wellBody 98 = .ok (.getfield 7, 3) := by decide +kernel
theorem zd_MO_wellBody_101 : decode zb_MO_wellBody 101 = .ok (.bipush 13, 2) := by decide +kernel
theorem zd_MO_wellBody_103 : decode zb_MO_wellBody 103 = .ok (.iaload, 1) := by decide +kernel
theorem zd_MO_wellBody_104 : decode zb_MO_wellBody 104 = .ok (.ifCond .eq 7, 3) := by decide +kernel
theorem zd_MO_wellBody_107 : decode zb_MO_wellBody 107 = .ok (.iload_n 2, 1) := by decide +kernel
theorem zd_MO_wellBody_108 : decode zb_MO_wellBody 108 = .ok (.ifCond .eq 7, 3) := by decide +kernel
theorem zd_MO_wellBody_111 : decode zb_MO_wellBody 111 = .ok (.iconst 1, 1) := by decide +kernel
theorem zd_MO_wellBody_112 : decode zb_MO_wellBody 112 = .ok (.goto 4, 3) := by decide +kernel
theorem zd_MO_wellBody_115 : decode zb_MO_wellBody 115 = .ok (.iconst 0, 1) := by decide +kernel
theorem zd_MO_wellBody_116 : decode zb_MO_wellBody 116 = .ok (.ireturn, 1) := by decide +kernel
theorem zd_MO_wellBody_117 : decode zb_MO_wellBody 117 = .ok (.aload_n 0, 1) := by decide +kernel
theorem zd_MO_wellBody_118 : decode zb_MO_wellBody 118 = .ok (.invokevirtual 75, 3) := by decide +kernel
theorem zd_MO_wellBody_121 : decode zb_MO_wellBody 121 = .ok (.ifCond .eq 55, 3) := by decide +kernel
theorem zd_MO_wellBody_124 : decode zb_MO_wellBody 124 = .ok (.iload_n 2, 1) := by decide +kernel
theorem zd_MO_wellBody_125 : decode zb_MO_wellBody 125 = .ok (.ifCond .eq 49, 3) := by decide +kernel
theorem zd_MO_wellBody_128 : decode zb_MO_wellBody 128 = .ok (.aload_n 0, 1) := by decide +kernel
theorem zd_MO_wellBody_129 : decode zb_MO_wellBody 129 = .ok (.getfield 57, 3) := by decide +kernel
theorem zd_MO_wellBody_132 : decode zb_MO_wellBody 132 = .ok (.bipush 28, 2) := by decide +kernel
theorem zd_MO_wellBody_134 : decode zb_MO_wellBody 134 = .ok (.if_icmp .lt 40, 3) := by decide +kernel
theorem zd_MO_wellBody_137 : decode zb_MO_wellBody 137 = .ok (.aload_n 0, 1) := by decide +kernel
theorem zd_MO_wellBody_138 : decode zb_MO_wellBody 138 = .ok (.getfield 7, 3) := by decide +kernel
theorem zd_MO_wellBody_141 : decode zb_MO_wellBody 141 = .ok (.bipush 14, 2) := by decide +kernel
theorem zd_MO_wellBody_143 : decode zb_MO_wellBody 143 = .ok (.iaload, 1) := by decide +kernel
theorem zd_MO_wellBody_144 : decode zb_MO_wellBody 144 = .ok (.sipush 256, 3) := by decide +kernel
theorem zd_MO_wellBody_147 : decode zb_MO_wellBody 147 = .ok (.idiv, 1) := by decide +kernel
theorem zd_MO_wellBody_148 : decode zb_MO_wellBody 148 = .ok (.bipush 69, 2) := by decide +kernel
theorem zd_MO_wellBody_150 : decode zb_MO_wellBody 150 = .ok (.if_icmp .ne 24, 3) := by decide +kernel
theorem zd_MO_wellBody_153 : decode zb_MO_wellBody 153 = .ok (.aload_n 0, 1) := by decide +kernel
theorem zd_MO_wellBody_154 : decode zb_MO_wellBody 154 = .ok (.getfield 7, 3) := by decide +kernel
theorem zd_MO_wellBody_157 : decode zb_MO_wellBody 157 = .ok (.bipush 18, 2) := by decide +kernel
theorem zd_MO_wellBody_159 : decode zb_MO_wellBody 159 = .ok (.iaload, 1) := by decide +kernel
theorem zd_MO_wellBody_160 : decode zb_MO_wellBody 160 = .ok (.sipush 255, 3) := by decide +kernel
theorem zd_MO_wellBody_163 : decode zb_MO_wellBody 163 = .ok (.iand, 1) := by decide +kernel
theorem zd_MO_wellBody_164 : decode zb_MO_wellBody 164 = .ok (.invokestatic 79, 3) := by decide +kernel
theorem zd_MO_wellBody_167 : decode zb_MO_wellBody 167 = .ok (.ifCond .eq 7, 3) := by decide +kernel
theorem zd_MO_wellBody_170 : decode zb_MO_wellBody 170 = .ok (.iconst 1, 1) := by decide +kernel
theorem zd_MO_wellBody_171 : decode zb_MO_wellBody 171 = .ok (.goto 4, 3) := by decide +kernel
theorem zd_MO_wellBody_174 : decode zb_MO_wellBody 174 = .ok (.iconst 0, 1) := by decide +kernel
theorem zd_MO_wellBody_175 : decode zb_MO_wellBody 175 = .ok (.ireturn, 1) := by decide +kernel
theorem zd_MO_wellBody_176 : decode zb_MO_wellBody 176 = .ok (.iload_n 2, 1) := by decide +kernel
theorem zd_MO_wellBody_177 : decode zb_MO_wellBody 177 = .ok (.ifCond .eq 30, 3) := by decide +kernel
theorem zd_MO_wellBody_180 : decode zb_MO_wellBody 180 = .ok (.aload_n 0, 1) := by decide +kernel
theorem zd_MO_wellBody_181 : decode zb_MO_wellBody 181 = .ok (.getfield 7, 3) := by decide +kernel
theorem zd_MO_wellBody_184 : decode zb_MO_wellBody 184 = .ok (.bipush 10, 2) := by decide +kernel
theorem zd_MO_wellBody_186 : decode zb_MO_wellBody 186 = .ok (.iaload, 1) := by decide +kernel
theorem zd_MO_wellBody_187 : decode zb_MO_wellBody 187 = .ok (.sipush 2048, 3) := by decide +kernel
theorem zd_MO_wellBody_190 : decode zb_MO_wellBody 190 = .ok (.if_icmp .eq 13, 3) := by decide +kernel
theorem zd_MO_wellBody_193 : decode zb_MO_wellBody 193 = .ok (.aload_n 0, 1) := by decide +kernel
theorem zd_MO_wellBody_194 : decode zb_MO_wellBody 194 = .ok (.getfield 7, 3) := by decide +kernel
theorem zd_MO_wellBody_197 : decode zb_MO_wellBody 197 = .ok (.bipush 10, 2) := by decide +kernel
theorem zd_MO_wellBody_199 : decode zb_MO_wellBody 199 = .ok (.iaload, 1) := by decide +kernel
theorem zd_MO_wellBody_200 : decode zb_MO_wellBody 200 = .ok (.ifCond .ne 7, 3) := by decide +kernel
theorem zd_MO_wellBody_203 : decode zb_MO_wellBody 203 = .ok (.iconst 1, 1) := by decide +kernel
theorem zd_MO_wellBody_204 : decode zb_MO_wellBody 204 = .ok (.goto 4, 3) := by decide +kernel
theorem zd_MO_wellBody_207 : decode zb_MO_wellBody 207 = .ok (.iconst 0, 1) := by decide +kernel
theorem zd_MO_wellBody_208 : decode zb_MO_wellBody 208 = .ok (.ireturn, 1) := by decide +kernel
abbrev zb_MO_well : ByteArray := prog_9_method_11_code
def zy_MO_well : MethodName := ⟨"PortTranslatorModel", "well", "()Z"⟩
theorem zd_MO_well_0 : decode zb_MO_well 0 = .ok (.aload_n 0, 1) := by decide +kernel
theorem zd_MO_well_1 : decode zb_MO_well 1 = .ok (.getfield 57, 3) := by decide +kernel
theorem zd_MO_well_4 : decode zb_MO_well 4 = .ok (.bipush 10, 2) := by decide +kernel
theorem zd_MO_well_6 : decode zb_MO_well 6 = .ok (.if_icmp .lt 60, 3) := by decide +kernel
theorem zd_MO_well_9 : decode zb_MO_well 9 = .ok (.aload_n 0, 1) := by decide +kernel
theorem zd_MO_well_10 : decode zb_MO_well 10 = .ok (.getfield 7, 3) := by decide +kernel
theorem zd_MO_well_13 : decode zb_MO_well 13 = .ok (.iconst 0, 1) := by decide +kernel
theorem zd_MO_well_14 : decode zb_MO_well 14 = .ok (.iaload, 1) := by decide +kernel
theorem zd_MO_well_15 : decode zb_MO_well 15 = .ok (.sipush 256, 3) := by decide +kernel
theorem zd_MO_well_18 : decode zb_MO_well 18 = .ok (.idiv, 1) := by decide +kernel
theorem zd_MO_well_19 : decode zb_MO_well 19 = .ok (.bipush 69, 2) := by decide +kernel
theorem zd_MO_well_21 : decode zb_MO_well 21 = .ok (.if_icmp .ne 45, 3) := by decide +kernel
theorem zd_MO_well_24 : decode zb_MO_well 24 = .ok (.aload_n 0, 1) := by decide +kernel
theorem zd_MO_well_25 : decode zb_MO_well 25 = .ok (.getfield 7, 3) := by decide +kernel
theorem zd_MO_well_28 : decode zb_MO_well 28 = .ok (.iconst 1, 1) := by decide +kernel
theorem zd_MO_well_29 : decode zb_MO_well 29 = .ok (.iaload, 1) := by decide +kernel
theorem zd_MO_well_30 : decode zb_MO_well 30 = .ok (.iconst 2, 1) := by decide +kernel
theorem zd_MO_well_31 : decode zb_MO_well 31 = .ok (.aload_n 0, 1) := by decide +kernel
theorem zd_MO_well_32 : decode zb_MO_well 32 = .ok (.getfield 57, 3) := by decide +kernel
theorem zd_MO_well_35 : decode zb_MO_well 35 = .ok (.imul, 1) := by decide +kernel
theorem zd_MO_well_36 : decode zb_MO_well 36 = .ok (.if_icmp .ne 30, 3) := by decide +kernel
theorem zd_MO_well_39 : decode zb_MO_well 39 = .ok (.aload_n 0, 1) := by decide +kernel
theorem zd_MO_well_40 : decode zb_MO_well 40 = .ok (.getfield 7, 3) := by decide +kernel
theorem zd_MO_well_43 : decode zb_MO_well 43 = .ok (.iconst 3, 1) := by decide +kernel
theorem zd_MO_well_44 : decode zb_MO_well 44 = .ok (.iaload, 1) := by decide +kernel
theorem zd_MO_well_45 : decode zb_MO_well 45 = .ok (.ldc 83, 2) := by decide +kernel
theorem zd_MO_well_47 : decode zb_MO_well 47 = .ok (.iand, 1) := by decide +kernel
theorem zd_MO_well_48 : decode zb_MO_well 48 = .ok (.ifCond .ne 18, 3) := by decide +kernel
theorem zd_MO_well_51 : decode zb_MO_well 51 = .ok (.aload_n 0, 1) := by decide +kernel
theorem zd_MO_well_52 : decode zb_MO_well 52 = .ok (.iconst 0, 1) := by decide +kernel
theorem zd_MO_well_53 : decode zb_MO_well 53 = .ok (.bipush 10, 2) := by decide +kernel
theorem zd_MO_well_55 : decode zb_MO_well 55 = .ok (.invokevirtual 64, 3) := by decide +kernel
theorem zd_MO_well_58 : decode zb_MO_well 58 = .ok (.invokestatic 72, 3) := by decide +kernel
theorem zd_MO_well_61 : decode zb_MO_well 61 = .ok (.ldc 62, 2) := by decide +kernel
theorem zd_MO_well_63 : decode zb_MO_well 63 = .ok (.if_icmp .eq 5, 3) := by decide +kernel
theorem zd_MO_well_66 : decode zb_MO_well 66 = .ok (.iconst 0, 1) := by decide +kernel
theorem zd_MO_well_67 : decode zb_MO_well 67 = .ok (.ireturn, 1) := by decide +kernel
theorem zd_MO_well_68 : decode zb_MO_well 68 = .ok (.aload_n 0, 1) := by decide +kernel
theorem zd_MO_well_69 : decode zb_MO_well 69 = .ok (.getfield 7, 3) := by decide +kernel
theorem zd_MO_well_72 : decode zb_MO_well 72 = .ok (.iconst 4, 1) := by decide +kernel
theorem zd_MO_well_73 : decode zb_MO_well 73 = .ok (.iaload, 1) := by decide +kernel
theorem zd_MO_well_74 : decode zb_MO_well 74 = .ok (.sipush 255, 3) := by decide +kernel
theorem zd_MO_well_77 : decode zb_MO_well 77 = .ok (.iand, 1) := by decide +kernel
theorem zd_MO_well_78 : decode zb_MO_well 78 = .ok (.istore_n 1, 1) := by decide +kernel
theorem zd_MO_well_79 : decode zb_MO_well 79 = .ok (.iload_n 1, 1) := by decide +kernel
theorem zd_MO_well_80 : decode zb_MO_well 80 = .ok (.invokestatic 79, 3) := by decide +kernel
theorem zd_MO_well_83 : decode zb_MO_well 83 = .ok (.ifCond .eq 15, 3) := by decide +kernel
theorem zd_MO_well_86 : decode zb_MO_well 86 = .ok (.aload_n 0, 1) := by decide +kernel
theorem zd_MO_well_87 : decode zb_MO_well 87 = .ok (.iload_n 1, 1) := by decide +kernel
theorem zd_MO_well_88 : decode zb_MO_well 88 = .ok (.invokevirtual 84, 3) := by decide +kernel
theorem zd_MO_well_91 : decode zb_MO_well 91 = .ok (.ifCond .eq 7, 3) := by decide +kernel
theorem zd_MO_well_94 : decode zb_MO_well 94 = .ok (.iconst 1, 1) := by decide +kernel
theorem zd_MO_well_95 : decode zb_MO_well 95 = .ok (.goto 4, 3) := by decide +kernel
theorem zd_MO_well_98 : decode zb_MO_well 98 = .ok (.iconst 0, 1) := by decide +kernel
theorem zd_MO_well_99 : decode zb_MO_well 99 = .ok (.ireturn, 1) := by decide +kernel
abbrev zb_MO_address : ByteArray := prog_9_method_12_code
def zy_MO_address : MethodName := ⟨"PortTranslatorModel", "address", "(I)I"⟩
theorem zd_MO_address_0 : decode zb_MO_address 0 = .ok (.aload_n 0, 1) := by decide +kernel
theorem zd_MO_address_1 : decode zb_MO_address 1 = .ok (.getfield 7, 3) := by decide +kernel
theorem zd_MO_address_4 : decode zb_MO_address 4 = .ok (.iload_n 1, 1) := by decide +kernel
theorem zd_MO_address_5 : decode zb_MO_address 5 = .ok (.iaload, 1) := by decide +kernel
theorem zd_MO_address_6 : decode zb_MO_address 6 = .ok (.bipush 16, 2) := by decide +kernel
theorem zd_MO_address_8 : decode zb_MO_address 8 = .ok (.ishl, 1) := by decide +kernel
theorem zd_MO_address_9 : decode zb_MO_address 9 = .ok (.aload_n 0, 1) := by decide +kernel
theorem zd_MO_address_10 : decode zb_MO_address 10 = .ok (.getfield 7, 3) := by decide +kernel
theorem zd_MO_address_13 : decode zb_MO_address 13 = .ok (.iload_n 1, 1) := by decide +kernel
theorem zd_MO_address_14 : decode zb_MO_address 14 = .ok (.iconst 1, 1) := by decide +kernel
theorem zd_MO_address_15 : decode zb_MO_address 15 = .ok (.iadd, 1) := by decide +kernel
theorem zd_MO_address_16 : decode zb_MO_address 16 = .ok (.iaload, 1) := by decide +kernel
theorem zd_MO_address_17 : decode zb_MO_address 17 = .ok (.ior, 1) := by decide +kernel
theorem zd_MO_address_18 : decode zb_MO_address 18 = .ok (.ireturn, 1) := by decide +kernel
abbrev zb_MO_isInside : ByteArray := prog_9_method_13_code
def zy_MO_isInside : MethodName := ⟨"PortTranslatorModel", "isInside", "(I)Z"⟩
theorem zd_MO_isInside_0 : decode zb_MO_isInside 0 = .ok (.iload_n 0, 1) := by decide +kernel
theorem zd_MO_isInside_1 : decode zb_MO_isInside 1 = .ok (.ldc 87, 2) := by decide +kernel
theorem zd_MO_isInside_3 : decode zb_MO_isInside 3 = .ok (.if_icmp .lt 13, 3) := by decide +kernel
theorem zd_MO_isInside_6 : decode zb_MO_isInside 6 = .ok (.iload_n 0, 1) := by decide +kernel
theorem zd_MO_isInside_7 : decode zb_MO_isInside 7 = .ok (.ldc 88, 2) := by decide +kernel
theorem zd_MO_isInside_9 : decode zb_MO_isInside 9 = .ok (.if_icmp .gt 7, 3) := by decide +kernel
theorem zd_MO_isInside_12 : decode zb_MO_isInside 12 = .ok (.iconst 1, 1) := by decide +kernel
theorem zd_MO_isInside_13 : decode zb_MO_isInside 13 = .ok (.goto 4, 3) := by decide +kernel
theorem zd_MO_isInside_16 : decode zb_MO_isInside 16 = .ok (.iconst 0, 1) := by decide +kernel
theorem zd_MO_isInside_17 : decode zb_MO_isInside 17 = .ok (.ireturn, 1) := by decide +kernel
abbrev zb_MO_isOutside : ByteArray := prog_9_method_14_code
def zy_MO_isOutside : MethodName := ⟨"PortTranslatorModel", "isOutside", "(I)Z"⟩
theorem zd_MO_isOutside_0 : decode zb_MO_isOutside 0 = .ok (.iload_n 0, 1) := by decide +kernel
theorem zd_MO_isOutside_1 : decode zb_MO_isOutside 1 = .ok (.invokestatic 89, 3) := by decide +kernel
theorem zd_MO_isOutside_4 : decode zb_MO_isOutside 4 = .ok (.ifCond .ne 13, 3) := by decide +kernel
theorem zd_MO_isOutside_7 : decode zb_MO_isOutside 7 = .ok (.iload_n 0, 1) := by decide +kernel
theorem zd_MO_isOutside_8 : decode zb_MO_isOutside 8 = .ok (.ldc 92, 2) := by decide +kernel
theorem zd_MO_isOutside_10 : decode zb_MO_isOutside 10 = .ok (.if_icmp .eq 7, 3) := by decide +kernel
theorem zd_MO_isOutside_13 : decode zb_MO_isOutside 13 = .ok (.iconst 1, 1) := by decide +kernel
theorem zd_MO_isOutside_14 : decode zb_MO_isOutside 14 = .ok (.goto 4, 3) := by decide +kernel
theorem zd_MO_isOutside_17 : decode zb_MO_isOutside 17 = .ok (.iconst 0, 1) := by decide +kernel
theorem zd_MO_isOutside_18 : decode zb_MO_isOutside 18 = .ok (.ireturn, 1) := by decide +kernel
abbrev zb_MO_find : ByteArray := prog_9_method_15_code
def zy_MO_find : MethodName := ⟨"PortTranslatorModel", "find", "(IIIZII)I"⟩
theorem zd_MO_find_0 : decode zb_MO_find 0 = .ok (.iconst 0, 1) := by decide +kernel
theorem zd_MO_find_1 : decode zb_MO_find 1 = .ok (.istore 7, 2) := by decide +kernel
theorem zd_MO_find_3 : decode zb_MO_find 3 = .ok (.iload 7, 2) := by decide +kernel
theorem zd_MO_find_5 : decode zb_MO_find 5 = .ok (.aload_n 0, 1) := by decide +kernel
theorem zd_MO_find_6 : decode zb_MO_find 6 = .ok (.getfield 93, 3) := by decide +kernel
theorem zd_MO_find_9 : decode zb_MO_find 9 = .ok (.if_icmp .ge 106, 3) := by decide +kernel
theorem zd_MO_find_12 : decode zb_MO_find 12 = .ok (.iload 4, 2) := by decide +kernel
theorem zd_MO_find_14 : decode zb_MO_find 14 = .ok (.ifCond .eq 35, 3) := by decide +kernel
theorem zd_MO_find_17 : decode zb_MO_find 17 = .ok (.aload_n 0, 1) := by decide +kernel
theorem zd_MO_find_18 : decode zb_MO_find 18 = .ok (.getfield 32, 3) := by decide +kernel
theorem zd_MO_find_21 : decode zb_MO_find 21 = .ok (.iload 7, 2) := by decide +kernel
theorem zd_MO_find_23 : decode zb_MO_find 23 = .ok (.iaload, 1) := by decide +kernel
theorem zd_MO_find_24 : decode zb_MO_find 24 = .ok (.iload 5, 2) := by decide +kernel
theorem zd_MO_find_26 : decode zb_MO_find 26 = .ok (.if_icmp .ne 19, 3) := by decide +kernel
theorem zd_MO_find_29 : decode zb_MO_find 29 = .ok (.aload_n 0, 1) := by decide +kernel
theorem zd_MO_find_30 : decode zb_MO_find 30 = .ok (.getfield 35, 3) := by decide +kernel
theorem zd_MO_find_33 : decode zb_MO_find 33 = .ok (.iload 7, 2) := by decide +kernel
theorem zd_MO_find_35 : decode zb_MO_find 35 = .ok (.iaload, 1) := by decide +kernel
theorem zd_MO_find_36 : decode zb_MO_find 36 = .ok (.iload 6, 2) := by decide +kernel
theorem zd_MO_find_38 : decode zb_MO_find 38 = .ok (.if_icmp .ne 7, 3) := by decide +kernel
theorem zd_MO_find_41 : decode zb_MO_find 41 = .ok (.iconst 1, 1) := by decide +kernel
theorem zd_MO_find_42 : decode zb_MO_find 42 = .ok (.goto 24, 3) := by decide +kernel
theorem zd_MO_find_45 : decode zb_MO_find 45 = .ok (.iconst 0, 1) := by decide +kernel
theorem zd_MO_find_46 : decode zb_MO_find 46 = .ok (.goto 20, 3) := by decide +kernel
theorem zd_MO_find_49 : decode zb_MO_find 49 = .ok (.aload_n 0, 1) := by decide +kernel
theorem zd_MO_find_50 : decode zb_MO_find 50 = .ok (.getfield 44, 3) := by decide +kernel
theorem zd_MO_find_53 : decode zb_MO_find 53 = .ok (.iload 7, 2) := by decide +kernel
theorem zd_MO_find_55 : decode zb_MO_find 55 = .ok (.iaload, 1) := by decide +kernel
theorem zd_MO_find_56 : decode zb_MO_find 56 = .ok (.iload 6, 2) := by decide +kernel
theorem zd_MO_find_58 : decode zb_MO_find 58 = .ok (.if_icmp .ne 7, 3) := by decide +kernel
theorem zd_MO_find_61 : decode zb_MO_find 61 = .ok (.iconst 1, 1) := by decide +kernel
theorem zd_MO_find_62 : decode zb_MO_find 62 = .ok (.goto 4, 3) := by decide +kernel
theorem zd_MO_find_65 : decode zb_MO_find 65 = .ok (.iconst 0, 1) := by decide +kernel
theorem zd_MO_find_66 : decode zb_MO_find 66 = .ok (.istore 8, 2) := by decide +kernel
theorem zd_MO_find_68 : decode zb_MO_find 68 = .ok (.aload_n 0, 1) := by decide +kernel
theorem zd_MO_find_69 : decode zb_MO_find 69 = .ok (.getfield 29, 3) := by decide +kernel
theorem zd_MO_find_72 : decode zb_MO_find 72 = .ok (.iload 7, 2) := by decide +kernel
theorem zd_MO_find_74 : decode zb_MO_find 74 = .ok (.iaload, 1) := by decide +kernel
theorem zd_MO_find_75 : decode zb_MO_find 75 = .ok (.iload_n 1, 1) := by decide +kernel
theorem zd_MO_find_76 : decode zb_MO_find 76 = .ok (.if_icmp .ne 33, 3) := by decide +kernel
theorem zd_MO_find_79 : decode zb_MO_find 79 = .ok (.aload_n 0, 1) := by decide +kernel
theorem zd_MO_find_80 : decode zb_MO_find 80 = .ok (.getfield 38, 3) := by decide +kernel
theorem zd_MO_find_83 : decode zb_MO_find 83 = .ok (.iload 7, 2) := by decide +kernel
theorem zd_MO_find_85 : decode zb_MO_find 85 = .ok (.iaload, 1) := by decide +kernel
theorem zd_MO_find_86 : decode zb_MO_find 86 = .ok (.iload_n 2, 1) := by decide +kernel
theorem zd_MO_find_87 : decode zb_MO_find 87 = .ok (.if_icmp .ne 22, 3) := by decide +kernel
theorem zd_MO_find_90 : decode zb_MO_find 90 = .ok (.aload_n 0, 1) := by decide +kernel
theorem zd_MO_find_91 : decode zb_MO_find 91 = .ok (.getfield 41, 3) := by decide +kernel
theorem zd_MO_find_94 : decode zb_MO_find 94 = .ok (.iload 7, 2) := by decide +kernel
theorem zd_MO_find_96 : decode zb_MO_find 96 = .ok (.iaload, 1) := by decide +kernel
theorem zd_MO_find_97 : decode zb_MO_find 97 = .ok (.iload_n 3, 1) := by decide +kernel
theorem zd_MO_find_98 : decode zb_MO_find 98 = .ok (.if_icmp .ne 11, 3) := by decide +kernel
theorem zd_MO_find_101 : decode zb_MO_find 101 = .ok (.iload 8, 2) := by decide +kernel
theorem zd_MO_find_103 : decode zb_MO_find 103 = .ok (.ifCond .eq 6, 3) := by decide +kernel
theorem zd_MO_find_106 : decode zb_MO_find 106 = .ok (.iload 7, 2) := by decide +kernel
theorem zd_MO_find_108 : decode zb_MO_find 108 = .ok (.ireturn, 1) := by decide +kernel
theorem zd_MO_find_109 : decode zb_MO_find 109 = .ok (.iinc 7 1, 3) := by decide +kernel
theorem zd_MO_find_112 : decode zb_MO_find 112 = .ok (.goto (-109), 3) := by decide +kernel
theorem zd_MO_find_115 : decode zb_MO_find 115 = .ok (.iconst (-1), 1) := by decide +kernel
theorem zd_MO_find_116 : decode zb_MO_find 116 = .ok (.ireturn, 1) := by decide +kernel
abbrev zb_MO_permitted : ByteArray := prog_9_method_16_code
def zy_MO_permitted : MethodName := ⟨"PortTranslatorModel", "permitted", "(II)Z"⟩
theorem zd_MO_permitted_0 : decode zb_MO_permitted 0 = .ok (.iconst 0, 1) := by decide +kernel
theorem zd_MO_permitted_1 : decode zb_MO_permitted 1 = .ok (.istore_n 3, 1) := by decide +kernel
theorem zd_MO_permitted_2 : decode zb_MO_permitted 2 = .ok (.iload_n 3, 1) := by decide +kernel
theorem zd_MO_permitted_3 : decode zb_MO_permitted 3 = .ok (.iconst 4, 1) := by decide +kernel
theorem zd_MO_permitted_4 : decode zb_MO_permitted 4 = .ok (.if_icmp .ge 85, 3) := by decide +kernel
theorem zd_MO_permitted_7 : decode zb_MO_permitted 7 = .ok (.aload_n 0, 1) := by decide +kernel
theorem zd_MO_permitted_8 : decode zb_MO_permitted 8 = .ok (.getfield 16, 3) := by decide +kernel
theorem zd_MO_permitted_11 : decode zb_MO_permitted 11 = .ok (.iload_n 3, 1) := by decide +kernel
theorem zd_MO_permitted_12 : decode zb_MO_permitted 12 = .ok (.iaload, 1) := by decide +kernel
theorem zd_MO_permitted_13 : decode zb_MO_permitted 13 = .ok (.ifCond .eq 13, 3) := by decide +kernel
theorem zd_MO_permitted_16 : decode zb_MO_permitted 16 = .ok (.aload_n 0, 1) := by decide +kernel
theorem zd_MO_permitted_17 : decode zb_MO_permitted 17 = .ok (.getfield 16, 3) := by decide +kernel
theorem zd_MO_permitted_20 : decode zb_MO_permitted 20 = .ok (.iload_n 3, 1) := by decide +kernel
theorem zd_MO_permitted_21 : decode zb_MO_permitted 21 = .ok (.iaload, 1) := by decide +kernel
theorem zd_MO_permitted_22 : decode zb_MO_permitted 22 = .ok (.iload_n 1, 1) := by decide +kernel
theorem zd_MO_permitted_23 : decode zb_MO_permitted 23 = .ok (.if_icmp .ne 7, 3) := by decide +kernel
theorem zd_MO_permitted_26 : decode zb_MO_permitted 26 = .ok (.iconst 1, 1) := by decide +kernel
theorem zd_MO_permitted_27 : decode zb_MO_permitted 27 = .ok (.goto 4, 3) := by decide +kernel
theorem zd_MO_permitted_30 : decode zb_MO_permitted 30 = .ok (.iconst 0, 1) := by decide +kernel
theorem zd_MO_permitted_31 : decode zb_MO_permitted 31 = .ok (.istore 4, 2) := by decide +kernel
theorem zd_MO_permitted_33 : decode zb_MO_permitted 33 = .ok (.aload_n 0, 1) := by decide +kernel
theorem zd_MO_permitted_34 : decode zb_MO_permitted 34 = .ok (.getfield 22, 3) := by decide +kernel
theorem zd_MO_permitted_37 : decode zb_MO_permitted 37 = .ok (.iload_n 3, 1) := by decide +kernel
theorem zd_MO_permitted_38 : decode zb_MO_permitted 38 = .ok (.iaload, 1) := by decide +kernel
theorem zd_MO_permitted_39 : decode zb_MO_permitted 39 = .ok (.ifCond .ne 7, 3) := by decide +kernel
theorem zd_MO_permitted_42 : decode zb_MO_permitted 42 = .ok (.iconst 0, 1) := by decide +kernel
theorem zd_MO_permitted_43 : decode zb_MO_permitted 43 = .ok (.goto 21, 3) := by decide +kernel
theorem zd_MO_permitted_46 : decode zb_MO_permitted 46 = .ok (.iload_n 2, 1) := by decide +kernel
theorem zd_MO_permitted_47 : decode zb_MO_permitted 47 = .ok (.aload_n 0, 1) := by decide +kernel
theorem zd_MO_permitted_48 : decode zb_MO_permitted 48 = .ok (.getfield 19, 3) := by decide +kernel
theorem zd_MO_permitted_51 : decode zb_MO_permitted 51 = .ok (.iload_n 3, 1) := by decide +kernel
theorem zd_MO_permitted_52 : decode zb_MO_permitted 52 = .ok (.iaload, 1) := by decide +kernel
theorem zd_MO_permitted_53 : decode zb_MO_permitted 53 = .ok (.ixor, 1) := by decide +kernel
theorem zd_MO_permitted_54 : decode zb_MO_permitted 54 = .ok (.bipush 32, 2) := by decide +kernel
theorem zd_MO_permitted_56 : decode zb_MO_permitted 56 = .ok (.aload_n 0, 1) := by decide +kernel
theorem zd_MO_permitted_57 : decode zb_MO_permitted 57 = .ok (.getfield 22, 3) := by decide +kernel
theorem zd_MO_permitted_60 : decode zb_MO_permitted 60 = .ok (.iload_n 3, 1) := by decide +kernel
theorem zd_MO_permitted_61 : decode zb_MO_permitted 61 = .ok (.iaload, 1) := by decide +kernel
theorem zd_MO_permitted_62 : decode zb_MO_permitted 62 = .ok (.isub, 1) := by decide +kernel
theorem zd_MO_permitted_63 : decode zb_MO_permitted 63 = .ok (.iushr, 1) := by decide +kernel
theorem zd_MO_permitted_64 : decode zb_MO_permitted 64 = .ok (.istore 5, 2) := by decide +kernel
theorem zd_MO_permitted_66 : decode zb_MO_permitted 66 = .ok (.iload 4, 2) := by decide +kernel
theorem zd_MO_permitted_68 : decode zb_MO_permitted 68 = .ok (.ifCond .eq 15, 3) := by decide +kernel
theorem zd_MO_permitted_71 : decode zb_MO_permitted 71 = .ok (.iload 5, 2) := by decide +kernel
theorem zd_MO_permitted_73 : decode zb_MO_permitted 73 = .ok (.ifCond .ne 10, 3) := by decide +kernel
theorem zd_MO_permitted_76 : decode zb_MO_permitted 76 = .ok (.aload_n 0, 1) := by decide +kernel
theorem zd_MO_permitted_77 : decode zb_MO_permitted 77 = .ok (.getfield 25, 3) := by decide +kernel
theorem zd_MO_permitted_80 : decode zb_MO_permitted 80 = .ok (.iload_n 3, 1) := by decide +kernel
theorem zd_MO_permitted_81 : decode zb_MO_permitted 81 = .ok (.baload, 1) := by decide +kernel
theorem zd_MO_permitted_82 : decode zb_MO_permitted 82 = .ok (.ireturn, 1) := by decide +kernel
theorem zd_MO_permitted_83 : decode zb_MO_permitted 83 = .ok (.iinc 3 1, 3) := by decide +kernel
theorem zd_MO_permitted_86 : decode zb_MO_permitted 86 = .ok (.goto (-84), 3) := by decide +kernel
theorem zd_MO_permitted_89 : decode zb_MO_permitted 89 = .ok (.iconst 1, 1) := by decide +kernel
theorem zd_MO_permitted_90 : decode zb_MO_permitted 90 = .ok (.ireturn, 1) := by decide +kernel
abbrev zb_MO_portFor : ByteArray := prog_9_method_17_code
def zy_MO_portFor : MethodName := ⟨"PortTranslatorModel", "portFor", "(III)I"⟩
theorem zd_MO_portFor_0 : decode zb_MO_portFor 0 = .ok (.iconst (-1), 1) := by decide +kernel
theorem zd_MO_portFor_1 : decode zb_MO_portFor 1 = .ok (.istore 4, 2) := by decide +kernel
theorem zd_MO_portFor_3 : decode zb_MO_portFor 3 = .ok (.ldc 96, 2) := by decide +kernel
theorem zd_MO_portFor_5 : decode zb_MO_portFor 5 = .ok (.istore 5, 2) := by decide +kernel
theorem zd_MO_portFor_7 : decode zb_MO_portFor 7 = .ok (.iload 5, 2) := by decide +kernel
theorem zd_MO_portFor_9 : decode zb_MO_portFor 9 = .ok (.ldc 97, 2) := by decide +kernel
theorem zd_MO_portFor_11 : decode zb_MO_portFor 11 = .ok (.if_icmp .lt 79, 3) := by decide +kernel
theorem zd_MO_portFor_14 : decode zb_MO_portFor 14 = .ok (.iconst 0, 1) := by decide +kernel
theorem zd_MO_portFor_15 : decode zb_MO_portFor 15 = .ok (.istore 6, 2) := by decide +kernel
theorem zd_MO_portFor_17 : decode zb_MO_portFor 17 = .ok (.iconst 0, 1) := by decide +kernel
theorem zd_MO_portFor_18 : decode zb_MO_portFor 18 = .ok (.istore 7, 2) := by decide +kernel
theorem zd_MO_portFor_20 : decode zb_MO_portFor 20 = .ok (.iload 7, 2) := by decide +kernel
theorem zd_MO_portFor_22 : decode zb_MO_portFor 22 = .ok (.aload_n 0, 1) := by decide +kernel
theorem zd_MO_portFor_23 : decode zb_MO_portFor 23 = .ok (.getfield 93, 3) := by decide +kernel
theorem zd_MO_portFor_26 : decode zb_MO_portFor 26 = .ok (.if_icmp .ge 44, 3) := by decide +kernel
theorem zd_MO_portFor_29 : decode zb_MO_portFor 29 = .ok (.iload 6, 2) := by decide +kernel
theorem zd_MO_portFor_31 : decode zb_MO_portFor 31 = .ok (.ifCond .ne 26, 3) := by decide +kernel
theorem zd_MO_portFor_34 : decode zb_MO_portFor 34 = .ok (.aload_n 0, 1) := by decide +kernel
theorem zd_MO_portFor_35 : decode zb_MO_portFor 35 = .ok (.getfield 29, 3) := by decide +kernel
theorem zd_MO_portFor_38 : decode zb_MO_portFor 38 = .ok (.iload 7, 2) := by decide +kernel
theorem zd_MO_portFor_40 : decode zb_MO_portFor 40 = .ok (.iaload, 1) := by decide +kernel
theorem zd_MO_portFor_41 : decode zb_MO_portFor 41 = .ok (.iload_n 1, 1) := by decide +kernel
theorem zd_MO_portFor_42 : decode zb_MO_portFor 42 = .ok (.if_icmp .ne 19, 3) := by decide +kernel
theorem zd_MO_portFor_45 : decode zb_MO_portFor 45 = .ok (.aload_n 0, 1) := by decide +kernel
theorem zd_MO_portFor_46 : decode zb_MO_portFor 46 = .ok (.getfield 44, 3) := by decide +kernel
theorem zd_MO_portFor_49 : decode zb_MO_portFor 49 = .ok (.iload 7, 2) := by decide +kernel
theorem zd_MO_portFor_51 : decode zb_MO_portFor 51 = .ok (.iaload, 1) := by decide +kernel
theorem zd_MO_portFor_52 : decode zb_MO_portFor 52 = .ok (.iload 5, 2) := by decide +kernel
theorem zd_MO_portFor_54 : decode zb_MO_portFor 54 = .ok (.if_icmp .ne 7, 3) := by decide +kernel
theorem zd_MO_portFor_57 : decode zb_MO_portFor 57 = .ok (.iconst 1, 1) := by decide +kernel
theorem zd_MO_portFor_58 : decode zb_MO_portFor 58 = .ok (.goto 4, 3) := by decide +kernel
theorem zd_MO_portFor_61 : decode zb_MO_portFor 61 = .ok (.iconst 0, 1) := by decide +kernel
theorem zd_MO_portFor_62 : decode zb_MO_portFor 62 = .ok (.istore 6, 2) := by decide +kernel
theorem zd_MO_portFor_64 : decode zb_MO_portFor 64 = .ok (.iinc 7 1, 3) := by decide +kernel
theorem zd_MO_portFor_67 : decode zb_MO_portFor 67 = .ok (.goto (-47), 3) := by decide +kernel
theorem zd_MO_portFor_70 : decode zb_MO_portFor 70 = .ok (.iload 6, 2) := by decide +kernel
theorem zd_MO_portFor_72 : decode zb_MO_portFor 72 = .ok (.ifCond .eq 8, 3) := by decide +kernel
theorem zd_MO_portFor_75 : decode zb_MO_portFor 75 = .ok (.iload 4, 2) := by decide +kernel
theorem zd_MO_portFor_77 : decode zb_MO_portFor 77 = .ok (.goto 5, 3) := by decide +kernel
theorem zd_MO_portFor_80 : decode zb_MO_portFor 80 = .ok (.iload 5, 2) := by decide +kernel
theorem zd_MO_portFor_82 : decode zb_MO_portFor 82 = .ok (.istore 4, 2) := by decide +kernel
theorem zd_MO_portFor_84 : decode zb_MO_portFor 84 = .ok (.iinc 5 (-1), 3) := by decide +kernel
theorem zd_MO_portFor_87 : decode zb_MO_portFor 87 = .ok (.goto (-80), 3) := by decide +kernel
theorem zd_MO_portFor_90 : decode zb_MO_portFor 90 = .ok (.iconst 0, 1) := by decide +kernel
theorem zd_MO_portFor_91 : decode zb_MO_portFor 91 = .ok (.istore 5, 2) := by decide +kernel
theorem zd_MO_portFor_93 : decode zb_MO_portFor 93 = .ok (.iload 5, 2) := by decide +kernel
theorem zd_MO_portFor_95 : decode zb_MO_portFor 95 = .ok (.aload_n 0, 1) := by decide +kernel
theorem zd_MO_portFor_96 : decode zb_MO_portFor 96 = .ok (.getfield 93, 3) := by decide +kernel
theorem zd_MO_portFor_99 : decode zb_MO_portFor 99 = .ok (.if_icmp .ge 56, 3) := by decide +kernel
theorem zd_MO_portFor_102 : decode zb_MO_portFor 102 = .ok (.aload_n 0, 1) := by decide +kernel
theorem zd_MO_portFor_103 : decode zb_MO_portFor 103 = .ok (.getfield 29, 3) := by decide +kernel
theorem zd_MO_portFor_106 : decode zb_MO_portFor 106 = .ok (.iload 5, 2) := by decide +kernel
theorem zd_MO_portFor_108 : decode zb_MO_portFor 108 = .ok (.iaload, 1) := by decide +kernel
theorem zd_MO_portFor_109 : decode zb_MO_portFor 109 = .ok (.iload_n 1, 1) := by decide +kernel
theorem zd_MO_portFor_110 : decode zb_MO_portFor 110 = .ok (.if_icmp .ne 35, 3) := by decide +kernel
theorem zd_MO_portFor_113 : decode zb_MO_portFor 113 = .ok (.aload_n 0, 1) := by decide +kernel
theorem zd_MO_portFor_114 : decode zb_MO_portFor 114 = .ok (.getfield 32, 3) := by decide +kernel
theorem zd_MO_portFor_117 : decode zb_MO_portFor 117 = .ok (.iload 5, 2) := by decide +kernel
theorem zd_MO_portFor_119 : decode zb_MO_portFor 119 = .ok (.iaload, 1) := by decide +kernel
theorem zd_MO_portFor_120 : decode zb_MO_portFor 120 = .ok (.iload_n 2, 1) := by decide +kernel
theorem zd_MO_portFor_121 : decode zb_MO_portFor 121 = .ok (.if_icmp .ne 24, 3) := by decide +kernel
theorem zd_MO_portFor_124 : decode zb_MO_portFor 124 = .ok (.aload_n 0, 1) := by decide +kernel
theorem zd_MO_portFor_125 : decode zb_MO_portFor 125 = .ok (.getfield 35, 3) := by decide +kernel
theorem zd_MO_portFor_128 : decode zb_MO_portFor 128 = .ok (.iload 5, 2) := by decide +kernel
theorem zd_MO_portFor_130 : decode zb_MO_portFor 130 = .ok (.iaload, 1) := by decide +kernel
theorem zd_MO_portFor_131 : decode zb_MO_portFor 131 = .ok (.iload_n 3, 1) := by decide +kernel
theorem zd_MO_portFor_132 : decode zb_MO_portFor 132 = .ok (.if_icmp .ne 13, 3) := by decide +kernel
theorem zd_MO_portFor_135 : decode zb_MO_portFor 135 = .ok (.aload_n 0, 1) := by decide +kernel
theorem zd_MO_portFor_136 : decode zb_MO_portFor 136 = .ok (.getfield 44, 3) := by decide +kernel
theorem zd_MO_portFor_139 : decode zb_MO_portFor 139 = .ok (.iload 5, 2) := by decide +kernel
theorem zd_MO_portFor_141 : decode zb_MO_portFor 141 = .ok (.iaload, 1) := by decide +kernel
theorem zd_MO_portFor_142 : decode zb_MO_portFor 142 = .ok (.goto 5, 3) := by decide +kernel
theorem zd_MO_portFor_145 : decode zb_MO_portFor 145 = .ok (.iload 4, 2) := by decide +kernel
theorem zd_MO_portFor_147 : decode zb_MO_portFor 147 = .ok (.istore 4, 2) := by decide +kernel
theorem zd_MO_portFor_149 : decode zb_MO_portFor 149 = .ok (.iinc 5 1, 3) := by decide +kernel
theorem zd_MO_portFor_152 : decode zb_MO_portFor 152 = .ok (.goto (-59), 3) := by decide +kernel
theorem zd_MO_portFor_155 : decode zb_MO_portFor 155 = .ok (.iload 4, 2) := by decide +kernel
theorem zd_MO_portFor_157 : decode zb_MO_portFor 157 = .ok (.ireturn, 1) := by decide +kernel
abbrev zb_MO_begin : ByteArray := prog_9_method_18_code
def zy_MO_begin : MethodName := ⟨"PortTranslatorModel", "begin", "(IIIII)I"⟩
theorem zd_MO_begin_0 : decode zb_MO_begin 0 = .ok (.aload_n 0, 1) := by decide +kernel
theorem zd_MO_begin_1 : decode zb_MO_begin 1 = .ok (.getfield 7, 3) := by decide +kernel
theorem zd_MO_begin_4 : decode zb_MO_begin 4 = .ok (.bipush 16, 2) := by decide +kernel
theorem zd_MO_begin_6 : decode zb_MO_begin 6 = .ok (.iaload, 1) := by decide +kernel
theorem zd_MO_begin_7 : decode zb_MO_begin 7 = .ok (.iconst 2, 1) := by decide +kernel
theorem zd_MO_begin_8 : decode zb_MO_begin 8 = .ok (.iand, 1) := by decide +kernel
theorem zd_MO_begin_9 : decode zb_MO_begin 9 = .ok (.ifCond .eq 20, 3) := by decide +kernel
theorem zd_MO_begin_12 : decode zb_MO_begin 12 = .ok (.aload_n 0, 1) := by decide +kernel
theorem zd_MO_begin_13 : decode zb_MO_begin 13 = .ok (.getfield 7, 3) := by decide +kernel
theorem zd_MO_begin_16 : decode zb_MO_begin 16 = .ok (.bipush 16, 2) := by decide +kernel
theorem zd_MO_begin_18 : decode zb_MO_begin 18 = .ok (.iaload, 1) := by decide +kernel
theorem zd_MO_begin_19 : decode zb_MO_begin 19 = .ok (.bipush 20, 2) := by decide +kernel
theorem zd_MO_begin_21 : decode zb_MO_begin 21 = .ok (.iand, 1) := by decide +kernel
theorem zd_MO_begin_22 : decode zb_MO_begin 22 = .ok (.ifCond .ne 7, 3) := by decide +kernel
theorem zd_MO_begin_25 : decode zb_MO_begin 25 = .ok (.iconst 1, 1) := by decide +kernel
theorem zd_MO_begin_26 : decode zb_MO_begin 26 = .ok (.goto 4, 3) := by decide +kernel
theorem zd_MO_begin_29 : decode zb_MO_begin 29 = .ok (.iconst 0, 1) := by decide +kernel
theorem zd_MO_begin_30 : decode zb_MO_begin 30 = .ok (.istore 6, 2) := by decide +kernel
theorem zd_MO_begin_32 : decode zb_MO_begin 32 = .ok (.iload_n 1, 1) := by decide +kernel
theorem zd_MO_begin_33 : decode zb_MO_begin 33 = .ok (.iconst 1, 1) := by decide +kernel
theorem zd_MO_begin_34 : decode zb_MO_begin 34 = .ok (.if_icmp .ne 13, 3) := by decide +kernel
theorem zd_MO_begin_37 : decode zb_MO_begin 37 = .ok (.aload_n 0, 1) := by decide +kernel
theorem zd_MO_begin_38 : decode zb_MO_begin 38 = .ok (.getfield 7, 3) := by decide +kernel
theorem zd_MO_begin_41 : decode zb_MO_begin 41 = .ok (.bipush 10, 2) := by decide +kernel
theorem zd_MO_begin_43 : decode zb_MO_begin 43 = .ok (.iaload, 1) := by decide +kernel
theorem zd_MO_begin_44 : decode zb_MO_begin 44 = .ok (.ifCond .eq 24, 3) := by decide +kernel
theorem zd_MO_begin_47 : decode zb_MO_begin 47 = .ok (.iload_n 1, 1) := by decide +kernel
theorem zd_MO_begin_48 : decode zb_MO_begin 48 = .ok (.bipush 6, 2) := by decide +kernel
theorem zd_MO_begin_50 : decode zb_MO_begin 50 = .ok (.if_icmp .ne 8, 3) := by decide +kernel
theorem zd_MO_begin_53 : decode zb_MO_begin 53 = .ok (.iload 6, 2) := by decide +kernel
theorem zd_MO_begin_55 : decode zb_MO_begin 55 = .ok (.ifCond .eq 13, 3) := by decide +kernel
theorem zd_MO_begin_58 : decode zb_MO_begin 58 = .ok (.aload_n 0, 1) := by decide +kernel
theorem zd_MO_begin_59 : decode zb_MO_begin 59 = .ok (.iload_n 1, 1) := by decide +kernel
theorem zd_MO_begin_60 : decode zb_MO_begin 60 = .ok (.iload 4, 2) := by decide +kernel
theorem zd_MO_begin_62 : decode zb_MO_begin 62 = .ok (.invokevirtual 98, 3) := by decide +kernel
theorem zd_MO_begin_65 : decode zb_MO_begin 65 = .ok (.ifCond .ne 6, 3) := by decide +kernel
theorem zd_MO_begin_68 : decode zb_MO_begin 68 = .ok (.bipush (-5), 2) := by decide +kernel
theorem zd_MO_begin_70 : decode zb_MO_begin 70 = .ok (.ireturn, 1) := by decide +kernel
theorem zd_MO_begin_71 : decode zb_MO_begin 71 = .ok (.aload_n 0, 1) := by decide +kernel
theorem zd_MO_begin_72 : decode zb_MO_begin 72 = .ok (.iload_n 1, 1) := by decide +kernel
theorem zd_MO_begin_73 : decode zb_MO_begin 73 = .ok (.iload_n 2, 1) := by decide +kernel
theorem zd_MO_begin_74 : decode zb_MO_begin 74 = .ok (.iload_n 3, 1) := by decide +kernel
theorem zd_MO_begin_75 : decode zb_MO_begin 75 = .ok (.invokevirtual 102, 3) := by decide +kernel
theorem zd_MO_begin_78 : decode zb_MO_begin 78 = .ok (.istore 7, 2) := by decide +kernel
theorem zd_MO_begin_80 : decode zb_MO_begin 80 = .ok (.aload_n 0, 1) := by decide +kernel
theorem zd_MO_begin_81 : decode zb_MO_begin 81 = .ok (.getfield 93, 3) := by decide +kernel
theorem zd_MO_begin_84 : decode zb_MO_begin 84 = .ok (.bipush 12, 2) := by decide +kernel
theorem zd_MO_begin_86 : decode zb_MO_begin 86 = .ok (.if_icmp .eq 8, 3) := by decide +kernel
theorem zd_MO_begin_89 : decode zb_MO_begin 89 = .ok (.iload 7, 2) := by decide +kernel
theorem zd_MO_begin_91 : decode zb_MO_begin 91 = .ok (.ifCond .ge 6, 3) := by decide +kernel
theorem zd_MO_begin_94 : decode zb_MO_begin 94 = .ok (.bipush (-6), 2) := by decide +kernel
theorem zd_MO_begin_96 : decode zb_MO_begin 96 = .ok (.ireturn, 1) := by decide +kernel
theorem zd_MO_begin_97 : decode zb_MO_begin 97 = .ok (.aload_n 0, 1) := by decide +kernel
theorem zd_MO_begin_98 : decode zb_MO_begin 98 = .ok (.getfield 29, 3) := by decide +kernel
theorem zd_MO_begin_101 : decode zb_MO_begin 101 = .ok (.aload_n 0, 1) := by decide +kernel
theorem zd_MO_begin_102 : decode zb_MO_begin 102 = .ok (.getfield 93, 3) := by decide +kernel
theorem zd_MO_begin_105 : decode zb_MO_begin 105 = .ok (.iload_n 1, 1) := by decide +kernel
theorem zd_MO_begin_106 : decode zb_MO_begin 106 = .ok (.iastore, 1) := by decide +kernel
theorem zd_MO_begin_107 : decode zb_MO_begin 107 = .ok (.aload_n 0, 1) := by decide +kernel
theorem zd_MO_begin_108 : decode zb_MO_begin 108 = .ok (.getfield 32, 3) := by decide +kernel
theorem zd_MO_begin_111 : decode zb_MO_begin 111 = .ok (.aload_n 0, 1) := by decide +kernel
theorem zd_MO_begin_112 : decode zb_MO_begin 112 = .ok (.getfield 93, 3) := by decide +kernel
theorem zd_MO_begin_115 : decode zb_MO_begin 115 = .ok (.iload_n 2, 1) := by decide +kernel
theorem zd_MO_begin_116 : decode zb_MO_begin 116 = .ok (.iastore, 1) := by decide +kernel
theorem zd_MO_begin_117 : decode zb_MO_begin 117 = .ok (.aload_n 0, 1) := by decide +kernel
theorem zd_MO_begin_118 : decode zb_MO_begin 118 = .ok (.getfield 35, 3) := by decide +kernel
theorem zd_MO_begin_121 : decode zb_MO_begin 121 = .ok (.aload_n 0, 1) := by decide +kernel
theorem zd_MO_begin_122 : decode zb_MO_begin 122 = .ok (.getfield 93, 3) := by decide +kernel
theorem zd_MO_begin_125 : decode zb_MO_begin 125 = .ok (.iload_n 3, 1) := by decide +kernel
theorem zd_MO_begin_126 : decode zb_MO_begin 126 = .ok (.iastore, 1) := by decide +kernel
theorem zd_MO_begin_127 : decode zb_MO_begin 127 = .ok (.aload_n 0, 1) := by decide +kernel
theorem zd_MO_begin_128 : decode zb_MO_begin 128 = .ok (.getfield 38, 3) := by decide +kernel
theorem zd_MO_begin_131 : decode zb_MO_begin 131 = .ok (.aload_n 0, 1) := by decide +kernel
theorem zd_MO_begin_132 : decode zb_MO_begin 132 = .ok (.getfield 93, 3) := by decide +kernel
theorem zd_MO_begin_135 : decode zb_MO_begin 135 = .ok (.iload 4, 2) := by decide +kernel
theorem zd_MO_begin_137 : decode zb_MO_begin 137 = .ok (.iastore, 1) := by decide +kernel
theorem zd_MO_begin_138 : decode zb_MO_begin 138 = .ok (.aload_n 0, 1) := by decide +kernel
theorem zd_MO_begin_139 : decode zb_MO_begin 139 = .ok (.getfield 41, 3) := by decide +kernel
theorem zd_MO_begin_142 : decode zb_MO_begin 142 = .ok (.aload_n 0, 1) := by decide +kernel
theorem zd_MO_begin_143 : decode zb_MO_begin 143 = .ok (.getfield 93, 3) := by decide +kernel
theorem zd_MO_begin_146 : decode zb_MO_begin 146 = .ok (.iload 5, 2) := by decide +kernel
theorem zd_MO_begin_148 : decode zb_MO_begin 148 = .ok (.iastore, 1) := by decide +kernel
theorem zd_MO_begin_149 : decode zb_MO_begin 149 = .ok (.aload_n 0, 1) := by decide +kernel
theorem zd_MO_begin_150 : decode zb_MO_begin 150 = .ok (.getfield 44, 3) := by decide +kernel
theorem zd_MO_begin_153 : decode zb_MO_begin 153 = .ok (.aload_n 0, 1) := by decide +kernel
theorem zd_MO_begin_154 : decode zb_MO_begin 154 = .ok (.getfield 93, 3) := by decide +kernel
theorem zd_MO_begin_157 : decode zb_MO_begin 157 = .ok (.iload 7, 2) := by decide +kernel
theorem zd_MO_begin_159 : decode zb_MO_begin 159 = .ok (.iastore, 1) := by decide +kernel
theorem zd_MO_begin_160 : decode zb_MO_begin 160 = .ok (.aload_n 0, 1) := by decide +kernel
theorem zd_MO_begin_161 : decode zb_MO_begin 161 = .ok (.getfield 47, 3) := by decide +kernel
theorem zd_MO_begin_164 : decode zb_MO_begin 164 = .ok (.aload_n 0, 1) := by decide +kernel
theorem zd_MO_begin_165 : decode zb_MO_begin 165 = .ok (.getfield 93, 3) := by decide +kernel
theorem zd_MO_begin_168 : decode zb_MO_begin 168 = .ok (.iconst 0, 1) := by decide +kernel
theorem zd_MO_begin_169 : decode zb_MO_begin 169 = .ok (.iastore, 1) := by decide +kernel
theorem zd_MO_begin_170 : decode zb_MO_begin 170 = .ok (.aload_n 0, 1) := by decide +kernel
theorem zd_MO_begin_171 : decode zb_MO_begin 171 = .ok (.getfield 50, 3) := by decide +kernel
theorem zd_MO_begin_174 : decode zb_MO_begin 174 = .ok (.aload_n 0, 1) := by decide +kernel
theorem zd_MO_begin_175 : decode zb_MO_begin 175 = .ok (.getfield 93, 3) := by decide +kernel
theorem zd_MO_begin_178 : decode zb_MO_begin 178 = .ok (.iconst 0, 1) := by decide +kernel
theorem zd_MO_begin_179 : decode zb_MO_begin 179 = .ok (.iastore, 1) := by decide +kernel
theorem zd_MO_begin_180 : decode zb_MO_begin 180 = .ok (.aload_n 0, 1) := by decide +kernel
theorem zd_MO_begin_181 : decode zb_MO_begin 181 = .ok (.dup, 1) := by decide +kernel
theorem zd_MO_begin_182 : decode zb_MO_begin 182 = .ok (.getfield 93, 3) := by decide +kernel
theorem zd_MO_begin_185 : decode zb_MO_begin 185 = .ok (.iconst 1, 1) := by decide +kernel
theorem zd_MO_begin_186 : decode zb_MO_begin 186 = .ok (.iadd, 1) := by decide +kernel
theorem zd_MO_begin_187 : decode zb_MO_begin 187 = .ok (.putfield 93, 3) := by decide +kernel
theorem zd_MO_begin_190 : decode zb_MO_begin 190 = .ok (.aload_n 0, 1) := by decide +kernel
theorem zd_MO_begin_191 : decode zb_MO_begin 191 = .ok (.getfield 93, 3) := by decide +kernel
theorem zd_MO_begin_194 : decode zb_MO_begin 194 = .ok (.iconst 1, 1) := by decide +kernel
theorem zd_MO_begin_195 : decode zb_MO_begin 195 = .ok (.isub, 1) := by decide +kernel
theorem zd_MO_begin_196 : decode zb_MO_begin 196 = .ok (.ireturn, 1) := by decide +kernel
abbrev zb_MO_end : ByteArray := prog_9_method_19_code
def zy_MO_end : MethodName := ⟨"PortTranslatorModel", "end", "(I)V"⟩
theorem zd_MO_end_0 : decode zb_MO_end 0 = .ok (.aload_n 0, 1) := by decide +kernel
theorem zd_MO_end_1 : decode zb_MO_end 1 = .ok (.dup, 1) := by decide +kernel
theorem zd_MO_end_2 : decode zb_MO_end 2 = .ok (.getfield 93, 3) := by decide +kernel
theorem zd_MO_end_5 : decode zb_MO_end 5 = .ok (.iconst 1, 1) := by decide +kernel
theorem zd_MO_end_6 : decode zb_MO_end 6 = .ok (.isub, 1) := by decide +kernel
theorem zd_MO_end_7 : decode zb_MO_end 7 = .ok (.putfield 93, 3) := by decide +kernel
theorem zd_MO_end_10 : decode zb_MO_end 10 = .ok (.iload_n 1, 1) := by decide +kernel
theorem zd_MO_end_11 : decode zb_MO_end 11 = .ok (.istore_n 2, 1) := by decide +kernel
theorem zd_MO_end_12 : decode zb_MO_end 12 = .ok (.iload_n 2, 1) := by decide +kernel
theorem zd_MO_end_13 : decode zb_MO_end 13 = .ok (.aload_n 0, 1) := by decide +kernel
theorem zd_MO_end_14 : decode zb_MO_end 14 = .ok (.getfield 93, 3) := by decide +kernel
theorem zd_MO_end_17 : decode zb_MO_end 17 = .ok (.if_icmp .ge 121, 3) := by decide +kernel
theorem zd_MO_end_20 : decode zb_MO_end 20 = .ok (.aload_n 0, 1) := by decide +kernel
theorem zd_MO_end_21 : decode zb_MO_end 21 = .ok (.getfield 29, 3) := by decide +kernel
theorem zd_MO_end_24 : decode zb_MO_end 24 = .ok (.iload_n 2, 1) := by decide +kernel
theorem zd_MO_end_25 : decode zb_MO_end 25 = .ok (.aload_n 0, 1) := by decide +kernel
theorem zd_MO_end_26 : decode zb_MO_end 26 = .ok (.getfield 29, 3) := by decide +kernel
theorem zd_MO_end_29 : decode zb_MO_end 29 = .ok (.iload_n 2, 1) := by decide +kernel
theorem zd_MO_end_30 : decode zb_MO_end 30 = .ok (.iconst 1, 1) := by decide +kernel
theorem zd_MO_end_31 : decode zb_MO_end 31 = .ok (.iadd, 1) := by decide +kernel
theorem zd_MO_end_32 : decode zb_MO_end 32 = .ok (.iaload, 1) := by decide +kernel
theorem zd_MO_end_33 : decode zb_MO_end 33 = .ok (.iastore, 1) := by decide +kernel
theorem zd_MO_end_34 : decode zb_MO_end 34 = .ok (.aload_n 0, 1) := by decide +kernel
theorem zd_MO_end_35 : decode zb_MO_end 35 = .ok (.getfield 32, 3) := by decide +kernel
theorem zd_MO_end_38 : decode zb_MO_end 38 = .ok (.iload_n 2, 1) := by decide +kernel
theorem zd_MO_end_39 : decode zb_MO_end 39 = .ok (.aload_n 0, 1) := by decide +kernel
theorem zd_MO_end_40 : decode zb_MO_end 40 = .ok (.getfield 32, 3) := by decide +kernel
theorem zd_MO_end_43 : decode zb_MO_end 43 = .ok (.iload_n 2, 1) := by decide +kernel
theorem zd_MO_end_44 : decode zb_MO_end 44 = .ok (.iconst 1, 1) := by decide +kernel
theorem zd_MO_end_45 : decode zb_MO_end 45 = .ok (.iadd, 1) := by decide +kernel
theorem zd_MO_end_46 : decode zb_MO_end 46 = .ok (.iaload, 1) := by decide +kernel
theorem zd_MO_end_47 : decode zb_MO_end 47 = .ok (.iastore, 1) := by decide +kernel
theorem zd_MO_end_48 : decode zb_MO_end 48 = .ok (.aload_n 0, 1) := by decide +kernel
theorem zd_MO_end_49 : decode zb_MO_end 49 = .ok (.getfield 35, 3) := by decide +kernel
theorem zd_MO_end_52 : decode zb_MO_end 52 = .ok (.iload_n 2, 1) := by decide +kernel
theorem zd_MO_end_53 : decode zb_MO_end 53 = .ok (.aload_n 0, 1) := by decide +kernel
theorem zd_MO_end_54 : decode zb_MO_end 54 = .ok (.getfield 35, 3) := by decide +kernel
theorem zd_MO_end_57 : decode zb_MO_end 57 = .ok (.iload_n 2, 1) := by decide +kernel
theorem zd_MO_end_58 : decode zb_MO_end 58 = .ok (.iconst 1, 1) := by decide +kernel
theorem zd_MO_end_59 : decode zb_MO_end 59 = .ok (.iadd, 1) := by decide +kernel
theorem zd_MO_end_60 : decode zb_MO_end 60 = .ok (.iaload, 1) := by decide +kernel
theorem zd_MO_end_61 : decode zb_MO_end 61 = .ok (.iastore, 1) := by decide +kernel
theorem zd_MO_end_62 : decode zb_MO_end 62 = .ok (.aload_n 0, 1) := by decide +kernel
theorem zd_MO_end_63 : decode zb_MO_end 63 = .ok (.getfield 38, 3) := by decide +kernel
theorem zd_MO_end_66 : decode zb_MO_end 66 = .ok (.iload_n 2, 1) := by decide +kernel
theorem zd_MO_end_67 : decode zb_MO_end 67 = .ok (.aload_n 0, 1) := by decide +kernel
theorem zd_MO_end_68 : decode zb_MO_end 68 = .ok (.getfield 38, 3) := by decide +kernel
theorem zd_MO_end_71 : decode zb_MO_end 71 = .ok (.iload_n 2, 1) := by decide +kernel
theorem zd_MO_end_72 : decode zb_MO_end 72 = .ok (.iconst 1, 1) := by decide +kernel
theorem zd_MO_end_73 : decode zb_MO_end 73 = .ok (.iadd, 1) := by decide +kernel
theorem zd_MO_end_74 : decode zb_MO_end 74 = .ok (.iaload, 1) := by decide +kernel
theorem zd_MO_end_75 : decode zb_MO_end 75 = .ok (.iastore, 1) := by decide +kernel
theorem zd_MO_end_76 : decode zb_MO_end 76 = .ok (.aload_n 0, 1) := by decide +kernel
theorem zd_MO_end_77 : decode zb_MO_end 77 = .ok (.getfield 41, 3) := by decide +kernel
theorem zd_MO_end_80 : decode zb_MO_end 80 = .ok (.iload_n 2, 1) := by decide +kernel
theorem zd_MO_end_81 : decode zb_MO_end 81 = .ok (.aload_n 0, 1) := by decide +kernel
theorem zd_MO_end_82 : decode zb_MO_end 82 = .ok (.getfield 41, 3) := by decide +kernel
theorem zd_MO_end_85 : decode zb_MO_end 85 = .ok (.iload_n 2, 1) := by decide +kernel
theorem zd_MO_end_86 : decode zb_MO_end 86 = .ok (.iconst 1, 1) := by decide +kernel
theorem zd_MO_end_87 : decode zb_MO_end 87 = .ok (.iadd, 1) := by decide +kernel
theorem zd_MO_end_88 : decode zb_MO_end 88 = .ok (.iaload, 1) := by decide +kernel
theorem zd_MO_end_89 : decode zb_MO_end 89 = .ok (.iastore, 1) := by decide +kernel
theorem zd_MO_end_90 : decode zb_MO_end 90 = .ok (.aload_n 0, 1) := by decide +kernel
theorem zd_MO_end_91 : decode zb_MO_end 91 = .ok (.getfield 44, 3) := by decide +kernel
theorem zd_MO_end_94 : decode zb_MO_end 94 = .ok (.iload_n 2, 1) := by decide +kernel
theorem zd_MO_end_95 : decode zb_MO_end 95 = .ok (.aload_n 0, 1) := by decide +kernel
theorem zd_MO_end_96 : decode zb_MO_end 96 = .ok (.getfield 44, 3) := by decide +kernel
theorem zd_MO_end_99 : decode zb_MO_end 99 = .ok (.iload_n 2, 1) := by decide +kernel
theorem zd_MO_end_100 : decode zb_MO_end 100 = .ok (.iconst 1, 1) := by decide +kernel
theorem zd_MO_end_101 : decode zb_MO_end 101 = .ok (.iadd, 1) := by decide +kernel
theorem zd_MO_end_102 : decode zb_MO_end 102 = .ok (.iaload, 1) := by decide +kernel
theorem zd_MO_end_103 : decode zb_MO_end 103 = .ok (.iastore, 1) := by decide +kernel
theorem zd_MO_end_104 : decode zb_MO_end 104 = .ok (.aload_n 0, 1) := by decide +kernel
theorem zd_MO_end_105 : decode zb_MO_end 105 = .ok (.getfield 47, 3) := by decide +kernel
theorem zd_MO_end_108 : decode zb_MO_end 108 = .ok (.iload_n 2, 1) := by decide +kernel
theorem zd_MO_end_109 : decode zb_MO_end 109 = .ok (.aload_n 0, 1) := by decide +kernel
theorem zd_MO_end_110 : decode zb_MO_end 110 = .ok (.getfield 47, 3) := by decide +kernel
theorem zd_MO_end_113 : decode zb_MO_end 113 = .ok (.iload_n 2, 1) := by decide +kernel
theorem zd_MO_end_114 : decode zb_MO_end 114 = .ok (.iconst 1, 1) := by decide +kernel
theorem zd_MO_end_115 : decode zb_MO_end 115 = .ok (.iadd, 1) := by decide +kernel
theorem zd_MO_end_116 : decode zb_MO_end 116 = .ok (.iaload, 1) := by decide +kernel
theorem zd_MO_end_117 : decode zb_MO_end 117 = .ok (.iastore, 1) := by decide +kernel
theorem zd_MO_end_118 : decode zb_MO_end 118 = .ok (.aload_n 0, 1) := by decide +kernel
theorem zd_MO_end_119 : decode zb_MO_end 119 = .ok (.getfield 50, 3) := by decide +kernel
theorem zd_MO_end_122 : decode zb_MO_end 122 = .ok (.iload_n 2, 1) := by decide +kernel
theorem zd_MO_end_123 : decode zb_MO_end 123 = .ok (.aload_n 0, 1) := by decide +kernel
theorem zd_MO_end_124 : decode zb_MO_end 124 = .ok (.getfield 50, 3) := by decide +kernel
theorem zd_MO_end_127 : decode zb_MO_end 127 = .ok (.iload_n 2, 1) := by decide +kernel
theorem zd_MO_end_128 : decode zb_MO_end 128 = .ok (.iconst 1, 1) := by decide +kernel
theorem zd_MO_end_129 : decode zb_MO_end 129 = .ok (.iadd, 1) := by decide +kernel
theorem zd_MO_end_130 : decode zb_MO_end 130 = .ok (.iaload, 1) := by decide +kernel
theorem zd_MO_end_131 : decode zb_MO_end 131 = .ok (.iastore, 1) := by decide +kernel
theorem zd_MO_end_132 : decode zb_MO_end 132 = .ok (.iinc 2 1, 3) := by decide +kernel
theorem zd_MO_end_135 : decode zb_MO_end 135 = .ok (.goto (-123), 3) := by decide +kernel
theorem zd_MO_end_138 : decode zb_MO_end 138 = .ok (.return_, 1) := by decide +kernel
abbrev zb_MO_flowOfError : ByteArray := prog_9_method_20_code
def zy_MO_flowOfError : MethodName := ⟨"PortTranslatorModel", "flowOfError", "(Z)I"⟩
theorem zd_MO_flowOfError_0 : decode zb_MO_flowOfError 0 = .ok (.aload_n 0, 1) := by decide +kernel
theorem zd_MO_flowOfError_1 : decode zb_MO_flowOfError 1 = .ok (.getfield 7, 3) := by decide +kernel
theorem zd_MO_flowOfError_4 : decode zb_MO_flowOfError 4 = .ok (.bipush 18, 2) := by decide +kernel
theorem zd_MO_flowOfError_6 : decode zb_MO_flowOfError 6 = .ok (.iaload, 1) := by decide +kernel
theorem zd_MO_flowOfError_7 : decode zb_MO_flowOfError 7 = .ok (.sipush 255, 3) := by decide +kernel
theorem zd_MO_flowOfError_10 : decode zb_MO_flowOfError 10 = .ok (.iand, 1) := by decide +kernel
theorem zd_MO_flowOfError_11 : decode zb_MO_flowOfError 11 = .ok (.istore_n 2, 1) := by decide +kernel
theorem zd_MO_flowOfError_12 : decode zb_MO_flowOfError 12 = .ok (.iload_n 2, 1) := by decide +kernel
theorem zd_MO_flowOfError_13 : decode zb_MO_flowOfError 13 = .ok (.iconst 1, 1) := by decide +kernel
theorem zd_MO_flowOfError_14 : decode zb_MO_flowOfError 14 = .ok (.if_icmp .ne 13, 3) := by decide +kernel
theorem zd_MO_flowOfError_17 : decode zb_MO_flowOfError 17 = .ok (.aload_n 0, 1) := by decide +kernel
theorem zd_MO_flowOfError_18 : decode zb_MO_flowOfError 18 = .ok (.getfield 7, 3) := by decide +kernel
theorem zd_MO_flowOfError_21 : decode zb_MO_flowOfError 21 = .ok (.bipush 26, 2) := by decide +kernel
theorem zd_MO_flowOfError_23 : decode zb_MO_flowOfError 23 = .ok (.iaload, 1) := by decide +kernel
theorem zd_MO_flowOfError_24 : decode zb_MO_flowOfError 24 = .ok (.goto 10, 3) := by decide +kernel
theorem zd_MO_flowOfError_27 : decode zb_MO_flowOfError 27 = .ok (.aload_n 0, 1) := by decide +kernel
theorem zd_MO_flowOfError_28 : decode zb_MO_flowOfError 28 = .ok (.getfield 7, 3) := by decide +kernel
theorem zd_MO_flowOfError_31 : decode zb_MO_flowOfError 31 = .ok (.bipush 24, 2) := by decide +kernel
theorem zd_MO_flowOfError_33 : decode zb_MO_flowOfError 33 = .ok (.iaload, 1) := by decide +kernel
theorem zd_MO_flowOfError_34 : decode zb_MO_flowOfError 34 = .ok (.istore_n 3, 1) := by decide +kernel
theorem zd_MO_flowOfError_35 : decode zb_MO_flowOfError 35 = .ok (.iload_n 2, 1) := by decide +kernel
theorem zd_MO_flowOfError_36 : decode zb_MO_flowOfError 36 = .ok (.iconst 1, 1) := by decide +kernel
theorem zd_MO_flowOfError_37 : decode zb_MO_flowOfError 37 = .ok (.if_icmp .ne 13, 3) := by decide +kernel
theorem zd_MO_flowOfError_40 : decode zb_MO_flowOfError 40 = .ok (.aload_n 0, 1) := by decide +kernel
theorem zd_MO_flowOfError_41 : decode zb_MO_flowOfError 41 = .ok (.getfield 7, 3) := by decide +kernel
theorem zd_MO_flowOfError_44 : decode zb_MO_flowOfError 44 = .ok (.bipush 26, 2) := by decide +kernel
theorem zd_MO_flowOfError_46 : decode zb_MO_flowOfError 46 = .ok (.iaload, 1) := by decide +kernel
theorem zd_MO_flowOfError_47 : decode zb_MO_flowOfError 47 = .ok (.goto 10, 3) := by decide +kernel
theorem zd_MO_flowOfError_50 : decode zb_MO_flowOfError 50 = .ok (.aload_n 0, 1) := by decide +kernel
theorem zd_MO_flowOfError_51 : decode zb_MO_flowOfError 51 = .ok (.getfield 7, 3) := by decide +kernel
theorem zd_MO_flowOfError_54 : decode zb_MO_flowOfError 54 = .ok (.bipush 25, 2) := by decide +kernel
theorem zd_MO_flowOfError_56 : decode zb_MO_flowOfError 56 = .ok (.iaload, 1) := by decide +kernel
theorem zd_MO_flowOfError_57 : decode zb_MO_flowOfError 57 = .ok (.istore 4, 2) := by decide +kernel
theorem zd_MO_flowOfError_59 : decode zb_MO_flowOfError 59 = .ok (.iconst (-1), 1) := by decide +kernel
theorem zd_MO_flowOfError_60 : decode zb_MO_flowOfError 60 = .ok (.istore 5, 2) := by decide +kernel
theorem zd_MO_flowOfError_62 : decode zb_MO_flowOfError 62 = .ok (.iload_n 1, 1) := by decide +kernel
theorem zd_MO_flowOfError_63 : decode zb_MO_flowOfError 63 = .ok (.ifCond .eq 57, 3) := by decide +kernel
theorem zd_MO_flowOfError_66 : decode zb_MO_flowOfError 66 = .ok (.aload_n 0, 1) := by decide +kernel
theorem zd_MO_flowOfError_67 : decode zb_MO_flowOfError 67 = .ok (.bipush 22, 2) := by decide +kernel
theorem zd_MO_flowOfError_69 : decode zb_MO_flowOfError 69 = .ok (.invokevirtual 106, 3) := by decide +kernel
theorem zd_MO_flowOfError_72 : decode zb_MO_flowOfError 72 = .ok (.aload_n 0, 1) := by decide +kernel
theorem zd_MO_flowOfError_73 : decode zb_MO_flowOfError 73 = .ok (.bipush 6, 2) := by decide +kernel
theorem zd_MO_flowOfError_75 : decode zb_MO_flowOfError 75 = .ok (.invokevirtual 106, 3) := by decide +kernel
theorem zd_MO_flowOfError_78 : decode zb_MO_flowOfError 78 = .ok (.if_icmp .ne 36, 3) := by decide +kernel
theorem zd_MO_flowOfError_81 : decode zb_MO_flowOfError 81 = .ok (.aload_n 0, 1) := by decide +kernel
theorem zd_MO_flowOfError_82 : decode zb_MO_flowOfError 82 = .ok (.iload_n 2, 1) := by decide +kernel
theorem zd_MO_flowOfError_83 : decode zb_MO_flowOfError 83 = .ok (.aload_n 0, 1) := by decide +kernel
theorem zd_MO_flowOfError_84 : decode zb_MO_flowOfError 84 = .ok (.bipush 20, 2) := by decide +kernel
theorem zd_MO_flowOfError_86 : decode zb_MO_flowOfError 86 = .ok (.invokevirtual 106, 3) := by decide +kernel
theorem zd_MO_flowOfError_89 : decode zb_MO_flowOfError 89 = .ok (.iload_n 2, 1) := by decide +kernel
theorem zd_MO_flowOfError_90 : decode zb_MO_flowOfError 90 = .ok (.iconst 1, 1) := by decide +kernel
theorem zd_MO_flowOfError_91 : decode zb_MO_flowOfError 91 = .ok (.if_icmp .ne 7, 3) := by decide +kernel
theorem zd_MO_flowOfError_94 : decode zb_MO_flowOfError 94 = .ok (.iconst 0, 1) := by decide +kernel
theorem zd_MO_flowOfError_95 : decode zb_MO_flowOfError 95 = .ok (.goto 4, 3) := by decide +kernel
theorem zd_MO_flowOfError_98 : decode zb_MO_flowOfError 98 = .ok (.iload_n 3, 1) := by decide +kernel
theorem zd_MO_flowOfError_99 : decode zb_MO_flowOfError 99 = .ok (.iconst 1, 1) := by decide +kernel
theorem zd_MO_flowOfError_100 : decode zb_MO_flowOfError 100 = .ok (.aload_n 0, 1) := by decide +kernel
theorem zd_MO_flowOfError_101 : decode zb_MO_flowOfError 101 = .ok (.bipush 22, 2) := by decide +kernel
theorem zd_MO_flowOfError_103 : decode zb_MO_flowOfError 103 = .ok (.invokevirtual 106, 3) := by decide +kernel
theorem zd_MO_flowOfError_106 : decode zb_MO_flowOfError 106 = .ok (.iload 4, 2) := by decide +kernel
theorem zd_MO_flowOfError_108 : decode zb_MO_flowOfError 108 = .ok (.invokevirtual 109, 3) := by decide +kernel
theorem zd_MO_flowOfError_111 : decode zb_MO_flowOfError 111 = .ok (.goto 4, 3) := by decide +kernel
theorem zd_MO_flowOfError_114 : decode zb_MO_flowOfError 114 = .ok (.iconst (-1), 1) := by decide +kernel
theorem zd_MO_flowOfError_115 : decode zb_MO_flowOfError 115 = .ok (.istore 5, 2) := by decide +kernel
theorem zd_MO_flowOfError_117 : decode zb_MO_flowOfError 117 = .ok (.goto 41, 3) := by decide +kernel
theorem zd_MO_flowOfError_120 : decode zb_MO_flowOfError 120 = .ok (.aload_n 0, 1) := by decide +kernel
theorem zd_MO_flowOfError_121 : decode zb_MO_flowOfError 121 = .ok (.bipush 20, 2) := by decide +kernel
theorem zd_MO_flowOfError_123 : decode zb_MO_flowOfError 123 = .ok (.invokevirtual 106, 3) := by decide +kernel
theorem zd_MO_flowOfError_126 : decode zb_MO_flowOfError 126 = .ok (.ldc 92, 2) := by decide +kernel
theorem zd_MO_flowOfError_128 : decode zb_MO_flowOfError 128 = .ok (.if_icmp .ne 30, 3) := by decide +kernel
theorem zd_MO_flowOfError_131 : decode zb_MO_flowOfError 131 = .ok (.aload_n 0, 1) := by decide +kernel
theorem zd_MO_flowOfError_132 : decode zb_MO_flowOfError 132 = .ok (.iload_n 2, 1) := by decide +kernel
theorem zd_MO_flowOfError_133 : decode zb_MO_flowOfError 133 = .ok (.aload_n 0, 1) := by decide +kernel
theorem zd_MO_flowOfError_134 : decode zb_MO_flowOfError 134 = .ok (.bipush 22, 2) := by decide +kernel
theorem zd_MO_flowOfError_136 : decode zb_MO_flowOfError 136 = .ok (.invokevirtual 106, 3) := by decide +kernel
theorem zd_MO_flowOfError_139 : decode zb_MO_flowOfError 139 = .ok (.iload_n 2, 1) := by decide +kernel
theorem zd_MO_flowOfError_140 : decode zb_MO_flowOfError 140 = .ok (.iconst 1, 1) := by decide +kernel
theorem zd_MO_flowOfError_141 : decode zb_MO_flowOfError 141 = .ok (.if_icmp .ne 7, 3) := by decide +kernel
theorem zd_MO_flowOfError_144 : decode zb_MO_flowOfError 144 = .ok (.iconst 0, 1) := by decide +kernel
theorem zd_MO_flowOfError_145 : decode zb_MO_flowOfError 145 = .ok (.goto 5, 3) := by decide +kernel
theorem zd_MO_flowOfError_148 : decode zb_MO_flowOfError 148 = .ok (.iload 4, 2) := by decide +kernel
theorem zd_MO_flowOfError_150 : decode zb_MO_flowOfError 150 = .ok (.iconst 0, 1) := by decide +kernel
theorem zd_MO_flowOfError_151 : decode zb_MO_flowOfError 151 = .ok (.iconst 0, 1) := by decide +kernel
theorem zd_MO_flowOfError_152 : decode zb_MO_flowOfError 152 = .ok (.iload_n 3, 1) := by decide +kernel
theorem zd_MO_flowOfError_153 : decode zb_MO_flowOfError 153 = .ok (.invokevirtual 109, 3) := by decide +kernel
theorem zd_MO_flowOfError_156 : decode zb_MO_flowOfError 156 = .ok (.istore 5, 2) := by decide +kernel
theorem zd_MO_flowOfError_158 : decode zb_MO_flowOfError 158 = .ok (.iload 5, 2) := by decide +kernel
theorem zd_MO_flowOfError_160 : decode zb_MO_flowOfError 160 = .ok (.ifCond .ge 8, 3) := by decide +kernel
theorem zd_MO_flowOfError_163 : decode zb_MO_flowOfError 163 = .ok (.bipush (-5), 2) := by decide +kernel
theorem zd_MO_flowOfError_165 : decode zb_MO_flowOfError 165 = .ok (.goto 5, 3) := by decide +kernel
theorem zd_MO_flowOfError_168 : decode zb_MO_flowOfError 168 = .ok (.iload 5, 2) := by decide +kernel
theorem zd_MO_flowOfError_170 : decode zb_MO_flowOfError 170 = .ok (.ireturn, 1) := by decide +kernel
abbrev zb_MO_flowOf : ByteArray := prog_9_method_21_code
def zy_MO_flowOf : MethodName := ⟨"PortTranslatorModel", "flowOf", "(Z)I"⟩
theorem zd_MO_flowOf_0 : decode zb_MO_flowOf 0 = .ok (.aload_n 0, 1) := by decide +kernel
theorem zd_MO_flowOf_1 : decode zb_MO_flowOf 1 = .ok (.bipush 6, 2) := by decide +kernel
theorem zd_MO_flowOf_3 : decode zb_MO_flowOf 3 = .ok (.invokevirtual 106, 3) := by decide +kernel
theorem zd_MO_flowOf_6 : decode zb_MO_flowOf 6 = .ok (.istore_n 2, 1) := by decide +kernel
theorem zd_MO_flowOf_7 : decode zb_MO_flowOf 7 = .ok (.aload_n 0, 1) := by decide +kernel
theorem zd_MO_flowOf_8 : decode zb_MO_flowOf 8 = .ok (.bipush 8, 2) := by decide +kernel
theorem zd_MO_flowOf_10 : decode zb_MO_flowOf 10 = .ok (.invokevirtual 106, 3) := by decide +kernel
theorem zd_MO_flowOf_13 : decode zb_MO_flowOf 13 = .ok (.istore_n 3, 1) := by decide +kernel
theorem zd_MO_flowOf_14 : decode zb_MO_flowOf 14 = .ok (.aload_n 0, 1) := by decide +kernel
theorem zd_MO_flowOf_15 : decode zb_MO_flowOf 15 = .ok (.getfield 7, 3) := by decide +kernel
theorem zd_MO_flowOf_18 : decode zb_MO_flowOf 18 = .ok (.iconst 4, 1) := by decide +kernel
theorem zd_MO_flowOf_19 : decode zb_MO_flowOf 19 = .ok (.iaload, 1) := by decide +kernel
theorem zd_MO_flowOf_20 : decode zb_MO_flowOf 20 = .ok (.sipush 255, 3) := by decide +kernel
theorem zd_MO_flowOf_23 : decode zb_MO_flowOf 23 = .ok (.iand, 1) := by decide +kernel
theorem zd_MO_flowOf_24 : decode zb_MO_flowOf 24 = .ok (.istore 4, 2) := by decide +kernel
theorem zd_MO_flowOf_26 : decode zb_MO_flowOf 26 = .ok (.iload_n 1, 1) := by decide +kernel
theorem zd_MO_flowOf_27 : decode zb_MO_flowOf 27 = .ok (.ifCond .eq 20, 3) := by decide +kernel
theorem zd_MO_flowOf_30 : decode zb_MO_flowOf 30 = .ok (.iload_n 2, 1) := by decide +kernel
theorem zd_MO_flowOf_31 : decode zb_MO_flowOf 31 = .ok (.invokestatic 89, 3) := by decide +kernel
theorem zd_MO_flowOf_34 : decode zb_MO_flowOf 34 = .ok (.ifCond .eq 26, 3) := by decide +kernel
theorem zd_MO_flowOf_37 : decode zb_MO_flowOf 37 = .ok (.iload_n 3, 1) := by decide +kernel
theorem zd_MO_flowOf_38 : decode zb_MO_flowOf 38 = .ok (.invokestatic 113, 3) := by decide +kernel
theorem zd_MO_flowOf_41 : decode zb_MO_flowOf 41 = .ok (.ifCond .ne 22, 3) := by decide +kernel
theorem zd_MO_flowOf_44 : decode zb_MO_flowOf 44 = .ok (.goto 16, 3) := by decide +kernel
theorem zd_MO_flowOf_47 : decode zb_MO_flowOf 47 = .ok (.iload_n 3, 1) := by decide +kernel
theorem zd_MO_flowOf_48 : decode zb_MO_flowOf 48 = .ok (.ldc 92, 2) := by decide +kernel
theorem zd_MO_flowOf_50 : decode zb_MO_flowOf 50 = .ok (.if_icmp .ne 10, 3) := by decide +kernel
theorem zd_MO_flowOf_53 : decode zb_MO_flowOf 53 = .ok (.iload_n 2, 1) := by decide +kernel
theorem zd_MO_flowOf_54 : decode zb_MO_flowOf 54 = .ok (.invokestatic 113, 3) := by decide +kernel
theorem zd_MO_flowOf_57 : decode zb_MO_flowOf 57 = .ok (.ifCond .ne 6, 3) := by decide +kernel
theorem zd_MO_flowOf_60 : decode zb_MO_flowOf 60 = .ok (.bipush (-5), 2) := by decide +kernel
theorem zd_MO_flowOf_62 : decode zb_MO_flowOf 62 = .ok (.ireturn, 1) := by decide +kernel
theorem zd_MO_flowOf_63 : decode zb_MO_flowOf 63 = .ok (.aload_n 0, 1) := by decide +kernel
theorem zd_MO_flowOf_64 : decode zb_MO_flowOf 64 = .ok (.invokevirtual 75, 3) := by decide +kernel
theorem zd_MO_flowOf_67 : decode zb_MO_flowOf 67 = .ok (.ifCond .eq 9, 3) := by decide +kernel
theorem zd_MO_flowOf_70 : decode zb_MO_flowOf 70 = .ok (.aload_n 0, 1) := by decide +kernel
theorem zd_MO_flowOf_71 : decode zb_MO_flowOf 71 = .ok (.iload_n 1, 1) := by decide +kernel
theorem zd_MO_flowOf_72 : decode zb_MO_flowOf 72 = .ok (.invokevirtual 116, 3) := by decide +kernel
theorem zd_MO_flowOf_75 : decode zb_MO_flowOf 75 = .ok (.ireturn, 1) := by decide +kernel
theorem zd_MO_flowOf_76 : decode zb_MO_flowOf 76 = .ok (.iload 4, 2) := by decide +kernel
theorem zd_MO_flowOf_78 : decode zb_MO_flowOf 78 = .ok (.iconst 1, 1) := by decide +kernel
theorem zd_MO_flowOf_79 : decode zb_MO_flowOf 79 = .ok (.if_icmp .ne 13, 3) := by decide +kernel
theorem zd_MO_flowOf_82 : decode zb_MO_flowOf 82 = .ok (.aload_n 0, 1) := by decide +kernel
theorem zd_MO_flowOf_83 : decode zb_MO_flowOf 83 = .ok (.getfield 7, 3) := by decide +kernel
theorem zd_MO_flowOf_86 : decode zb_MO_flowOf 86 = .ok (.bipush 12, 2) := by decide +kernel
theorem zd_MO_flowOf_88 : decode zb_MO_flowOf 88 = .ok (.iaload, 1) := by decide +kernel
theorem zd_MO_flowOf_89 : decode zb_MO_flowOf 89 = .ok (.goto 10, 3) := by decide +kernel
theorem zd_MO_flowOf_92 : decode zb_MO_flowOf 92 = .ok (.aload_n 0, 1) := by decide +kernel
theorem zd_MO_flowOf_93 : decode zb_MO_flowOf 93 = .ok (.getfield 7, 3) := by decide +kernel
theorem zd_MO_flowOf_96 : decode zb_MO_flowOf 96 = .ok (.bipush 10, 2) := by decide +kernel
theorem zd_MO_flowOf_98 : decode zb_MO_flowOf 98 = .ok (.iaload, 1) := by decide +kernel
theorem zd_MO_flowOf_99 : decode zb_MO_flowOf 99 = .ok (.istore 5, 2) := by decide +kernel
theorem zd_MO_flowOf_101 : decode zb_MO_flowOf 101 = .ok (.iload 4, 2) := by decide +kernel
theorem zd_MO_flowOf_103 : decode zb_MO_flowOf 103 = .ok (.iconst 1, 1) := by decide +kernel
theorem zd_MO_flowOf_104 : decode zb_MO_flowOf 104 = .ok (.if_icmp .ne 13, 3) := by decide +kernel
theorem zd_MO_flowOf_107 : decode zb_MO_flowOf 107 = .ok (.aload_n 0, 1) := by decide +kernel
theorem zd_MO_flowOf_108 : decode zb_MO_flowOf 108 = .ok (.getfield 7, 3) := by decide +kernel
theorem zd_MO_flowOf_111 : decode zb_MO_flowOf 111 = .ok (.bipush 12, 2) := by decide +kernel
theorem zd_MO_flowOf_113 : decode zb_MO_flowOf 113 = .ok (.iaload, 1) := by decide +kernel
theorem zd_MO_flowOf_114 : decode zb_MO_flowOf 114 = .ok (.goto 10, 3) := by decide +kernel
theorem zd_MO_flowOf_117 : decode zb_MO_flowOf 117 = .ok (.aload_n 0, 1) := by decide +kernel
theorem zd_MO_flowOf_118 : decode zb_MO_flowOf 118 = .ok (.getfield 7, 3) := by decide +kernel
theorem zd_MO_flowOf_121 : decode zb_MO_flowOf 121 = .ok (.bipush 11, 2) := by decide +kernel
theorem zd_MO_flowOf_123 : decode zb_MO_flowOf 123 = .ok (.iaload, 1) := by decide +kernel
theorem zd_MO_flowOf_124 : decode zb_MO_flowOf 124 = .ok (.istore 6, 2) := by decide +kernel
theorem zd_MO_flowOf_126 : decode zb_MO_flowOf 126 = .ok (.iload_n 1, 1) := by decide +kernel
theorem zd_MO_flowOf_127 : decode zb_MO_flowOf 127 = .ok (.ifCond .ne 60, 3) := by decide +kernel
theorem zd_MO_flowOf_130 : decode zb_MO_flowOf 130 = .ok (.aload_n 0, 1) := by decide +kernel
theorem zd_MO_flowOf_131 : decode zb_MO_flowOf 131 = .ok (.iload 4, 2) := by decide +kernel
theorem zd_MO_flowOf_133 : decode zb_MO_flowOf 133 = .ok (.iload_n 2, 1) := by decide +kernel
theorem zd_MO_flowOf_134 : decode zb_MO_flowOf 134 = .ok (.iload 4, 2) := by decide +kernel
theorem zd_MO_flowOf_136 : decode zb_MO_flowOf 136 = .ok (.iconst 1, 1) := by decide +kernel
theorem zd_MO_flowOf_137 : decode zb_MO_flowOf 137 = .ok (.if_icmp .ne 7, 3) := by decide +kernel
theorem zd_MO_flowOf_140 : decode zb_MO_flowOf 140 = .ok (.iconst 0, 1) := by decide +kernel
theorem zd_MO_flowOf_141 : decode zb_MO_flowOf 141 = .ok (.goto 5, 3) := by decide +kernel
theorem zd_MO_flowOf_144 : decode zb_MO_flowOf 144 = .ok (.iload 5, 2) := by decide +kernel
theorem zd_MO_flowOf_146 : decode zb_MO_flowOf 146 = .ok (.iconst 0, 1) := by decide +kernel
theorem zd_MO_flowOf_147 : decode zb_MO_flowOf 147 = .ok (.iconst 0, 1) := by decide +kernel
theorem zd_MO_flowOf_148 : decode zb_MO_flowOf 148 = .ok (.iload 6, 2) := by decide +kernel
theorem zd_MO_flowOf_150 : decode zb_MO_flowOf 150 = .ok (.invokevirtual 109, 3) := by decide +kernel
theorem zd_MO_flowOf_153 : decode zb_MO_flowOf 153 = .ok (.istore 7, 2) := by decide +kernel
theorem zd_MO_flowOf_155 : decode zb_MO_flowOf 155 = .ok (.iload 7, 2) := by decide +kernel
theorem zd_MO_flowOf_157 : decode zb_MO_flowOf 157 = .ok (.ifCond .lt 22, 3) := by decide +kernel
theorem zd_MO_flowOf_160 : decode zb_MO_flowOf 160 = .ok (.iload 4, 2) := by decide +kernel
theorem zd_MO_flowOf_162 : decode zb_MO_flowOf 162 = .ok (.iconst 1, 1) := by decide +kernel
theorem zd_MO_flowOf_163 : decode zb_MO_flowOf 163 = .ok (.if_icmp .ne 21, 3) := by decide +kernel
theorem zd_MO_flowOf_166 : decode zb_MO_flowOf 166 = .ok (.aload_n 0, 1) := by decide +kernel
theorem zd_MO_flowOf_167 : decode zb_MO_flowOf 167 = .ok (.getfield 7, 3) := by decide +kernel
theorem zd_MO_flowOf_170 : decode zb_MO_flowOf 170 = .ok (.bipush 10, 2) := by decide +kernel
theorem zd_MO_flowOf_172 : decode zb_MO_flowOf 172 = .ok (.iaload, 1) := by decide +kernel
theorem zd_MO_flowOf_173 : decode zb_MO_flowOf 173 = .ok (.sipush 2048, 3) := by decide +kernel
theorem zd_MO_flowOf_176 : decode zb_MO_flowOf 176 = .ok (.if_icmp .ne 8, 3) := by decide +kernel
theorem zd_MO_flowOf_179 : decode zb_MO_flowOf 179 = .ok (.bipush (-5), 2) := by decide +kernel
theorem zd_MO_flowOf_181 : decode zb_MO_flowOf 181 = .ok (.goto 5, 3) := by decide +kernel
theorem zd_MO_flowOf_184 : decode zb_MO_flowOf 184 = .ok (.iload 7, 2) := by decide +kernel
theorem zd_MO_flowOf_186 : decode zb_MO_flowOf 186 = .ok (.ireturn, 1) := by decide +kernel
theorem zd_MO_flowOf_187 : decode zb_MO_flowOf 187 = .ok (.aload_n 0, 1) := by decide +kernel
theorem zd_MO_flowOf_188 : decode zb_MO_flowOf 188 = .ok (.iload 4, 2) := by decide +kernel
theorem zd_MO_flowOf_190 : decode zb_MO_flowOf 190 = .ok (.iload_n 3, 1) := by decide +kernel
theorem zd_MO_flowOf_191 : decode zb_MO_flowOf 191 = .ok (.iload 4, 2) := by decide +kernel
theorem zd_MO_flowOf_193 : decode zb_MO_flowOf 193 = .ok (.iconst 1, 1) := by decide +kernel
theorem zd_MO_flowOf_194 : decode zb_MO_flowOf 194 = .ok (.if_icmp .ne 7, 3) := by decide +kernel
theorem zd_MO_flowOf_197 : decode zb_MO_flowOf 197 = .ok (.iconst 0, 1) := by decide +kernel
theorem zd_MO_flowOf_198 : decode zb_MO_flowOf 198 = .ok (.goto 5, 3) := by decide +kernel
theorem zd_MO_flowOf_201 : decode zb_MO_flowOf 201 = .ok (.iload 6, 2) := by decide +kernel
theorem zd_MO_flowOf_203 : decode zb_MO_flowOf 203 = .ok (.iconst 1, 1) := by decide +kernel
theorem zd_MO_flowOf_204 : decode zb_MO_flowOf 204 = .ok (.iload_n 2, 1) := by decide +kernel
theorem zd_MO_flowOf_205 : decode zb_MO_flowOf 205 = .ok (.iload 5, 2) := by decide +kernel
theorem zd_MO_flowOf_207 : decode zb_MO_flowOf 207 = .ok (.invokevirtual 109, 3) := by decide +kernel
theorem zd_MO_flowOf_210 : decode zb_MO_flowOf 210 = .ok (.istore 7, 2) := by decide +kernel
theorem zd_MO_flowOf_212 : decode zb_MO_flowOf 212 = .ok (.iload 7, 2) := by decide +kernel
theorem zd_MO_flowOf_214 : decode zb_MO_flowOf 214 = .ok (.ifCond .lt 8, 3) := by decide +kernel
theorem zd_MO_flowOf_217 : decode zb_MO_flowOf 217 = .ok (.iload 7, 2) := by decide +kernel
theorem zd_MO_flowOf_219 : decode zb_MO_flowOf 219 = .ok (.goto 25, 3) := by decide +kernel
theorem zd_MO_flowOf_222 : decode zb_MO_flowOf 222 = .ok (.aload_n 0, 1) := by decide +kernel
theorem zd_MO_flowOf_223 : decode zb_MO_flowOf 223 = .ok (.iload 4, 2) := by decide +kernel
theorem zd_MO_flowOf_225 : decode zb_MO_flowOf 225 = .ok (.iload_n 2, 1) := by decide +kernel
theorem zd_MO_flowOf_226 : decode zb_MO_flowOf 226 = .ok (.iload 5, 2) := by decide +kernel
theorem zd_MO_flowOf_228 : decode zb_MO_flowOf 228 = .ok (.iload_n 3, 1) := by decide +kernel
theorem zd_MO_flowOf_229 : decode zb_MO_flowOf 229 = .ok (.iload 4, 2) := by decide +kernel
theorem zd_MO_flowOf_231 : decode zb_MO_flowOf 231 = .ok (.iconst 1, 1) := by decide +kernel
theorem zd_MO_flowOf_232 : decode zb_MO_flowOf 232 = .ok (.if_icmp .ne 7, 3) := by decide +kernel
theorem zd_MO_flowOf_235 : decode zb_MO_flowOf 235 = .ok (.iconst 0, 1) := by decide +kernel
theorem zd_MO_flowOf_236 : decode zb_MO_flowOf 236 = .ok (.goto 5, 3) := by decide +kernel
theorem zd_MO_flowOf_239 : decode zb_MO_flowOf 239 = .ok (.iload 6, 2) := by decide +kernel
theorem zd_MO_flowOf_241 : decode zb_MO_flowOf 241 = .ok (.invokevirtual 120, 3) := by decide +kernel
theorem zd_MO_flowOf_244 : decode zb_MO_flowOf 244 = .ok (.ireturn, 1) := by decide +kernel
abbrev zb_MO_setAddress : ByteArray := prog_9_method_22_code
def zy_MO_setAddress : MethodName := ⟨"PortTranslatorModel", "setAddress", "(II)V"⟩
theorem zd_MO_setAddress_0 : decode zb_MO_setAddress 0 = .ok (.aload_n 0, 1) := by decide +kernel
theorem zd_MO_setAddress_1 : decode zb_MO_setAddress 1 = .ok (.getfield 7, 3) := by decide +kernel
theorem zd_MO_setAddress_4 : decode zb_MO_setAddress 4 = .ok (.iload_n 1, 1) := by decide +kernel
theorem zd_MO_setAddress_5 : decode zb_MO_setAddress 5 = .ok (.iload_n 2, 1) := by decide +kernel
theorem zd_MO_setAddress_6 : decode zb_MO_setAddress 6 = .ok (.bipush 16, 2) := by decide +kernel
theorem zd_MO_setAddress_8 : decode zb_MO_setAddress 8 = .ok (.iushr, 1) := by decide +kernel
theorem zd_MO_setAddress_9 : decode zb_MO_setAddress 9 = .ok (.iastore, 1) := by decide +kernel
theorem zd_MO_setAddress_10 : decode zb_MO_setAddress 10 = .ok (.aload_n 0, 1) := by decide +kernel
theorem zd_MO_setAddress_11 : decode zb_MO_setAddress 11 = .ok (.getfield 7, 3) := by decide +kernel
theorem zd_MO_setAddress_14 : decode zb_MO_setAddress 14 = .ok (.iload_n 1, 1) := by decide +kernel
theorem zd_MO_setAddress_15 : decode zb_MO_setAddress 15 = .ok (.iconst 1, 1) := by decide +kernel
theorem zd_MO_setAddress_16 : decode zb_MO_setAddress 16 = .ok (.iadd, 1) := by decide +kernel
theorem zd_MO_setAddress_17 : decode zb_MO_setAddress 17 = .ok (.iload_n 2, 1) := by decide +kernel
theorem zd_MO_setAddress_18 : decode zb_MO_setAddress 18 = .ok (.ldc 62, 2) := by decide +kernel
theorem zd_MO_setAddress_20 : decode zb_MO_setAddress 20 = .ok (.iand, 1) := by decide +kernel
theorem zd_MO_setAddress_21 : decode zb_MO_setAddress 21 = .ok (.iastore, 1) := by decide +kernel
theorem zd_MO_setAddress_22 : decode zb_MO_setAddress 22 = .ok (.return_, 1) := by decide +kernel
abbrev zb_MO_adjusted : ByteArray := prog_9_method_23_code
def zy_MO_adjusted : MethodName := ⟨"PortTranslatorModel", "adjusted", "(III)I"⟩
theorem zd_MO_adjusted_0 : decode zb_MO_adjusted 0 = .ok (.iload_n 0, 1) := by decide +kernel
theorem zd_MO_adjusted_1 : decode zb_MO_adjusted 1 = .ok (.ldc 62, 2) := by decide +kernel
theorem zd_MO_adjusted_3 : decode zb_MO_adjusted 3 = .ok (.iadd, 1) := by decide +kernel
theorem zd_MO_adjusted_4 : decode zb_MO_adjusted 4 = .ok (.iload_n 1, 1) := by decide +kernel
theorem zd_MO_adjusted_5 : decode zb_MO_adjusted 5 = .ok (.isub, 1) := by decide +kernel
theorem zd_MO_adjusted_6 : decode zb_MO_adjusted 6 = .ok (.iload_n 2, 1) := by decide +kernel
theorem zd_MO_adjusted_7 : decode zb_MO_adjusted 7 = .ok (.iadd, 1) := by decide +kernel
theorem zd_MO_adjusted_8 : decode zb_MO_adjusted 8 = .ok (.ireturn, 1) := by decide +kernel
abbrev zb_MO_changeOther : ByteArray := prog_9_method_24_code
def zy_MO_changeOther : MethodName := ⟨"PortTranslatorModel", "changeOther", "(IIII)V"⟩
theorem zd_MO_changeOther_0 : decode zb_MO_changeOther 0 = .ok (.aload_n 0, 1) := by decide +kernel
theorem zd_MO_changeOther_1 : decode zb_MO_changeOther 1 = .ok (.getfield 7, 3) := by decide +kernel
theorem zd_MO_changeOther_4 : decode zb_MO_changeOther 4 = .ok (.iload_n 1, 1) := by decide +kernel
theorem zd_MO_changeOther_5 : decode zb_MO_changeOther 5 = .ok (.iaload, 1) := by decide +kernel
theorem zd_MO_changeOther_6 : decode zb_MO_changeOther 6 = .ok (.istore 5, 2) := by decide +kernel
theorem zd_MO_changeOther_8 : decode zb_MO_changeOther 8 = .ok (.aload_n 0, 1) := by decide +kernel
theorem zd_MO_changeOther_9 : decode zb_MO_changeOther 9 = .ok (.getfield 7, 3) := by decide +kernel
theorem zd_MO_changeOther_12 : decode zb_MO_changeOther 12 = .ok (.iload_n 1, 1) := by decide +kernel
theorem zd_MO_changeOther_13 : decode zb_MO_changeOther 13 = .ok (.iconst 1, 1) := by decide +kernel
theorem zd_MO_changeOther_14 : decode zb_MO_changeOther 14 = .ok (.iadd, 1) := by decide +kernel
theorem zd_MO_changeOther_15 : decode zb_MO_changeOther 15 = .ok (.iaload, 1) := by decide +kernel
theorem zd_MO_changeOther_16 : decode zb_MO_changeOther 16 = .ok (.istore 6, 2) := by decide +kernel
theorem zd_MO_changeOther_18 : decode zb_MO_changeOther 18 = .ok (.aload_n 0, 1) := by decide +kernel
theorem zd_MO_changeOther_19 : decode zb_MO_changeOther 19 = .ok (.getfield 7, 3) := by decide +kernel
theorem zd_MO_changeOther_22 : decode zb_MO_changeOther 22 = .ok (.iload_n 2, 1) := by decide +kernel
theorem zd_MO_changeOther_23 : decode zb_MO_changeOther 23 = .ok (.iaload, 1) := by decide +kernel
theorem zd_MO_changeOther_24 : decode zb_MO_changeOther 24 = .ok (.istore 7, 2) := by decide +kernel
theorem zd_MO_changeOther_26 : decode zb_MO_changeOther 26 = .ok (.aload_n 0, 1) := by decide +kernel
theorem zd_MO_changeOther_27 : decode zb_MO_changeOther 27 = .ok (.iload_n 1, 1) := by decide +kernel
theorem zd_MO_changeOther_28 : decode zb_MO_changeOther 28 = .ok (.iload_n 3, 1) := by decide +kernel
theorem zd_MO_changeOther_29 : decode zb_MO_changeOther 29 = .ok (.invokevirtual 124, 3) := by decide +kernel
theorem zd_MO_changeOther_32 : decode zb_MO_changeOther 32 = .ok (.aload_n 0, 1) := by decide +kernel
theorem zd_MO_changeOther_33 : decode zb_MO_changeOther 33 = .ok (.getfield 7, 3) := by decide +kernel
theorem zd_MO_changeOther_36 : decode zb_MO_changeOther 36 = .ok (.iload_n 2, 1) := by decide +kernel
theorem zd_MO_changeOther_37 : decode zb_MO_changeOther 37 = .ok (.iload 4, 2) := by decide +kernel
theorem zd_MO_changeOther_39 : decode zb_MO_changeOther 39 = .ok (.iastore, 1) := by decide +kernel
theorem zd_MO_changeOther_40 : decode zb_MO_changeOther 40 = .ok (.ldc 62, 2) := by decide +kernel
theorem zd_MO_changeOther_42 : decode zb_MO_changeOther 42 = .ok (.aload_n 0, 1) := by decide +kernel
theorem zd_MO_changeOther_43 : decode zb_MO_changeOther 43 = .ok (.getfield 7, 3) := by decide +kernel
theorem zd_MO_changeOther_46 : decode zb_MO_changeOther 46 = .ok (.bipush 19, 2) := by decide +kernel
theorem zd_MO_changeOther_48 : decode zb_MO_changeOther 48 = .ok (.iaload, 1) := by decide +kernel
theorem zd_MO_changeOther_49 : decode zb_MO_changeOther 49 = .ok (.isub, 1) := by decide +kernel
theorem zd_MO_changeOther_50 : decode zb_MO_changeOther 50 = .ok (.iload 5, 2) := by decide +kernel
theorem zd_MO_changeOther_52 : decode zb_MO_changeOther 52 = .ok (.aload_n 0, 1) := by decide +kernel
theorem zd_MO_changeOther_53 : decode zb_MO_changeOther 53 = .ok (.getfield 7, 3) := by decide +kernel
theorem zd_MO_changeOther_56 : decode zb_MO_changeOther 56 = .ok (.iload_n 1, 1) := by decide +kernel
theorem zd_MO_changeOther_57 : decode zb_MO_changeOther 57 = .ok (.iaload, 1) := by decide +kernel
theorem zd_MO_changeOther_58 : decode zb_MO_changeOther 58 = .ok (.invokestatic 128, 3) := by decide +kernel
theorem zd_MO_changeOther_61 : decode zb_MO_changeOther 61 = .ok (.iload 6, 2) := by decide +kernel
theorem zd_MO_changeOther_63 : decode zb_MO_changeOther 63 = .ok (.aload_n 0, 1) := by decide +kernel
theorem zd_MO_changeOther_64 : decode zb_MO_changeOther 64 = .ok (.getfield 7, 3) := by decide +kernel
theorem zd_MO_changeOther_67 : decode zb_MO_changeOther 67 = .ok (.iload_n 1, 1) := by decide +kernel
theorem zd_MO_changeOther_68 : decode zb_MO_changeOther 68 = .ok (.iconst 1, 1) := by decide +kernel
theorem zd_MO_changeOther_69 : decode zb_MO_changeOther 69 = .ok (.iadd, 1) := by decide +kernel
theorem zd_MO_changeOther_70 : decode zb_MO_changeOther 70 = .ok (.iaload, 1) := by decide +kernel
theorem zd_MO_changeOther_71 : decode zb_MO_changeOther 71 = .ok (.invokestatic 128, 3) := by decide +kernel
theorem zd_MO_changeOther_74 : decode zb_MO_changeOther 74 = .ok (.istore 8, 2) := by decide +kernel
theorem zd_MO_changeOther_76 : decode zb_MO_changeOther 76 = .ok (.aload_n 0, 1) := by decide +kernel
theorem zd_MO_changeOther_77 : decode zb_MO_changeOther 77 = .ok (.getfield 7, 3) := by decide +kernel
theorem zd_MO_changeOther_80 : decode zb_MO_changeOther 80 = .ok (.bipush 19, 2) := by decide +kernel
theorem zd_MO_changeOther_82 : decode zb_MO_changeOther 82 = .ok (.ldc 62, 2) := by decide +kernel
theorem zd_MO_changeOther_84 : decode zb_MO_changeOther 84 = .ok (.iload 8, 2) := by decide +kernel
theorem zd_MO_changeOther_86 : decode zb_MO_changeOther 86 = .ok (.invokestatic 72, 3) := by decide +kernel
theorem zd_MO_changeOther_89 : decode zb_MO_changeOther 89 = .ok (.isub, 1) := by decide +kernel
theorem zd_MO_changeOther_90 : decode zb_MO_changeOther 90 = .ok (.iastore, 1) := by decide +kernel
theorem zd_MO_changeOther_91 : decode zb_MO_changeOther 91 = .ok (.aload_n 0, 1) := by decide +kernel
theorem zd_MO_changeOther_92 : decode zb_MO_changeOther 92 = .ok (.getfield 7, 3) := by decide +kernel
theorem zd_MO_changeOther_95 : decode zb_MO_changeOther 95 = .ok (.bipush 18, 2) := by decide +kernel
theorem zd_MO_changeOther_97 : decode zb_MO_changeOther 97 = .ok (.iaload, 1) := by decide +kernel
theorem zd_MO_changeOther_98 : decode zb_MO_changeOther 98 = .ok (.sipush 255, 3) := by decide +kernel
theorem zd_MO_changeOther_101 : decode zb_MO_changeOther 101 = .ok (.iand, 1) := by decide +kernel
theorem zd_MO_changeOther_102 : decode zb_MO_changeOther 102 = .ok (.istore 9, 2) := by decide +kernel
theorem zd_MO_changeOther_104 : decode zb_MO_changeOther 104 = .ok (.iload 9, 2) := by decide +kernel
theorem zd_MO_changeOther_106 : decode zb_MO_changeOther 106 = .ok (.bipush 17, 2) := by decide +kernel
theorem zd_MO_changeOther_108 : decode zb_MO_changeOther 108 = .ok (.if_icmp .ne 74, 3) := by decide +kernel
theorem zd_MO_changeOther_111 : decode zb_MO_changeOther 111 = .ok (.aload_n 0, 1) := by decide +kernel
theorem zd_MO_changeOther_112 : decode zb_MO_changeOther 112 = .ok (.getfield 7, 3) := by decide +kernel
theorem zd_MO_changeOther_115 : decode zb_MO_changeOther 115 = .ok (.bipush 27, 2) := by decide +kernel
theorem zd_MO_changeOther_117 : decode zb_MO_changeOther 117 = .ok (.iaload, 1) := by decide +kernel
theorem zd_MO_changeOther_118 : decode zb_MO_changeOther 118 = .ok (.ifCond .eq 64, 3) := by decide +kernel
theorem zd_MO_changeOther_121 : decode zb_MO_changeOther 121 = .ok (.ldc 62, 2) := by decide +kernel
theorem zd_MO_changeOther_123 : decode zb_MO_changeOther 123 = .ok (.aload_n 0, 1) := by decide +kernel
theorem zd_MO_changeOther_124 : decode zb_MO_changeOther 124 = .ok (.getfield 7, 3) := by decide +kernel
theorem zd_MO_changeOther_127 : decode zb_MO_changeOther 127 = .ok (.bipush 27, 2) := by decide +kernel
theorem zd_MO_changeOther_129 : decode zb_MO_changeOther 129 = .ok (.iaload, 1) := by decide +kernel
theorem zd_MO_changeOther_130 : decode zb_MO_changeOther 130 = .ok (.isub, 1) := by decide +kernel
theorem zd_MO_changeOther_131 : decode zb_MO_changeOther 131 = .ok (.iload 5, 2) := by decide +kernel
theorem zd_MO_changeOther_133 : decode zb_MO_changeOther 133 = .ok (.aload_n 0, 1) := by decide +kernel
theorem zd_MO_changeOther_134 : decode zb_MO_changeOther 134 = .ok (.getfield 7, 3) := by decide +kernel
theorem zd_MO_changeOther_137 : decode zb_MO_changeOther 137 = .ok (.iload_n 1, 1) := by decide +kernel
theorem zd_MO_changeOther_138 : decode zb_MO_changeOther 138 = .ok (.iaload, 1) := by decide +kernel
theorem zd_MO_changeOther_139 : decode zb_MO_changeOther 139 = .ok (.invokestatic 128, 3) := by decide +kernel
theorem zd_MO_changeOther_142 : decode zb_MO_changeOther 142 = .ok (.iload 6, 2) := by decide +kernel
theorem zd_MO_changeOther_144 : decode zb_MO_changeOther 144 = .ok (.aload_n 0, 1) := by decide +kernel
theorem zd_MO_changeOther_145 : decode zb_MO_changeOther 145 = .ok (.getfield 7, 3) := by decide +kernel
theorem zd_MO_changeOther_148 : decode zb_MO_changeOther 148 = .ok (.iload_n 1, 1) := by decide +kernel
theorem zd_MO_changeOther_149 : decode zb_MO_changeOther 149 = .ok (.iconst 1, 1) := by decide +kernel
theorem zd_MO_changeOther_150 : decode zb_MO_changeOther 150 = .ok (.iadd, 1) := by decide +kernel
theorem zd_MO_changeOther_151 : decode zb_MO_changeOther 151 = .ok (.iaload, 1) := by decide +kernel
theorem zd_MO_changeOther_152 : decode zb_MO_changeOther 152 = .ok (.invokestatic 128, 3) := by decide +kernel
theorem zd_MO_changeOther_155 : decode zb_MO_changeOther 155 = .ok (.iload 7, 2) := by decide +kernel
theorem zd_MO_changeOther_157 : decode zb_MO_changeOther 157 = .ok (.iload 4, 2) := by decide +kernel
theorem zd_MO_changeOther_159 : decode zb_MO_changeOther 159 = .ok (.invokestatic 128, 3) := by decide +kernel
theorem zd_MO_changeOther_162 : decode zb_MO_changeOther 162 = .ok (.istore 10, 2) := by decide +kernel
theorem zd_MO_changeOther_164 : decode zb_MO_changeOther 164 = .ok (.aload_n 0, 1) := by decide +kernel
theorem zd_MO_changeOther_165 : decode zb_MO_changeOther 165 = .ok (.getfield 7, 3) := by decide +kernel
theorem zd_MO_changeOther_168 : decode zb_MO_changeOther 168 = .ok (.bipush 27, 2) := by decide +kernel
theorem zd_MO_changeOther_170 : decode zb_MO_changeOther 170 = .ok (.ldc 62, 2) := by decide +kernel
theorem zd_MO_changeOther_172 : decode zb_MO_changeOther 172 = .ok (.iload 10, 2) := by decide +kernel
theorem zd_MO_changeOther_174 : decode zb_MO_changeOther 174 = .ok (.invokestatic 72, 3) := by decide +kernel
theorem zd_MO_changeOther_177 : decode zb_MO_changeOther 177 = .ok (.isub, 1) := by decide +kernel
theorem zd_MO_changeOther_178 : decode zb_MO_changeOther 178 = .ok (.iastore, 1) := by decide +kernel
theorem zd_MO_changeOther_179 : decode zb_MO_changeOther 179 = .ok (.goto 39, 3) := by decide +kernel
theorem zd_MO_changeOther_182 : decode zb_MO_changeOther 182 = .ok (.iload 9, 2) := by decide +kernel
theorem zd_MO_changeOther_184 : decode zb_MO_changeOther 184 = .ok (.iconst 1, 1) := by decide +kernel
theorem zd_MO_changeOther_185 : decode zb_MO_changeOther 185 = .ok (.if_icmp .ne 33, 3) := by decide +kernel
theorem zd_MO_changeOther_188 : decode zb_MO_changeOther 188 = .ok (.aload_n 0, 1) := by decide +kernel
theorem zd_MO_changeOther_189 : decode zb_MO_changeOther 189 = .ok (.getfield 7, 3) := by decide +kernel
theorem zd_MO_changeOther_192 : decode zb_MO_changeOther 192 = .ok (.bipush 25, 2) := by decide +kernel
theorem zd_MO_changeOther_194 : decode zb_MO_changeOther 194 = .ok (.ldc 62, 2) := by decide +kernel
theorem zd_MO_changeOther_196 : decode zb_MO_changeOther 196 = .ok (.ldc 62, 2) := by decide +kernel
theorem zd_MO_changeOther_198 : decode zb_MO_changeOther 198 = .ok (.aload_n 0, 1) := by decide +kernel
theorem zd_MO_changeOther_199 : decode zb_MO_changeOther 199 = .ok (.getfield 7, 3) := by decide +kernel
theorem zd_MO_changeOther_202 : decode zb_MO_changeOther 202 = .ok (.bipush 25, 2) := by decide +kernel
theorem zd_MO_changeOther_204 : decode zb_MO_changeOther 204 = .ok (.iaload, 1) := by decide +kernel
theorem zd_MO_changeOther_205 : decode zb_MO_changeOther 205 = .ok (.isub, 1) := by decide +kernel
theorem zd_MO_changeOther_206 : decode zb_MO_changeOther 206 = .ok (.iload 7, 2) := by decide +kernel
theorem zd_MO_changeOther_208 : decode zb_MO_changeOther 208 = .ok (.iload 4, 2) := by decide +kernel
theorem zd_MO_changeOther_210 : decode zb_MO_changeOther 210 = .ok (.invokestatic 128, 3) := by decide +kernel
theorem zd_MO_changeOther_213 : decode zb_MO_changeOther 213 = .ok (.invokestatic 72, 3) := by decide +kernel
theorem zd_MO_changeOther_216 : decode zb_MO_changeOther 216 = .ok (.isub, 1) := by decide +kernel
theorem zd_MO_changeOther_217 : decode zb_MO_changeOther 217 = .ok (.iastore, 1) := by decide +kernel
theorem zd_MO_changeOther_218 : decode zb_MO_changeOther 218 = .ok (.return_, 1) := by decide +kernel
abbrev zb_MO_writeSums : ByteArray := prog_9_method_25_code
def zy_MO_writeSums : MethodName := ⟨"PortTranslatorModel", "writeSums", "(I)V"⟩
theorem zd_MO_writeSums_0 : decode zb_MO_writeSums 0 = .ok (.aload_n 0, 1) := by decide +kernel
theorem zd_MO_writeSums_1 : decode zb_MO_writeSums 1 = .ok (.getfield 7, 3) := by decide +kernel
theorem zd_MO_writeSums_4 : decode zb_MO_writeSums 4 = .ok (.iconst 5, 1) := by decide +kernel
theorem zd_MO_writeSums_5 : decode zb_MO_writeSums 5 = .ok (.iconst 0, 1) := by decide +kernel
theorem zd_MO_writeSums_6 : decode zb_MO_writeSums 6 = .ok (.iastore, 1) := by decide +kernel
theorem zd_MO_writeSums_7 : decode zb_MO_writeSums 7 = .ok (.aload_n 0, 1) := by decide +kernel
theorem zd_MO_writeSums_8 : decode zb_MO_writeSums 8 = .ok (.getfield 7, 3) := by decide +kernel
theorem zd_MO_writeSums_11 : decode zb_MO_writeSums 11 = .ok (.iconst 5, 1) := by decide +kernel
theorem zd_MO_writeSums_12 : decode zb_MO_writeSums 12 = .ok (.ldc 62, 2) := by decide +kernel
theorem zd_MO_writeSums_14 : decode zb_MO_writeSums 14 = .ok (.aload_n 0, 1) := by decide +kernel
theorem zd_MO_writeSums_15 : decode zb_MO_writeSums 15 = .ok (.iconst 0, 1) := by decide +kernel
theorem zd_MO_writeSums_16 : decode zb_MO_writeSums 16 = .ok (.bipush 10, 2) := by decide +kernel
theorem zd_MO_writeSums_18 : decode zb_MO_writeSums 18 = .ok (.invokevirtual 64, 3) := by decide +kernel
theorem zd_MO_writeSums_21 : decode zb_MO_writeSums 21 = .ok (.invokestatic 72, 3) := by decide +kernel
theorem zd_MO_writeSums_24 : decode zb_MO_writeSums 24 = .ok (.isub, 1) := by decide +kernel
theorem zd_MO_writeSums_25 : decode zb_MO_writeSums 25 = .ok (.iastore, 1) := by decide +kernel
theorem zd_MO_writeSums_26 : decode zb_MO_writeSums 26 = .ok (.iload_n 1, 1) := by decide +kernel
theorem zd_MO_writeSums_27 : decode zb_MO_writeSums 27 = .ok (.bipush 6, 2) := by decide +kernel
theorem zd_MO_writeSums_29 : decode zb_MO_writeSums 29 = .ok (.if_icmp .ne 8, 3) := by decide +kernel
theorem zd_MO_writeSums_32 : decode zb_MO_writeSums 32 = .ok (.bipush 18, 2) := by decide +kernel
theorem zd_MO_writeSums_34 : decode zb_MO_writeSums 34 = .ok (.goto 16, 3) := by decide +kernel
theorem zd_MO_writeSums_37 : decode zb_MO_writeSums 37 = .ok (.iload_n 1, 1) := by decide +kernel
theorem zd_MO_writeSums_38 : decode zb_MO_writeSums 38 = .ok (.bipush 17, 2) := by decide +kernel
theorem zd_MO_writeSums_40 : decode zb_MO_writeSums 40 = .ok (.if_icmp .ne 8, 3) := by decide +kernel
theorem zd_MO_writeSums_43 : decode zb_MO_writeSums 43 = .ok (.bipush 13, 2) := by decide +kernel
theorem zd_MO_writeSums_45 : decode zb_MO_writeSums 45 = .ok (.goto 5, 3) := by decide +kernel
theorem zd_MO_writeSums_48 : decode zb_MO_writeSums 48 = .ok (.bipush 11, 2) := by decide +kernel
theorem zd_MO_writeSums_50 : decode zb_MO_writeSums 50 = .ok (.istore_n 2, 1) := by decide +kernel
theorem zd_MO_writeSums_51 : decode zb_MO_writeSums 51 = .ok (.iload_n 1, 1) := by decide +kernel
theorem zd_MO_writeSums_52 : decode zb_MO_writeSums 52 = .ok (.bipush 17, 2) := by decide +kernel
theorem zd_MO_writeSums_54 : decode zb_MO_writeSums 54 = .ok (.if_icmp .ne 13, 3) := by decide +kernel
theorem zd_MO_writeSums_57 : decode zb_MO_writeSums 57 = .ok (.aload_n 0, 1) := by decide +kernel
theorem zd_MO_writeSums_58 : decode zb_MO_writeSums 58 = .ok (.getfield 7, 3) := by decide +kernel
theorem zd_MO_writeSums_61 : decode zb_MO_writeSums 61 = .ok (.iload_n 2, 1) := by decide +kernel
theorem zd_MO_writeSums_62 : decode zb_MO_writeSums 62 = .ok (.iaload, 1) := by decide +kernel
theorem zd_MO_writeSums_63 : decode zb_MO_writeSums 63 = .ok (.ifCond .ne 4, 3) := by decide +kernel
theorem zd_MO_writeSums_66 : decode zb_MO_writeSums 66 = .ok (.return_, 1) := by decide +kernel
theorem zd_MO_writeSums_67 : decode zb_MO_writeSums 67 = .ok (.aload_n 0, 1) := by decide +kernel
theorem zd_MO_writeSums_68 : decode zb_MO_writeSums 68 = .ok (.getfield 7, 3) := by decide +kernel
theorem zd_MO_writeSums_71 : decode zb_MO_writeSums 71 = .ok (.iload_n 2, 1) := by decide +kernel
theorem zd_MO_writeSums_72 : decode zb_MO_writeSums 72 = .ok (.iconst 0, 1) := by decide +kernel
theorem zd_MO_writeSums_73 : decode zb_MO_writeSums 73 = .ok (.iastore, 1) := by decide +kernel
theorem zd_MO_writeSums_74 : decode zb_MO_writeSums 74 = .ok (.ldc 62, 2) := by decide +kernel
theorem zd_MO_writeSums_76 : decode zb_MO_writeSums 76 = .ok (.aload_n 0, 1) := by decide +kernel
theorem zd_MO_writeSums_77 : decode zb_MO_writeSums 77 = .ok (.iload_n 1, 1) := by decide +kernel
theorem zd_MO_writeSums_78 : decode zb_MO_writeSums 78 = .ok (.invokevirtual 68, 3) := by decide +kernel
theorem zd_MO_writeSums_81 : decode zb_MO_writeSums 81 = .ok (.invokestatic 72, 3) := by decide +kernel
theorem zd_MO_writeSums_84 : decode zb_MO_writeSums 84 = .ok (.isub, 1) := by decide +kernel
theorem zd_MO_writeSums_85 : decode zb_MO_writeSums 85 = .ok (.istore_n 3, 1) := by decide +kernel
theorem zd_MO_writeSums_86 : decode zb_MO_writeSums 86 = .ok (.aload_n 0, 1) := by decide +kernel
theorem zd_MO_writeSums_87 : decode zb_MO_writeSums 87 = .ok (.getfield 7, 3) := by decide +kernel
theorem zd_MO_writeSums_90 : decode zb_MO_writeSums 90 = .ok (.iload_n 2, 1) := by decide +kernel
theorem zd_MO_writeSums_91 : decode zb_MO_writeSums 91 = .ok (.iload_n 1, 1) := by decide +kernel
theorem zd_MO_writeSums_92 : decode zb_MO_writeSums 92 = .ok (.bipush 17, 2) := by decide +kernel
theorem zd_MO_writeSums_94 : decode zb_MO_writeSums 94 = .ok (.if_icmp .ne 12, 3) := by decide +kernel
theorem zd_MO_writeSums_97 : decode zb_MO_writeSums 97 = .ok (.iload_n 3, 1) := by decide +kernel
theorem zd_MO_writeSums_98 : decode zb_MO_writeSums 98 = .ok (.ifCond .ne 8, 3) := by decide +kernel
theorem zd_MO_writeSums_101 : decode zb_MO_writeSums 101 = .ok (.ldc 62, 2) := by decide +kernel
theorem zd_MO_writeSums_103 : decode zb_MO_writeSums 103 = .ok (.goto 4, 3) := by decide +kernel
theorem zd_MO_writeSums_106 : decode zb_MO_writeSums 106 = .ok (.iload_n 3, 1) := by decide +kernel
theorem zd_MO_writeSums_107 : decode zb_MO_writeSums 107 = .ok (.iastore, 1) := by decide +kernel
theorem zd_MO_writeSums_108 : decode zb_MO_writeSums 108 = .ok (.return_, 1) := by decide +kernel
abbrev zb_MO_rewrite : ByteArray := prog_9_method_26_code
def zy_MO_rewrite : MethodName := ⟨"PortTranslatorModel", "rewrite", "(ZI)V"⟩
theorem zd_MO_rewrite_0 : decode zb_MO_rewrite 0 = .ok (.aload_n 0, 1) := by decide +kernel
theorem zd_MO_rewrite_1 : decode zb_MO_rewrite 1 = .ok (.getfield 7, 3) := by decide +kernel
theorem zd_MO_rewrite_4 : decode zb_MO_rewrite 4 = .ok (.iconst 4, 1) := by decide +kernel
theorem zd_MO_rewrite_5 : decode zb_MO_rewrite 5 = .ok (.iaload, 1) := by decide +kernel
theorem zd_MO_rewrite_6 : decode zb_MO_rewrite 6 = .ok (.sipush 255, 3) := by decide +kernel
theorem zd_MO_rewrite_9 : decode zb_MO_rewrite 9 = .ok (.iand, 1) := by decide +kernel
theorem zd_MO_rewrite_10 : decode zb_MO_rewrite 10 = .ok (.istore_n 3, 1) := by decide +kernel
theorem zd_MO_rewrite_11 : decode zb_MO_rewrite 11 = .ok (.iload_n 1, 1) := by decide +kernel
theorem zd_MO_rewrite_12 : decode zb_MO_rewrite 12 = .ok (.ifCond .eq 8, 3) := by decide +kernel
theorem zd_MO_rewrite_15 : decode zb_MO_rewrite 15 = .ok (.ldc 92, 2) := by decide +kernel
theorem zd_MO_rewrite_17 : decode zb_MO_rewrite 17 = .ok (.goto 9, 3) := by decide +kernel
theorem zd_MO_rewrite_20 : decode zb_MO_rewrite 20 = .ok (.aload_n 0, 1) := by decide +kernel
theorem zd_MO_rewrite_21 : decode zb_MO_rewrite 21 = .ok (.getfield 32, 3) := by decide +kernel
theorem zd_MO_rewrite_24 : decode zb_MO_rewrite 24 = .ok (.iload_n 2, 1) := by decide +kernel
theorem zd_MO_rewrite_25 : decode zb_MO_rewrite 25 = .ok (.iaload, 1) := by decide +kernel
theorem zd_MO_rewrite_26 : decode zb_MO_rewrite 26 = .ok (.istore 4, 2) := by decide +kernel
theorem zd_MO_rewrite_28 : decode zb_MO_rewrite 28 = .ok (.iload_n 1, 1) := by decide +kernel
theorem zd_MO_rewrite_29 : decode zb_MO_rewrite 29 = .ok (.ifCond .eq 12, 3) := by decide +kernel
theorem zd_MO_rewrite_32 : decode zb_MO_rewrite 32 = .ok (.aload_n 0, 1) := by decide +kernel
theorem zd_MO_rewrite_33 : decode zb_MO_rewrite 33 = .ok (.getfield 44, 3) := by decide +kernel
theorem zd_MO_rewrite_36 : decode zb_MO_rewrite 36 = .ok (.iload_n 2, 1) := by decide +kernel
theorem zd_MO_rewrite_37 : decode zb_MO_rewrite 37 = .ok (.iaload, 1) := by decide +kernel
theorem zd_MO_rewrite_38 : decode zb_MO_rewrite 38 = .ok (.goto 9, 3) := by decide +kernel
theorem zd_MO_rewrite_41 : decode zb_MO_rewrite 41 = .ok (.aload_n 0, 1) := by decide +kernel
theorem zd_MO_rewrite_42 : decode zb_MO_rewrite 42 = .ok (.getfield 35, 3) := by decide +kernel
theorem zd_MO_rewrite_45 : decode zb_MO_rewrite 45 = .ok (.iload_n 2, 1) := by decide +kernel
theorem zd_MO_rewrite_46 : decode zb_MO_rewrite 46 = .ok (.iaload, 1) := by decide +kernel
theorem zd_MO_rewrite_47 : decode zb_MO_rewrite 47 = .ok (.istore 5, 2) := by decide +kernel
theorem zd_MO_rewrite_49 : decode zb_MO_rewrite 49 = .ok (.aload_n 0, 1) := by decide +kernel
theorem zd_MO_rewrite_50 : decode zb_MO_rewrite 50 = .ok (.getfield 7, 3) := by decide +kernel
theorem zd_MO_rewrite_53 : decode zb_MO_rewrite 53 = .ok (.iconst 4, 1) := by decide +kernel
theorem zd_MO_rewrite_54 : decode zb_MO_rewrite 54 = .ok (.aload_n 0, 1) := by decide +kernel
theorem zd_MO_rewrite_55 : decode zb_MO_rewrite 55 = .ok (.getfield 7, 3) := by decide +kernel
theorem zd_MO_rewrite_58 : decode zb_MO_rewrite 58 = .ok (.iconst 4, 1) := by decide +kernel
theorem zd_MO_rewrite_59 : decode zb_MO_rewrite 59 = .ok (.iaload, 1) := by decide +kernel
theorem zd_MO_rewrite_60 : decode zb_MO_rewrite 60 = .ok (.sipush 256, 3) := by decide +kernel
theorem zd_MO_rewrite_63 : decode zb_MO_rewrite 63 = .ok (.isub, 1) := by decide +kernel
theorem zd_MO_rewrite_64 : decode zb_MO_rewrite 64 = .ok (.iastore, 1) := by decide +kernel
theorem zd_MO_rewrite_65 : decode zb_MO_rewrite 65 = .ok (.aload_n 0, 1) := by decide +kernel
theorem zd_MO_rewrite_66 : decode zb_MO_rewrite 66 = .ok (.iload_n 1, 1) := by decide +kernel
theorem zd_MO_rewrite_67 : decode zb_MO_rewrite 67 = .ok (.ifCond .eq 8, 3) := by decide +kernel
theorem zd_MO_rewrite_70 : decode zb_MO_rewrite 70 = .ok (.bipush 6, 2) := by decide +kernel
theorem zd_MO_rewrite_72 : decode zb_MO_rewrite 72 = .ok (.goto 5, 3) := by decide +kernel
theorem zd_MO_rewrite_75 : decode zb_MO_rewrite 75 = .ok (.bipush 8, 2) := by decide +kernel
theorem zd_MO_rewrite_77 : decode zb_MO_rewrite 77 = .ok (.iload 4, 2) := by decide +kernel
theorem zd_MO_rewrite_79 : decode zb_MO_rewrite 79 = .ok (.invokevirtual 124, 3) := by decide +kernel
theorem zd_MO_rewrite_82 : decode zb_MO_rewrite 82 = .ok (.aload_n 0, 1) := by decide +kernel
theorem zd_MO_rewrite_83 : decode zb_MO_rewrite 83 = .ok (.invokevirtual 75, 3) := by decide +kernel
theorem zd_MO_rewrite_86 : decode zb_MO_rewrite 86 = .ok (.ifCond .eq 68, 3) := by decide +kernel
theorem zd_MO_rewrite_89 : decode zb_MO_rewrite 89 = .ok (.aload_n 0, 1) := by decide +kernel
theorem zd_MO_rewrite_90 : decode zb_MO_rewrite 90 = .ok (.getfield 7, 3) := by decide +kernel
theorem zd_MO_rewrite_93 : decode zb_MO_rewrite 93 = .ok (.bipush 18, 2) := by decide +kernel
theorem zd_MO_rewrite_95 : decode zb_MO_rewrite 95 = .ok (.iaload, 1) := by decide +kernel
theorem zd_MO_rewrite_96 : decode zb_MO_rewrite 96 = .ok (.sipush 255, 3) := by decide +kernel
theorem zd_MO_rewrite_99 : decode zb_MO_rewrite 99 = .ok (.iand, 1) := by decide +kernel
theorem zd_MO_rewrite_100 : decode zb_MO_rewrite 100 = .ok (.iconst 1, 1) := by decide +kernel
theorem zd_MO_rewrite_101 : decode zb_MO_rewrite 101 = .ok (.if_icmp .ne 7, 3) := by decide +kernel
theorem zd_MO_rewrite_104 : decode zb_MO_rewrite 104 = .ok (.iconst 1, 1) := by decide +kernel
theorem zd_MO_rewrite_105 : decode zb_MO_rewrite 105 = .ok (.goto 4, 3) := by decide +kernel
theorem zd_MO_rewrite_108 : decode zb_MO_rewrite 108 = .ok (.iconst 0, 1) := by decide +kernel
theorem zd_MO_rewrite_109 : decode zb_MO_rewrite 109 = .ok (.istore 6, 2) := by decide +kernel
theorem zd_MO_rewrite_111 : decode zb_MO_rewrite 111 = .ok (.aload_n 0, 1) := by decide +kernel
theorem zd_MO_rewrite_112 : decode zb_MO_rewrite 112 = .ok (.iload_n 1, 1) := by decide +kernel
theorem zd_MO_rewrite_113 : decode zb_MO_rewrite 113 = .ok (.ifCond .eq 8, 3) := by decide +kernel
theorem zd_MO_rewrite_116 : decode zb_MO_rewrite 116 = .ok (.bipush 22, 2) := by decide +kernel
theorem zd_MO_rewrite_118 : decode zb_MO_rewrite 118 = .ok (.goto 5, 3) := by decide +kernel
theorem zd_MO_rewrite_121 : decode zb_MO_rewrite 121 = .ok (.bipush 20, 2) := by decide +kernel
theorem zd_MO_rewrite_123 : decode zb_MO_rewrite 123 = .ok (.iload 6, 2) := by decide +kernel
theorem zd_MO_rewrite_125 : decode zb_MO_rewrite 125 = .ok (.ifCond .eq 8, 3) := by decide +kernel
theorem zd_MO_rewrite_128 : decode zb_MO_rewrite 128 = .ok (.bipush 26, 2) := by decide +kernel
theorem zd_MO_rewrite_130 : decode zb_MO_rewrite 130 = .ok (.goto 14, 3) := by decide +kernel
theorem zd_MO_rewrite_133 : decode zb_MO_rewrite 133 = .ok (.iload_n 1, 1) := by decide +kernel
theorem zd_MO_rewrite_134 : decode zb_MO_rewrite 134 = .ok (.ifCond .eq 8, 3) := by decide +kernel
theorem zd_MO_rewrite_137 : decode zb_MO_rewrite 137 = .ok (.bipush 25, 2) := by decide +kernel
theorem zd_MO_rewrite_139 : decode zb_MO_rewrite 139 = .ok (.goto 5, 3) := by decide +kernel
theorem zd_MO_rewrite_142 : decode zb_MO_rewrite 142 = .ok (.bipush 24, 2) := by decide +kernel
theorem zd_MO_rewrite_144 : decode zb_MO_rewrite 144 = .ok (.iload 4, 2) := by decide +kernel
theorem zd_MO_rewrite_146 : decode zb_MO_rewrite 146 = .ok (.iload 5, 2) := by decide +kernel
theorem zd_MO_rewrite_148 : decode zb_MO_rewrite 148 = .ok (.invokevirtual 131, 3) := by decide +kernel
theorem zd_MO_rewrite_151 : decode zb_MO_rewrite 151 = .ok (.goto 31, 3) := by decide +kernel
theorem zd_MO_rewrite_154 : decode zb_MO_rewrite 154 = .ok (.aload_n 0, 1) := by decide +kernel
theorem zd_MO_rewrite_155 : decode zb_MO_rewrite 155 = .ok (.getfield 7, 3) := by decide +kernel
theorem zd_MO_rewrite_158 : decode zb_MO_rewrite 158 = .ok (.iload_n 3, 1) := by decide +kernel
theorem zd_MO_rewrite_159 : decode zb_MO_rewrite 159 = .ok (.iconst 1, 1) := by decide +kernel
theorem zd_MO_rewrite_160 : decode zb_MO_rewrite 160 = .ok (.if_icmp .ne 8, 3) := by decide +kernel
theorem zd_MO_rewrite_163 : decode zb_MO_rewrite 163 = .ok (.bipush 12, 2) := by decide +kernel
theorem zd_MO_rewrite_165 : decode zb_MO_rewrite 165 = .ok (.goto 14, 3) := by decide +kernel
theorem zd_MO_rewrite_168 : decode zb_MO_rewrite 168 = .ok (.iload_n 1, 1) := by decide +kernel
theorem zd_MO_rewrite_169 : decode zb_MO_rewrite 169 = .ok (.ifCond .eq 8, 3) := by decide +kernel
theorem zd_MO_rewrite_172 : decode zb_MO_rewrite 172 = .ok (.bipush 10, 2) := by decide +kernel
theorem zd_MO_rewrite_174 : decode zb_MO_rewrite 174 = .ok (.goto 5, 3) := by decide +kernel
theorem zd_MO_rewrite_177 : decode zb_MO_rewrite 177 = .ok (.bipush 11, 2) := by decide +kernel
theorem zd_MO_rewrite_179 : decode zb_MO_rewrite 179 = .ok (.iload 5, 2) := by decide +kernel
theorem zd_MO_rewrite_181 : decode zb_MO_rewrite 181 = .ok (.iastore, 1) := by decide +kernel
theorem zd_MO_rewrite_182 : decode zb_MO_rewrite 182 = .ok (.aload_n 0, 1) := by decide +kernel
theorem zd_MO_rewrite_183 : decode zb_MO_rewrite 183 = .ok (.iload_n 3, 1) := by decide +kernel
theorem zd_MO_rewrite_184 : decode zb_MO_rewrite 184 = .ok (.invokevirtual 135, 3) := by decide +kernel
theorem zd_MO_rewrite_187 : decode zb_MO_rewrite 187 = .ok (.return_, 1) := by decide +kernel
abbrev zb_MO_touch : ByteArray := prog_9_method_27_code
def zy_MO_touch : MethodName := ⟨"PortTranslatorModel", "touch", "(ZI)V"⟩
theorem zd_MO_touch_0 : decode zb_MO_touch 0 = .ok (.aload_n 0, 1) := by decide +kernel
theorem zd_MO_touch_1 : decode zb_MO_touch 1 = .ok (.getfield 47, 3) := by decide +kernel
theorem zd_MO_touch_4 : decode zb_MO_touch 4 = .ok (.iload_n 2, 1) := by decide +kernel
theorem zd_MO_touch_5 : decode zb_MO_touch 5 = .ok (.iconst 0, 1) := by decide +kernel
theorem zd_MO_touch_6 : decode zb_MO_touch 6 = .ok (.iastore, 1) := by decide +kernel
theorem zd_MO_touch_7 : decode zb_MO_touch 7 = .ok (.aload_n 0, 1) := by decide +kernel
theorem zd_MO_touch_8 : decode zb_MO_touch 8 = .ok (.getfield 29, 3) := by decide +kernel
theorem zd_MO_touch_11 : decode zb_MO_touch 11 = .ok (.iload_n 2, 1) := by decide +kernel
theorem zd_MO_touch_12 : decode zb_MO_touch 12 = .ok (.iaload, 1) := by decide +kernel
theorem zd_MO_touch_13 : decode zb_MO_touch 13 = .ok (.bipush 6, 2) := by decide +kernel
theorem zd_MO_touch_15 : decode zb_MO_touch 15 = .ok (.if_icmp .eq 4, 3) := by decide +kernel
theorem zd_MO_touch_18 : decode zb_MO_touch 18 = .ok (.return_, 1) := by decide +kernel
theorem zd_MO_touch_19 : decode zb_MO_touch 19 = .ok (.aload_n 0, 1) := by decide +kernel
theorem zd_MO_touch_20 : decode zb_MO_touch 20 = .ok (.getfield 7, 3) := by decide +kernel
theorem zd_MO_touch_23 : decode zb_MO_touch 23 = .ok (.bipush 16, 2) := by decide +kernel
theorem zd_MO_touch_25 : decode zb_MO_touch 25 = .ok (.iaload, 1) := by decide +kernel
theorem zd_MO_touch_26 : decode zb_MO_touch 26 = .ok (.istore_n 3, 1) := by decide +kernel
theorem zd_MO_touch_27 : decode zb_MO_touch 27 = .ok (.iload_n 1, 1) := by decide +kernel
theorem zd_MO_touch_28 : decode zb_MO_touch 28 = .ok (.ifCond .ne 26, 3) := by decide +kernel
theorem zd_MO_touch_31 : decode zb_MO_touch 31 = .ok (.iload_n 3, 1) := by decide +kernel
theorem zd_MO_touch_32 : decode zb_MO_touch 32 = .ok (.bipush 18, 2) := by decide +kernel
theorem zd_MO_touch_34 : decode zb_MO_touch 34 = .ok (.iand, 1) := by decide +kernel
theorem zd_MO_touch_35 : decode zb_MO_touch 35 = .ok (.bipush 18, 2) := by decide +kernel
theorem zd_MO_touch_37 : decode zb_MO_touch 37 = .ok (.if_icmp .ne 17, 3) := by decide +kernel
theorem zd_MO_touch_40 : decode zb_MO_touch 40 = .ok (.aload_n 0, 1) := by decide +kernel
theorem zd_MO_touch_41 : decode zb_MO_touch 41 = .ok (.getfield 50, 3) := by decide +kernel
theorem zd_MO_touch_44 : decode zb_MO_touch 44 = .ok (.iload_n 2, 1) := by decide +kernel
theorem zd_MO_touch_45 : decode zb_MO_touch 45 = .ok (.aload_n 0, 1) := by decide +kernel
theorem zd_MO_touch_46 : decode zb_MO_touch 46 = .ok (.getfield 50, 3) := by decide +kernel
theorem zd_MO_touch_49 : decode zb_MO_touch 49 = .ok (.iload_n 2, 1) := by decide +kernel
theorem zd_MO_touch_50 : decode zb_MO_touch 50 = .ok (.iaload, 1) := by decide +kernel
theorem zd_MO_touch_51 : decode zb_MO_touch 51 = .ok (.iconst 1, 1) := by decide +kernel
theorem zd_MO_touch_52 : decode zb_MO_touch 52 = .ok (.ior, 1) := by decide +kernel
theorem zd_MO_touch_53 : decode zb_MO_touch 53 = .ok (.iastore, 1) := by decide +kernel
theorem zd_MO_touch_54 : decode zb_MO_touch 54 = .ok (.iload_n 3, 1) := by decide +kernel
theorem zd_MO_touch_55 : decode zb_MO_touch 55 = .ok (.iconst 1, 1) := by decide +kernel
theorem zd_MO_touch_56 : decode zb_MO_touch 56 = .ok (.iand, 1) := by decide +kernel
theorem zd_MO_touch_57 : decode zb_MO_touch 57 = .ok (.iconst 1, 1) := by decide +kernel
theorem zd_MO_touch_58 : decode zb_MO_touch 58 = .ok (.if_icmp .ne 25, 3) := by decide +kernel
theorem zd_MO_touch_61 : decode zb_MO_touch 61 = .ok (.aload_n 0, 1) := by decide +kernel
theorem zd_MO_touch_62 : decode zb_MO_touch 62 = .ok (.getfield 50, 3) := by decide +kernel
theorem zd_MO_touch_65 : decode zb_MO_touch 65 = .ok (.iload_n 2, 1) := by decide +kernel
theorem zd_MO_touch_66 : decode zb_MO_touch 66 = .ok (.aload_n 0, 1) := by decide +kernel
theorem zd_MO_touch_67 : decode zb_MO_touch 67 = .ok (.getfield 50, 3) := by decide +kernel
theorem zd_MO_touch_70 : decode zb_MO_touch 70 = .ok (.iload_n 2, 1) := by decide +kernel
theorem zd_MO_touch_71 : decode zb_MO_touch 71 = .ok (.iaload, 1) := by decide +kernel
theorem zd_MO_touch_72 : decode zb_MO_touch 72 = .ok (.iload_n 1, 1) := by decide +kernel
theorem zd_MO_touch_73 : decode zb_MO_touch 73 = .ok (.ifCond .eq 7, 3) := by decide +kernel
theorem zd_MO_touch_76 : decode zb_MO_touch 76 = .ok (.iconst 2, 1) := by decide +kernel
theorem zd_MO_touch_77 : decode zb_MO_touch 77 = .ok (.goto 4, 3) := by decide +kernel
theorem zd_MO_touch_80 : decode zb_MO_touch 80 = .ok (.iconst 4, 1) := by decide +kernel
theorem zd_MO_touch_81 : decode zb_MO_touch 81 = .ok (.ior, 1) := by decide +kernel
theorem zd_MO_touch_82 : decode zb_MO_touch 82 = .ok (.iastore, 1) := by decide +kernel
theorem zd_MO_touch_83 : decode zb_MO_touch 83 = .ok (.iload_n 3, 1) := by decide +kernel
theorem zd_MO_touch_84 : decode zb_MO_touch 84 = .ok (.iconst 4, 1) := by decide +kernel
theorem zd_MO_touch_85 : decode zb_MO_touch 85 = .ok (.iand, 1) := by decide +kernel
theorem zd_MO_touch_86 : decode zb_MO_touch 86 = .ok (.iconst 4, 1) := by decide +kernel
theorem zd_MO_touch_87 : decode zb_MO_touch 87 = .ok (.if_icmp .ne 8, 3) := by decide +kernel
theorem zd_MO_touch_90 : decode zb_MO_touch 90 = .ok (.aload_n 0, 1) := by decide +kernel
theorem zd_MO_touch_91 : decode zb_MO_touch 91 = .ok (.iload_n 2, 1) := by decide +kernel
theorem zd_MO_touch_92 : decode zb_MO_touch 92 = .ok (.invokevirtual 139, 3) := by decide +kernel
theorem zd_MO_touch_95 : decode zb_MO_touch 95 = .ok (.return_, 1) := by decide +kernel
abbrev zb_MO_route : ByteArray := prog_9_method_28_code
def zy_MO_route : MethodName := ⟨"PortTranslatorModel", "route", "(Z)I"⟩
theorem zd_MO_route_0 : decode zb_MO_route 0 = .ok (.aload_n 0, 1) := by decide +kernel
theorem zd_MO_route_1 : decode zb_MO_route 1 = .ok (.iconst 0, 1) := by decide +kernel
theorem zd_MO_route_2 : decode zb_MO_route 2 = .ok (.putfield 53, 3) := by decide +kernel
theorem zd_MO_route_5 : decode zb_MO_route 5 = .ok (.aload_n 0, 1) := by decide +kernel
theorem zd_MO_route_6 : decode zb_MO_route 6 = .ok (.invokevirtual 142, 3) := by decide +kernel
theorem zd_MO_route_9 : decode zb_MO_route 9 = .ok (.ifCond .ne 7, 3) := by decide +kernel
theorem zd_MO_route_12 : decode zb_MO_route 12 = .ok (.iconst 1, 1) := by decide +kernel
theorem zd_MO_route_13 : decode zb_MO_route 13 = .ok (.goto 22, 3) := by decide +kernel
theorem zd_MO_route_16 : decode zb_MO_route 16 = .ok (.aload_n 0, 1) := by decide +kernel
theorem zd_MO_route_17 : decode zb_MO_route 17 = .ok (.getfield 7, 3) := by decide +kernel
theorem zd_MO_route_20 : decode zb_MO_route 20 = .ok (.iconst 4, 1) := by decide +kernel
theorem zd_MO_route_21 : decode zb_MO_route 21 = .ok (.iaload, 1) := by decide +kernel
theorem zd_MO_route_22 : decode zb_MO_route 22 = .ok (.sipush 256, 3) := by decide +kernel
theorem zd_MO_route_25 : decode zb_MO_route 25 = .ok (.idiv, 1) := by decide +kernel
theorem zd_MO_route_26 : decode zb_MO_route 26 = .ok (.iconst 2, 1) := by decide +kernel
theorem zd_MO_route_27 : decode zb_MO_route 27 = .ok (.if_icmp .ge 7, 3) := by decide +kernel
theorem zd_MO_route_30 : decode zb_MO_route 30 = .ok (.iconst 3, 1) := by decide +kernel
theorem zd_MO_route_31 : decode zb_MO_route 31 = .ok (.goto 4, 3) := by decide +kernel
theorem zd_MO_route_34 : decode zb_MO_route 34 = .ok (.iconst 0, 1) := by decide +kernel
theorem zd_MO_route_35 : decode zb_MO_route 35 = .ok (.istore_n 2, 1) := by decide +kernel
theorem zd_MO_route_36 : decode zb_MO_route 36 = .ok (.iload_n 2, 1) := by decide +kernel
theorem zd_MO_route_37 : decode zb_MO_route 37 = .ok (.ifCond .ne 83, 3) := by decide +kernel
theorem zd_MO_route_40 : decode zb_MO_route 40 = .ok (.aload_n 0, 1) := by decide +kernel
theorem zd_MO_route_41 : decode zb_MO_route 41 = .ok (.iload_n 1, 1) := by decide +kernel
theorem zd_MO_route_42 : decode zb_MO_route 42 = .ok (.invokevirtual 145, 3) := by decide +kernel
theorem zd_MO_route_45 : decode zb_MO_route 45 = .ok (.istore_n 3, 1) := by decide +kernel
theorem zd_MO_route_46 : decode zb_MO_route 46 = .ok (.iload_n 3, 1) := by decide +kernel
theorem zd_MO_route_47 : decode zb_MO_route 47 = .ok (.ifCond .ge 8, 3) := by decide +kernel
theorem zd_MO_route_50 : decode zb_MO_route 50 = .ok (.iload_n 3, 1) := by decide +kernel
theorem zd_MO_route_51 : decode zb_MO_route 51 = .ok (.ineg, 1) := by decide +kernel
theorem zd_MO_route_52 : decode zb_MO_route 52 = .ok (.goto 4, 3) := by decide +kernel
theorem zd_MO_route_55 : decode zb_MO_route 55 = .ok (.iconst 0, 1) := by decide +kernel
theorem zd_MO_route_56 : decode zb_MO_route 56 = .ok (.istore_n 2, 1) := by decide +kernel
theorem zd_MO_route_57 : decode zb_MO_route 57 = .ok (.iload_n 3, 1) := by decide +kernel
theorem zd_MO_route_58 : decode zb_MO_route 58 = .ok (.ifCond .lt 62, 3) := by decide +kernel
theorem zd_MO_route_61 : decode zb_MO_route 61 = .ok (.aload_n 0, 1) := by decide +kernel
theorem zd_MO_route_62 : decode zb_MO_route 62 = .ok (.iload_n 1, 1) := by decide +kernel
theorem zd_MO_route_63 : decode zb_MO_route 63 = .ok (.iload_n 3, 1) := by decide +kernel
theorem zd_MO_route_64 : decode zb_MO_route 64 = .ok (.invokevirtual 148, 3) := by decide +kernel
theorem zd_MO_route_67 : decode zb_MO_route 67 = .ok (.iconst 0, 1) := by decide +kernel
theorem zd_MO_route_68 : decode zb_MO_route 68 = .ok (.istore 4, 2) := by decide +kernel
theorem zd_MO_route_70 : decode zb_MO_route 70 = .ok (.iload 4, 2) := by decide +kernel
theorem zd_MO_route_72 : decode zb_MO_route 72 = .ok (.aload_n 0, 1) := by decide +kernel
theorem zd_MO_route_73 : decode zb_MO_route 73 = .ok (.getfield 57, 3) := by decide +kernel
theorem zd_MO_route_76 : decode zb_MO_route 76 = .ok (.if_icmp .ge 23, 3) := by decide +kernel
theorem zd_MO_route_79 : decode zb_MO_route 79 = .ok (.aload_n 0, 1) := by decide +kernel
theorem zd_MO_route_80 : decode zb_MO_route 80 = .ok (.getfield 13, 3) := by decide +kernel
theorem zd_MO_route_83 : decode zb_MO_route 83 = .ok (.iload 4, 2) := by decide +kernel
theorem zd_MO_route_85 : decode zb_MO_route 85 = .ok (.aload_n 0, 1) := by decide +kernel
theorem zd_MO_route_86 : decode zb_MO_route 86 = .ok (.getfield 7, 3) := by decide +kernel
theorem zd_MO_route_89 : decode zb_MO_route 89 = .ok (.iload 4, 2) := by decide +kernel
theorem zd_MO_route_91 : decode zb_MO_route 91 = .ok (.iaload, 1) := by decide +kernel
theorem zd_MO_route_92 : decode zb_MO_route 92 = .ok (.iastore, 1) := by decide +kernel
theorem zd_MO_route_93 : decode zb_MO_route 93 = .ok (.iinc 4 1, 3) := by decide +kernel
theorem zd_MO_route_96 : decode zb_MO_route 96 = .ok (.goto (-26), 3) := by decide +kernel
theorem zd_MO_route_99 : decode zb_MO_route 99 = .ok (.aload_n 0, 1) := by decide +kernel
theorem zd_MO_route_100 : decode zb_MO_route 100 = .ok (.aload_n 0, 1) := by decide +kernel
theorem zd_MO_route_101 : decode zb_MO_route 101 = .ok (.getfield 57, 3) := by decide +kernel
theorem zd_MO_route_104 : decode zb_MO_route 104 = .ok (.putfield 152, 3) := by decide +kernel
theorem zd_MO_route_107 : decode zb_MO_route 107 = .ok (.aload_n 0, 1) := by decide +kernel
theorem zd_MO_route_108 : decode zb_MO_route 108 = .ok (.invokevirtual 75, 3) := by decide +kernel
theorem zd_MO_route_111 : decode zb_MO_route 111 = .ok (.ifCond .ne 9, 3) := by decide +kernel
theorem zd_MO_route_114 : decode zb_MO_route 114 = .ok (.aload_n 0, 1) := by decide +kernel
theorem zd_MO_route_115 : decode zb_MO_route 115 = .ok (.iload_n 1, 1) := by decide +kernel
theorem zd_MO_route_116 : decode zb_MO_route 116 = .ok (.iload_n 3, 1) := by decide +kernel
theorem zd_MO_route_117 : decode zb_MO_route 117 = .ok (.invokevirtual 155, 3) := by decide +kernel
theorem zd_MO_route_120 : decode zb_MO_route 120 = .ok (.aload_n 0, 1) := by decide +kernel
theorem zd_MO_route_121 : decode zb_MO_route 121 = .ok (.iconst 0, 1) := by decide +kernel
theorem zd_MO_route_122 : decode zb_MO_route 122 = .ok (.putfield 57, 3) := by decide +kernel
theorem zd_MO_route_125 : decode zb_MO_route 125 = .ok (.iload_n 2, 1) := by decide +kernel
theorem zd_MO_route_126 : decode zb_MO_route 126 = .ok (.ireturn, 1) := by decide +kernel
abbrev zb_MO_length : ByteArray := prog_9_method_29_code
def zy_MO_length : MethodName := ⟨"PortTranslatorModel", "length", "()I"⟩
theorem zd_MO_length_0 : decode zb_MO_length 0 = .ok (.aload_n 0, 1) := by decide +kernel
theorem zd_MO_length_1 : decode zb_MO_length 1 = .ok (.iconst 0, 1) := by decide +kernel
theorem zd_MO_length_2 : decode zb_MO_length 2 = .ok (.putfield 53, 3) := by decide +kernel
theorem zd_MO_length_5 : decode zb_MO_length 5 = .ok (.aload_n 0, 1) := by decide +kernel
theorem zd_MO_length_6 : decode zb_MO_length 6 = .ok (.getfield 152, 3) := by decide +kernel
theorem zd_MO_length_9 : decode zb_MO_length 9 = .ok (.ireturn, 1) := by decide +kernel
abbrev zb_MO_at : ByteArray := prog_9_method_30_code
def zy_MO_at : MethodName := ⟨"PortTranslatorModel", "at", "(I)I"⟩
theorem zd_MO_at_0 : decode zb_MO_at 0 = .ok (.aload_n 0, 1) := by decide +kernel
theorem zd_MO_at_1 : decode zb_MO_at 1 = .ok (.iload_n 1, 1) := by decide +kernel
theorem zd_MO_at_2 : decode zb_MO_at 2 = .ok (.ifCond .lt 11, 3) := by decide +kernel
theorem zd_MO_at_5 : decode zb_MO_at 5 = .ok (.iload_n 1, 1) := by decide +kernel
theorem zd_MO_at_6 : decode zb_MO_at 6 = .ok (.aload_n 0, 1) := by decide +kernel
theorem zd_MO_at_7 : decode zb_MO_at 7 = .ok (.getfield 152, 3) := by decide +kernel
theorem zd_MO_at_10 : decode zb_MO_at 10 = .ok (.if_icmp .lt 7, 3) := by decide +kernel
theorem zd_MO_at_13 : decode zb_MO_at 13 = .ok (.iconst 1, 1) := by decide +kernel
theorem zd_MO_at_14 : decode zb_MO_at 14 = .ok (.goto 4, 3) := by decide +kernel
theorem zd_MO_at_17 : decode zb_MO_at 17 = .ok (.iconst 0, 1) := by decide +kernel
theorem zd_MO_at_18 : decode zb_MO_at 18 = .ok (.putfield 53, 3) := by decide +kernel
theorem zd_MO_at_21 : decode zb_MO_at 21 = .ok (.aload_n 0, 1) := by decide +kernel
theorem zd_MO_at_22 : decode zb_MO_at 22 = .ok (.getfield 53, 3) := by decide +kernel
theorem zd_MO_at_25 : decode zb_MO_at 25 = .ok (.ifCond .le 7, 3) := by decide +kernel
theorem zd_MO_at_28 : decode zb_MO_at 28 = .ok (.iconst 0, 1) := by decide +kernel
theorem zd_MO_at_29 : decode zb_MO_at 29 = .ok (.goto 9, 3) := by decide +kernel
theorem zd_MO_at_32 : decode zb_MO_at 32 = .ok (.aload_n 0, 1) := by decide +kernel
theorem zd_MO_at_33 : decode zb_MO_at 33 = .ok (.getfield 13, 3) := by decide +kernel
theorem zd_MO_at_36 : decode zb_MO_at 36 = .ok (.iload_n 1, 1) := by decide +kernel
theorem zd_MO_at_37 : decode zb_MO_at 37 = .ok (.iaload, 1) := by decide +kernel
theorem zd_MO_at_38 : decode zb_MO_at 38 = .ok (.ireturn, 1) := by decide +kernel
abbrev zb_MO_life : ByteArray := prog_9_method_31_code
def zy_MO_life : MethodName := ⟨"PortTranslatorModel", "life", "(I)I"⟩
theorem zd_MO_life_0 : decode zb_MO_life 0 = .ok (.aload_n 0, 1) := by decide +kernel
theorem zd_MO_life_1 : decode zb_MO_life 1 = .ok (.getfield 29, 3) := by decide +kernel
theorem zd_MO_life_4 : decode zb_MO_life 4 = .ok (.iload_n 1, 1) := by decide +kernel
theorem zd_MO_life_5 : decode zb_MO_life 5 = .ok (.iaload, 1) := by decide +kernel
theorem zd_MO_life_6 : decode zb_MO_life 6 = .ok (.iconst 1, 1) := by decide +kernel
theorem zd_MO_life_7 : decode zb_MO_life 7 = .ok (.if_icmp .ne 6, 3) := by decide +kernel
theorem zd_MO_life_10 : decode zb_MO_life 10 = .ok (.bipush 6, 2) := by decide +kernel
theorem zd_MO_life_12 : decode zb_MO_life 12 = .ok (.ireturn, 1) := by decide +kernel
theorem zd_MO_life_13 : decode zb_MO_life 13 = .ok (.aload_n 0, 1) := by decide +kernel
theorem zd_MO_life_14 : decode zb_MO_life 14 = .ok (.getfield 29, 3) := by decide +kernel
theorem zd_MO_life_17 : decode zb_MO_life 17 = .ok (.iload_n 1, 1) := by decide +kernel
theorem zd_MO_life_18 : decode zb_MO_life 18 = .ok (.iaload, 1) := by decide +kernel
theorem zd_MO_life_19 : decode zb_MO_life 19 = .ok (.bipush 17, 2) := by decide +kernel
theorem zd_MO_life_21 : decode zb_MO_life 21 = .ok (.if_icmp .ne 6, 3) := by decide +kernel
theorem zd_MO_life_24 : decode zb_MO_life 24 = .ok (.bipush 30, 2) := by decide +kernel
theorem zd_MO_life_26 : decode zb_MO_life 26 = .ok (.ireturn, 1) := by decide +kernel
theorem zd_MO_life_27 : decode zb_MO_life 27 = .ok (.aload_n 0, 1) := by decide +kernel
theorem zd_MO_life_28 : decode zb_MO_life 28 = .ok (.getfield 50, 3) := by decide +kernel
theorem zd_MO_life_31 : decode zb_MO_life 31 = .ok (.iload_n 1, 1) := by decide +kernel
theorem zd_MO_life_32 : decode zb_MO_life 32 = .ok (.iaload, 1) := by decide +kernel
theorem zd_MO_life_33 : decode zb_MO_life 33 = .ok (.iconst 1, 1) := by decide +kernel
theorem zd_MO_life_34 : decode zb_MO_life 34 = .ok (.iand, 1) := by decide +kernel
theorem zd_MO_life_35 : decode zb_MO_life 35 = .ok (.iconst 1, 1) := by decide +kernel
theorem zd_MO_life_36 : decode zb_MO_life 36 = .ok (.if_icmp .ne 19, 3) := by decide +kernel
theorem zd_MO_life_39 : decode zb_MO_life 39 = .ok (.aload_n 0, 1) := by decide +kernel
theorem zd_MO_life_40 : decode zb_MO_life 40 = .ok (.getfield 50, 3) := by decide +kernel
theorem zd_MO_life_43 : decode zb_MO_life 43 = .ok (.iload_n 1, 1) := by decide +kernel
theorem zd_MO_life_44 : decode zb_MO_life 44 = .ok (.iaload, 1) := by decide +kernel
theorem zd_MO_life_45 : decode zb_MO_life 45 = .ok (.bipush 7, 2) := by decide +kernel
theorem zd_MO_life_47 : decode zb_MO_life 47 = .ok (.if_icmp .eq 8, 3) := by decide +kernel
theorem zd_MO_life_50 : decode zb_MO_life 50 = .ok (.bipush 100, 2) := by decide +kernel
theorem zd_MO_life_52 : decode zb_MO_life 52 = .ok (.goto 5, 3) := by decide +kernel
theorem zd_MO_life_55 : decode zb_MO_life 55 = .ok (.bipush 12, 2) := by decide +kernel
theorem zd_MO_life_57 : decode zb_MO_life 57 = .ok (.ireturn, 1) := by decide +kernel
abbrev zb_MO_tick : ByteArray := prog_9_method_32_code
def zy_MO_tick : MethodName := ⟨"PortTranslatorModel", "tick", "(I)I"⟩
theorem zd_MO_tick_0 : decode zb_MO_tick 0 = .ok (.aload_n 0, 1) := by decide +kernel
theorem zd_MO_tick_1 : decode zb_MO_tick 1 = .ok (.iload_n 1, 1) := by decide +kernel
theorem zd_MO_tick_2 : decode zb_MO_tick 2 = .ok (.iconst 1, 1) := by decide +kernel
theorem zd_MO_tick_3 : decode zb_MO_tick 3 = .ok (.if_icmp .lt 9, 3) := by decide +kernel
theorem zd_MO_tick_6 : decode zb_MO_tick 6 = .ok (.iload_n 1, 1) := by decide +kernel
theorem zd_MO_tick_7 : decode zb_MO_tick 7 = .ok (.bipush 100, 2) := by decide +kernel
theorem zd_MO_tick_9 : decode zb_MO_tick 9 = .ok (.if_icmp .le 7, 3) := by decide +kernel
theorem zd_MO_tick_12 : decode zb_MO_tick 12 = .ok (.iconst 1, 1) := by decide +kernel
theorem zd_MO_tick_13 : decode zb_MO_tick 13 = .ok (.goto 4, 3) := by decide +kernel
theorem zd_MO_tick_16 : decode zb_MO_tick 16 = .ok (.iconst 0, 1) := by decide +kernel
theorem zd_MO_tick_17 : decode zb_MO_tick 17 = .ok (.putfield 53, 3) := by decide +kernel
theorem zd_MO_tick_20 : decode zb_MO_tick 20 = .ok (.iconst 0, 1) := by decide +kernel
theorem zd_MO_tick_21 : decode zb_MO_tick 21 = .ok (.istore_n 2, 1) := by decide +kernel
theorem zd_MO_tick_22 : decode zb_MO_tick 22 = .ok (.aload_n 0, 1) := by decide +kernel
theorem zd_MO_tick_23 : decode zb_MO_tick 23 = .ok (.getfield 93, 3) := by decide +kernel
theorem zd_MO_tick_26 : decode zb_MO_tick 26 = .ok (.iconst 1, 1) := by decide +kernel
theorem zd_MO_tick_27 : decode zb_MO_tick 27 = .ok (.isub, 1) := by decide +kernel
theorem zd_MO_tick_28 : decode zb_MO_tick 28 = .ok (.istore_n 3, 1) := by decide +kernel
theorem zd_MO_tick_29 : decode zb_MO_tick 29 = .ok (.iload_n 3, 1) := by decide +kernel
theorem zd_MO_tick_30 : decode zb_MO_tick 30 = .ok (.ifCond .lt 52, 3) := by decide +kernel
theorem zd_MO_tick_33 : decode zb_MO_tick 33 = .ok (.aload_n 0, 1) := by decide +kernel
theorem zd_MO_tick_34 : decode zb_MO_tick 34 = .ok (.getfield 53, 3) := by decide +kernel
theorem zd_MO_tick_37 : decode zb_MO_tick 37 = .ok (.ifCond .ne 45, 3) := by decide +kernel
theorem zd_MO_tick_40 : decode zb_MO_tick 40 = .ok (.aload_n 0, 1) := by decide +kernel
theorem zd_MO_tick_41 : decode zb_MO_tick 41 = .ok (.getfield 47, 3) := by decide +kernel
theorem zd_MO_tick_44 : decode zb_MO_tick 44 = .ok (.iload_n 3, 1) := by decide +kernel
theorem zd_MO_tick_45 : decode zb_MO_tick 45 = .ok (.aload_n 0, 1) := by decide +kernel
theorem zd_MO_tick_46 : decode zb_MO_tick 46 = .ok (.getfield 47, 3) := by decide +kernel
theorem zd_MO_tick_49 : decode zb_MO_tick 49 = .ok (.iload_n 3, 1) := by decide +kernel
theorem zd_MO_tick_50 : decode zb_MO_tick 50 = .ok (.iaload, 1) := by decide +kernel
theorem zd_MO_tick_51 : decode zb_MO_tick 51 = .ok (.iload_n 1, 1) := by decide +kernel
theorem zd_MO_tick_52 : decode zb_MO_tick 52 = .ok (.iadd, 1) := by decide +kernel
theorem zd_MO_tick_53 : decode zb_MO_tick 53 = .ok (.iastore, 1) := by decide +kernel
theorem zd_MO_tick_54 : decode zb_MO_tick 54 = .ok (.aload_n 0, 1) := by decide +kernel
theorem zd_MO_tick_55 : decode zb_MO_tick 55 = .ok (.getfield 47, 3) := by decide +kernel
theorem zd_MO_tick_58 : decode zb_MO_tick 58 = .ok (.iload_n 3, 1) := by decide +kernel
theorem zd_MO_tick_59 : decode zb_MO_tick 59 = .ok (.iaload, 1) := by decide +kernel
theorem zd_MO_tick_60 : decode zb_MO_tick 60 = .ok (.aload_n 0, 1) := by decide +kernel
theorem zd_MO_tick_61 : decode zb_MO_tick 61 = .ok (.iload_n 3, 1) := by decide +kernel
theorem zd_MO_tick_62 : decode zb_MO_tick 62 = .ok (.invokevirtual 158, 3) := by decide +kernel
theorem zd_MO_tick_65 : decode zb_MO_tick 65 = .ok (.if_icmp .le 11, 3) := by decide +kernel
theorem zd_MO_tick_68 : decode zb_MO_tick 68 = .ok (.aload_n 0, 1) := by decide +kernel
theorem zd_MO_tick_69 : decode zb_MO_tick 69 = .ok (.iload_n 3, 1) := by decide +kernel
theorem zd_MO_tick_70 : decode zb_MO_tick 70 = .ok (.invokevirtual 139, 3) := by decide +kernel
theorem zd_MO_tick_73 : decode zb_MO_tick 73 = .ok (.iinc 2 1, 3) := by decide +kernel
theorem zd_MO_tick_76 : decode zb_MO_tick 76 = .ok (.iinc 3 (-1), 3) := by decide +kernel
theorem zd_MO_tick_79 : decode zb_MO_tick 79 = .ok (.goto (-50), 3) := by decide +kernel
theorem zd_MO_tick_82 : decode zb_MO_tick 82 = .ok (.iload_n 2, 1) := by decide +kernel
theorem zd_MO_tick_83 : decode zb_MO_tick 83 = .ok (.ireturn, 1) := by decide +kernel
abbrev zb_MO_rules : ByteArray := prog_9_method_33_code
def zy_MO_rules : MethodName := ⟨"PortTranslatorModel", "rules", "()I"⟩
theorem zd_MO_rules_0 : decode zb_MO_rules 0 = .ok (.iconst 0, 1) := by decide +kernel
theorem zd_MO_rules_1 : decode zb_MO_rules 1 = .ok (.istore_n 1, 1) := by decide +kernel
theorem zd_MO_rules_2 : decode zb_MO_rules 2 = .ok (.iconst 0, 1) := by decide +kernel
theorem zd_MO_rules_3 : decode zb_MO_rules 3 = .ok (.istore_n 2, 1) := by decide +kernel
theorem zd_MO_rules_4 : decode zb_MO_rules 4 = .ok (.iload_n 2, 1) := by decide +kernel
theorem zd_MO_rules_5 : decode zb_MO_rules 5 = .ok (.iconst 4, 1) := by decide +kernel
theorem zd_MO_rules_6 : decode zb_MO_rules 6 = .ok (.if_icmp .ge 26, 3) := by decide +kernel
theorem zd_MO_rules_9 : decode zb_MO_rules 9 = .ok (.aload_n 0, 1) := by decide +kernel
theorem zd_MO_rules_10 : decode zb_MO_rules 10 = .ok (.getfield 16, 3) := by decide +kernel
theorem zd_MO_rules_13 : decode zb_MO_rules 13 = .ok (.iload_n 2, 1) := by decide +kernel
theorem zd_MO_rules_14 : decode zb_MO_rules 14 = .ok (.iaload, 1) := by decide +kernel
theorem zd_MO_rules_15 : decode zb_MO_rules 15 = .ok (.ifCond .lt 9, 3) := by decide +kernel
theorem zd_MO_rules_18 : decode zb_MO_rules 18 = .ok (.iload_n 1, 1) := by decide +kernel
theorem zd_MO_rules_19 : decode zb_MO_rules 19 = .ok (.iconst 1, 1) := by decide +kernel
theorem zd_MO_rules_20 : decode zb_MO_rules 20 = .ok (.iadd, 1) := by decide +kernel
theorem zd_MO_rules_21 : decode zb_MO_rules 21 = .ok (.goto 4, 3) := by decide +kernel
theorem zd_MO_rules_24 : decode zb_MO_rules 24 = .ok (.iload_n 1, 1) := by decide +kernel
theorem zd_MO_rules_25 : decode zb_MO_rules 25 = .ok (.istore_n 1, 1) := by decide +kernel
theorem zd_MO_rules_26 : decode zb_MO_rules 26 = .ok (.iinc 2 1, 3) := by decide +kernel
theorem zd_MO_rules_29 : decode zb_MO_rules 29 = .ok (.goto (-25), 3) := by decide +kernel
theorem zd_MO_rules_32 : decode zb_MO_rules 32 = .ok (.iload_n 1, 1) := by decide +kernel
theorem zd_MO_rules_33 : decode zb_MO_rules 33 = .ok (.ireturn, 1) := by decide +kernel
abbrev zb_MO_rule : ByteArray := prog_9_method_34_code
def zy_MO_rule : MethodName := ⟨"PortTranslatorModel", "rule", "(IIIIZ)I"⟩
theorem zd_MO_rule_0 : decode zb_MO_rule 0 = .ok (.aload_n 0, 1) := by decide +kernel
theorem zd_MO_rule_1 : decode zb_MO_rule 1 = .ok (.iload_n 1, 1) := by decide +kernel
theorem zd_MO_rule_2 : decode zb_MO_rule 2 = .ok (.ifCond .lt 31, 3) := by decide +kernel
theorem zd_MO_rule_5 : decode zb_MO_rule 5 = .ok (.iload_n 1, 1) := by decide +kernel
theorem zd_MO_rule_6 : decode zb_MO_rule 6 = .ok (.iconst 3, 1) := by decide +kernel
theorem zd_MO_rule_7 : decode zb_MO_rule 7 = .ok (.if_icmp .gt 26, 3) := by decide +kernel
theorem zd_MO_rule_10 : decode zb_MO_rule 10 = .ok (.iload_n 2, 1) := by decide +kernel
theorem zd_MO_rule_11 : decode zb_MO_rule 11 = .ok (.ifCond .eq 10, 3) := by decide +kernel
theorem zd_MO_rule_14 : decode zb_MO_rule 14 = .ok (.iload_n 2, 1) := by decide +kernel
theorem zd_MO_rule_15 : decode zb_MO_rule 15 = .ok (.invokestatic 79, 3) := by decide +kernel
theorem zd_MO_rule_18 : decode zb_MO_rule 18 = .ok (.ifCond .eq 15, 3) := by decide +kernel
theorem zd_MO_rule_21 : decode zb_MO_rule 21 = .ok (.iload 4, 2) := by decide +kernel
theorem zd_MO_rule_23 : decode zb_MO_rule 23 = .ok (.ifCond .lt 10, 3) := by decide +kernel
theorem zd_MO_rule_26 : decode zb_MO_rule 26 = .ok (.iload 4, 2) := by decide +kernel
theorem zd_MO_rule_28 : decode zb_MO_rule 28 = .ok (.bipush 32, 2) := by decide +kernel
theorem zd_MO_rule_30 : decode zb_MO_rule 30 = .ok (.if_icmp .le 7, 3) := by decide +kernel
theorem zd_MO_rule_33 : decode zb_MO_rule 33 = .ok (.iconst 1, 1) := by decide +kernel
theorem zd_MO_rule_34 : decode zb_MO_rule 34 = .ok (.goto 4, 3) := by decide +kernel
theorem zd_MO_rule_37 : decode zb_MO_rule 37 = .ok (.iconst 0, 1) := by decide +kernel
theorem zd_MO_rule_38 : decode zb_MO_rule 38 = .ok (.putfield 53, 3) := by decide +kernel
theorem zd_MO_rule_41 : decode zb_MO_rule 41 = .ok (.aload_n 0, 1) := by decide +kernel
theorem zd_MO_rule_42 : decode zb_MO_rule 42 = .ok (.getfield 53, 3) := by decide +kernel
theorem zd_MO_rule_45 : decode zb_MO_rule 45 = .ok (.ifCond .le 5, 3) := by decide +kernel
theorem zd_MO_rule_48 : decode zb_MO_rule 48 = .ok (.iconst 0, 1) := by decide +kernel
theorem zd_MO_rule_49 : decode zb_MO_rule 49 = .ok (.ireturn, 1) := by decide +kernel
theorem zd_MO_rule_50 : decode zb_MO_rule 50 = .ok (.aload_n 0, 1) := by decide +kernel
theorem zd_MO_rule_51 : decode zb_MO_rule 51 = .ok (.getfield 16, 3) := by decide +kernel
theorem zd_MO_rule_54 : decode zb_MO_rule 54 = .ok (.iload_n 1, 1) := by decide +kernel
theorem zd_MO_rule_55 : decode zb_MO_rule 55 = .ok (.iload_n 2, 1) := by decide +kernel
theorem zd_MO_rule_56 : decode zb_MO_rule 56 = .ok (.iastore, 1) := by decide +kernel
theorem zd_MO_rule_57 : decode zb_MO_rule 57 = .ok (.aload_n 0, 1) := by decide +kernel
theorem zd_MO_rule_58 : decode zb_MO_rule 58 = .ok (.getfield 19, 3) := by decide +kernel
theorem zd_MO_rule_61 : decode zb_MO_rule 61 = .ok (.iload_n 1, 1) := by decide +kernel
theorem zd_MO_rule_62 : decode zb_MO_rule 62 = .ok (.iload_n 3, 1) := by decide +kernel
theorem zd_MO_rule_63 : decode zb_MO_rule 63 = .ok (.iastore, 1) := by decide +kernel
theorem zd_MO_rule_64 : decode zb_MO_rule 64 = .ok (.aload_n 0, 1) := by decide +kernel
theorem zd_MO_rule_65 : decode zb_MO_rule 65 = .ok (.getfield 22, 3) := by decide +kernel
theorem zd_MO_rule_68 : decode zb_MO_rule 68 = .ok (.iload_n 1, 1) := by decide +kernel
theorem zd_MO_rule_69 : decode zb_MO_rule 69 = .ok (.iload 4, 2) := by decide +kernel
theorem zd_MO_rule_71 : decode zb_MO_rule 71 = .ok (.iastore, 1) := by decide +kernel
theorem zd_MO_rule_72 : decode zb_MO_rule 72 = .ok (.aload_n 0, 1) := by decide +kernel
theorem zd_MO_rule_73 : decode zb_MO_rule 73 = .ok (.getfield 25, 3) := by decide +kernel
theorem zd_MO_rule_76 : decode zb_MO_rule 76 = .ok (.iload_n 1, 1) := by decide +kernel
theorem zd_MO_rule_77 : decode zb_MO_rule 77 = .ok (.iload 5, 2) := by decide +kernel
theorem zd_MO_rule_79 : decode zb_MO_rule 79 = .ok (.bastore, 1) := by decide +kernel
theorem zd_MO_rule_80 : decode zb_MO_rule 80 = .ok (.aload_n 0, 1) := by decide +kernel
theorem zd_MO_rule_81 : decode zb_MO_rule 81 = .ok (.invokevirtual 161, 3) := by decide +kernel
theorem zd_MO_rule_84 : decode zb_MO_rule 84 = .ok (.ireturn, 1) := by decide +kernel
abbrev zb_MO_forget : ByteArray := prog_9_method_35_code
def zy_MO_forget : MethodName := ⟨"PortTranslatorModel", "forget", "(I)I"⟩
theorem zd_MO_forget_0 : decode zb_MO_forget 0 = .ok (.aload_n 0, 1) := by decide +kernel
theorem zd_MO_forget_1 : decode zb_MO_forget 1 = .ok (.iload_n 1, 1) := by decide +kernel
theorem zd_MO_forget_2 : decode zb_MO_forget 2 = .ok (.ifCond .lt 17, 3) := by decide +kernel
theorem zd_MO_forget_5 : decode zb_MO_forget 5 = .ok (.iload_n 1, 1) := by decide +kernel
theorem zd_MO_forget_6 : decode zb_MO_forget 6 = .ok (.iconst 3, 1) := by decide +kernel
theorem zd_MO_forget_7 : decode zb_MO_forget 7 = .ok (.if_icmp .gt 12, 3) := by decide +kernel
theorem zd_MO_forget_10 : decode zb_MO_forget 10 = .ok (.aload_n 0, 1) := by decide +kernel
theorem zd_MO_forget_11 : decode zb_MO_forget 11 = .ok (.getfield 16, 3) := by decide +kernel
theorem zd_MO_forget_14 : decode zb_MO_forget 14 = .ok (.iload_n 1, 1) := by decide +kernel
theorem zd_MO_forget_15 : decode zb_MO_forget 15 = .ok (.iaload, 1) := by decide +kernel
theorem zd_MO_forget_16 : decode zb_MO_forget 16 = .ok (.ifCond .ge 7, 3) := by decide +kernel
theorem zd_MO_forget_19 : decode zb_MO_forget 19 = .ok (.iconst 1, 1) := by decide +kernel
theorem zd_MO_forget_20 : decode zb_MO_forget 20 = .ok (.goto 4, 3) := by decide +kernel
theorem zd_MO_forget_23 : decode zb_MO_forget 23 = .ok (.iconst 0, 1) := by decide +kernel
theorem zd_MO_forget_24 : decode zb_MO_forget 24 = .ok (.putfield 53, 3) := by decide +kernel
theorem zd_MO_forget_27 : decode zb_MO_forget 27 = .ok (.aload_n 0, 1) := by decide +kernel
theorem zd_MO_forget_28 : decode zb_MO_forget 28 = .ok (.getfield 53, 3) := by decide +kernel
theorem zd_MO_forget_31 : decode zb_MO_forget 31 = .ok (.ifCond .le 5, 3) := by decide +kernel
theorem zd_MO_forget_34 : decode zb_MO_forget 34 = .ok (.iconst 0, 1) := by decide +kernel
theorem zd_MO_forget_35 : decode zb_MO_forget 35 = .ok (.ireturn, 1) := by decide +kernel
theorem zd_MO_forget_36 : decode zb_MO_forget 36 = .ok (.aload_n 0, 1) := by decide +kernel
theorem zd_MO_forget_37 : decode zb_MO_forget 37 = .ok (.getfield 16, 3) := by decide +kernel
theorem zd_MO_forget_40 : decode zb_MO_forget 40 = .ok (.iload_n 1, 1) := by decide +kernel
theorem zd_MO_forget_41 : decode zb_MO_forget 41 = .ok (.iconst (-1), 1) := by decide +kernel
theorem zd_MO_forget_42 : decode zb_MO_forget 42 = .ok (.iastore, 1) := by decide +kernel
theorem zd_MO_forget_43 : decode zb_MO_forget 43 = .ok (.aload_n 0, 1) := by decide +kernel
theorem zd_MO_forget_44 : decode zb_MO_forget 44 = .ok (.invokevirtual 161, 3) := by decide +kernel
theorem zd_MO_forget_47 : decode zb_MO_forget 47 = .ok (.ireturn, 1) := by decide +kernel
abbrev zb_MO_flows : ByteArray := prog_9_method_36_code
def zy_MO_flows : MethodName := ⟨"PortTranslatorModel", "flows", "()I"⟩
theorem zd_MO_flows_0 : decode zb_MO_flows 0 = .ok (.aload_n 0, 1) := by decide +kernel
theorem zd_MO_flows_1 : decode zb_MO_flows 1 = .ok (.iconst 0, 1) := by decide +kernel
theorem zd_MO_flows_2 : decode zb_MO_flows 2 = .ok (.putfield 53, 3) := by decide +kernel
theorem zd_MO_flows_5 : decode zb_MO_flows 5 = .ok (.aload_n 0, 1) := by decide +kernel
theorem zd_MO_flows_6 : decode zb_MO_flows 6 = .ok (.getfield 93, 3) := by decide +kernel
theorem zd_MO_flows_9 : decode zb_MO_flows 9 = .ok (.ireturn, 1) := by decide +kernel
abbrev zb_MO_flow : ByteArray := prog_9_method_37_code
def zy_MO_flow : MethodName := ⟨"PortTranslatorModel", "flow", "(II)I"⟩
theorem zd_MO_flow_0 : decode zb_MO_flow 0 = .ok (.aload_n 0, 1) := by decide +kernel
theorem zd_MO_flow_1 : decode zb_MO_flow 1 = .ok (.iload_n 1, 1) := by decide +kernel
theorem zd_MO_flow_2 : decode zb_MO_flow 2 = .ok (.ifCond .lt 11, 3) := by decide +kernel
theorem zd_MO_flow_5 : decode zb_MO_flow 5 = .ok (.iload_n 1, 1) := by decide +kernel
theorem zd_MO_flow_6 : decode zb_MO_flow 6 = .ok (.aload_n 0, 1) := by decide +kernel
theorem zd_MO_flow_7 : decode zb_MO_flow 7 = .ok (.getfield 93, 3) := by decide +kernel
theorem zd_MO_flow_10 : decode zb_MO_flow 10 = .ok (.if_icmp .lt 7, 3) := by decide +kernel
theorem zd_MO_flow_13 : decode zb_MO_flow 13 = .ok (.iconst 1, 1) := by decide +kernel
theorem zd_MO_flow_14 : decode zb_MO_flow 14 = .ok (.goto 18, 3) := by decide +kernel
theorem zd_MO_flow_17 : decode zb_MO_flow 17 = .ok (.iload_n 2, 1) := by decide +kernel
theorem zd_MO_flow_18 : decode zb_MO_flow 18 = .ok (.ifCond .lt 9, 3) := by decide +kernel
theorem zd_MO_flow_21 : decode zb_MO_flow 21 = .ok (.iload_n 2, 1) := by decide +kernel
theorem zd_MO_flow_22 : decode zb_MO_flow 22 = .ok (.bipush 7, 2) := by decide +kernel
theorem zd_MO_flow_24 : decode zb_MO_flow 24 = .ok (.if_icmp .le 7, 3) := by decide +kernel
theorem zd_MO_flow_27 : decode zb_MO_flow 27 = .ok (.iconst 2, 1) := by decide +kernel
theorem zd_MO_flow_28 : decode zb_MO_flow 28 = .ok (.goto 4, 3) := by decide +kernel
theorem zd_MO_flow_31 : decode zb_MO_flow 31 = .ok (.iconst 0, 1) := by decide +kernel
theorem zd_MO_flow_32 : decode zb_MO_flow 32 = .ok (.putfield 53, 3) := by decide +kernel
theorem zd_MO_flow_35 : decode zb_MO_flow 35 = .ok (.aload_n 0, 1) := by decide +kernel
theorem zd_MO_flow_36 : decode zb_MO_flow 36 = .ok (.getfield 53, 3) := by decide +kernel
theorem zd_MO_flow_39 : decode zb_MO_flow 39 = .ok (.ifCond .le 5, 3) := by decide +kernel
theorem zd_MO_flow_42 : decode zb_MO_flow 42 = .ok (.iconst 0, 1) := by decide +kernel
theorem zd_MO_flow_43 : decode zb_MO_flow 43 = .ok (.ireturn, 1) := by decide +kernel
theorem zd_MO_flow_44 : decode zb_MO_flow 44 = .ok (.iload_n 2, 1) := by decide +kernel
theorem zd_MO_flow_45 : decode zb_MO_flow 45 = .ok (.tableswitch 92 0 6 #[43, 50, 57, 64, 71, 78, 85], 43) := by decide +kernel
theorem zd_MO_flow_88 : decode zb_MO_flow 88 = .ok (.aload_n 0, 1) := by decide +kernel
theorem zd_MO_flow_89 : decode zb_MO_flow 89 = .ok (.getfield 29, 3) := by decide +kernel
theorem zd_MO_flow_92 : decode zb_MO_flow 92 = .ok (.iload_n 1, 1) := by decide +kernel
theorem zd_MO_flow_93 : decode zb_MO_flow 93 = .ok (.iaload, 1) := by decide +kernel
theorem zd_MO_flow_94 : decode zb_MO_flow 94 = .ok (.ireturn, 1) := by decide +kernel
theorem zd_MO_flow_95 : decode zb_MO_flow 95 = .ok (.aload_n 0, 1) := by decide +kernel
theorem zd_MO_flow_96 : decode zb_MO_flow 96 = .ok (.getfield 32, 3) := by decide +kernel
theorem zd_MO_flow_99 : decode zb_MO_flow 99 = .ok (.iload_n 1, 1) := by decide +kernel
theorem zd_MO_flow_100 : decode zb_MO_flow 100 = .ok (.iaload, 1) := by decide +kernel
theorem zd_MO_flow_101 : decode zb_MO_flow 101 = .ok (.ireturn, 1) := by decide +kernel
theorem zd_MO_flow_102 : decode zb_MO_flow 102 = .ok (.aload_n 0, 1) := by decide +kernel
theorem zd_MO_flow_103 : decode zb_MO_flow 103 = .ok (.getfield 35, 3) := by decide +kernel
theorem zd_MO_flow_106 : decode zb_MO_flow 106 = .ok (.iload_n 1, 1) := by decide +kernel
theorem zd_MO_flow_107 : decode zb_MO_flow 107 = .ok (.iaload, 1) := by decide +kernel
theorem zd_MO_flow_108 : decode zb_MO_flow 108 = .ok (.ireturn, 1) := by decide +kernel
theorem zd_MO_flow_109 : decode zb_MO_flow 109 = .ok (.aload_n 0, 1) := by decide +kernel
theorem zd_MO_flow_110 : decode zb_MO_flow 110 = .ok (.getfield 38, 3) := by decide +kernel
theorem zd_MO_flow_113 : decode zb_MO_flow 113 = .ok (.iload_n 1, 1) := by decide +kernel
theorem zd_MO_flow_114 : decode zb_MO_flow 114 = .ok (.iaload, 1) := by decide +kernel
theorem zd_MO_flow_115 : decode zb_MO_flow 115 = .ok (.ireturn, 1) := by decide +kernel
theorem zd_MO_flow_116 : decode zb_MO_flow 116 = .ok (.aload_n 0, 1) := by decide +kernel
theorem zd_MO_flow_117 : decode zb_MO_flow 117 = .ok (.getfield 41, 3) := by decide +kernel
theorem zd_MO_flow_120 : decode zb_MO_flow 120 = .ok (.iload_n 1, 1) := by decide +kernel
theorem zd_MO_flow_121 : decode zb_MO_flow 121 = .ok (.iaload, 1) := by decide +kernel
theorem zd_MO_flow_122 : decode zb_MO_flow 122 = .ok (.ireturn, 1) := by decide +kernel
theorem zd_MO_flow_123 : decode zb_MO_flow 123 = .ok (.aload_n 0, 1) := by decide +kernel
theorem zd_MO_flow_124 : decode zb_MO_flow 124 = .ok (.getfield 44, 3) := by decide +kernel
theorem zd_MO_flow_127 : decode zb_MO_flow 127 = .ok (.iload_n 1, 1) := by decide +kernel
theorem zd_MO_flow_128 : decode zb_MO_flow 128 = .ok (.iaload, 1) := by decide +kernel
theorem zd_MO_flow_129 : decode zb_MO_flow 129 = .ok (.ireturn, 1) := by decide +kernel
theorem zd_MO_flow_130 : decode zb_MO_flow 130 = .ok (.aload_n 0, 1) := by decide +kernel
theorem zd_MO_flow_131 : decode zb_MO_flow 131 = .ok (.getfield 47, 3) := by decide +kernel
theorem zd_MO_flow_134 : decode zb_MO_flow 134 = .ok (.iload_n 1, 1) := by decide +kernel
theorem zd_MO_flow_135 : decode zb_MO_flow 135 = .ok (.iaload, 1) := by decide +kernel
theorem zd_MO_flow_136 : decode zb_MO_flow 136 = .ok (.ireturn, 1) := by decide +kernel
theorem zd_MO_flow_137 : decode zb_MO_flow 137 = .ok (.aload_n 0, 1) := by decide +kernel
theorem zd_MO_flow_138 : decode zb_MO_flow 138 = .ok (.getfield 50, 3) := by decide +kernel
theorem zd_MO_flow_141 : decode zb_MO_flow 141 = .ok (.iload_n 1, 1) := by decide +kernel
theorem zd_MO_flow_142 : decode zb_MO_flow 142 = .ok (.iaload, 1) := by decide +kernel
theorem zd_MO_flow_143 : decode zb_MO_flow 143 = .ok (.ireturn, 1) := by decide +kernel
abbrev zb_MO_bindings : ByteArray := prog_9_method_38_code
def zy_MO_bindings : MethodName := ⟨"PortTranslatorModel", "bindings", "(I)I"⟩
theorem zd_MO_bindings_0 : decode zb_MO_bindings 0 = .ok (.aload_n 0, 1) := by decide +kernel
theorem zd_MO_bindings_1 : decode zb_MO_bindings 1 = .ok (.iconst 0, 1) := by decide +kernel
theorem zd_MO_bindings_2 : decode zb_MO_bindings 2 = .ok (.putfield 53, 3) := by decide +kernel
theorem zd_MO_bindings_5 : decode zb_MO_bindings 5 = .ok (.iconst 0, 1) := by decide +kernel
theorem zd_MO_bindings_6 : decode zb_MO_bindings 6 = .ok (.istore_n 2, 1) := by decide +kernel
theorem zd_MO_bindings_7 : decode zb_MO_bindings 7 = .ok (.iconst 0, 1) := by decide +kernel
theorem zd_MO_bindings_8 : decode zb_MO_bindings 8 = .ok (.istore_n 3, 1) := by decide +kernel
theorem zd_MO_bindings_9 : decode zb_MO_bindings 9 = .ok (.iload_n 3, 1) := by decide +kernel
theorem zd_MO_bindings_10 : decode zb_MO_bindings 10 = .ok (.aload_n 0, 1) := by decide +kernel
theorem zd_MO_bindings_11 : decode zb_MO_bindings 11 = .ok (.getfield 93, 3) := by decide +kernel
theorem zd_MO_bindings_14 : decode zb_MO_bindings 14 = .ok (.if_icmp .ge 93, 3) := by decide +kernel
theorem zd_MO_bindings_17 : decode zb_MO_bindings 17 = .ok (.aload_n 0, 1) := by decide +kernel
theorem zd_MO_bindings_18 : decode zb_MO_bindings 18 = .ok (.getfield 29, 3) := by decide +kernel
theorem zd_MO_bindings_21 : decode zb_MO_bindings 21 = .ok (.iload_n 3, 1) := by decide +kernel
theorem zd_MO_bindings_22 : decode zb_MO_bindings 22 = .ok (.iaload, 1) := by decide +kernel
theorem zd_MO_bindings_23 : decode zb_MO_bindings 23 = .ok (.iload_n 1, 1) := by decide +kernel
theorem zd_MO_bindings_24 : decode zb_MO_bindings 24 = .ok (.if_icmp .ne 7, 3) := by decide +kernel
theorem zd_MO_bindings_27 : decode zb_MO_bindings 27 = .ok (.iconst 1, 1) := by decide +kernel
theorem zd_MO_bindings_28 : decode zb_MO_bindings 28 = .ok (.goto 4, 3) := by decide +kernel
theorem zd_MO_bindings_31 : decode zb_MO_bindings 31 = .ok (.iconst 0, 1) := by decide +kernel
theorem zd_MO_bindings_32 : decode zb_MO_bindings 32 = .ok (.istore 4, 2) := by decide +kernel
theorem zd_MO_bindings_34 : decode zb_MO_bindings 34 = .ok (.iconst 0, 1) := by decide +kernel
theorem zd_MO_bindings_35 : decode zb_MO_bindings 35 = .ok (.istore 5, 2) := by decide +kernel
theorem zd_MO_bindings_37 : decode zb_MO_bindings 37 = .ok (.iload 5, 2) := by decide +kernel
theorem zd_MO_bindings_39 : decode zb_MO_bindings 39 = .ok (.iload_n 3, 1) := by decide +kernel
theorem zd_MO_bindings_40 : decode zb_MO_bindings 40 = .ok (.if_icmp .ge 48, 3) := by decide +kernel
theorem zd_MO_bindings_43 : decode zb_MO_bindings 43 = .ok (.iload 4, 2) := by decide +kernel
theorem zd_MO_bindings_45 : decode zb_MO_bindings 45 = .ok (.ifCond .eq 34, 3) := by decide +kernel
theorem zd_MO_bindings_48 : decode zb_MO_bindings 48 = .ok (.aload_n 0, 1) := by decide +kernel
theorem zd_MO_bindings_49 : decode zb_MO_bindings 49 = .ok (.getfield 29, 3) := by decide +kernel
theorem zd_MO_bindings_52 : decode zb_MO_bindings 52 = .ok (.iload 5, 2) := by decide +kernel
theorem zd_MO_bindings_54 : decode zb_MO_bindings 54 = .ok (.iaload, 1) := by decide +kernel
theorem zd_MO_bindings_55 : decode zb_MO_bindings 55 = .ok (.iload_n 1, 1) := by decide +kernel
theorem zd_MO_bindings_56 : decode zb_MO_bindings 56 = .ok (.if_icmp .ne 19, 3) := by decide +kernel
theorem zd_MO_bindings_59 : decode zb_MO_bindings 59 = .ok (.aload_n 0, 1) := by decide +kernel
theorem zd_MO_bindings_60 : decode zb_MO_bindings 60 = .ok (.getfield 44, 3) := by decide +kernel
theorem zd_MO_bindings_63 : decode zb_MO_bindings 63 = .ok (.iload 5, 2) := by decide +kernel
theorem zd_MO_bindings_65 : decode zb_MO_bindings 65 = .ok (.iaload, 1) := by decide +kernel
theorem zd_MO_bindings_66 : decode zb_MO_bindings 66 = .ok (.aload_n 0, 1) := by decide +kernel
theorem zd_MO_bindings_67 : decode zb_MO_bindings 67 = .ok (.getfield 44, 3) := by decide +kernel
theorem zd_MO_bindings_70 : decode zb_MO_bindings 70 = .ok (.iload_n 3, 1) := by decide +kernel
theorem zd_MO_bindings_71 : decode zb_MO_bindings 71 = .ok (.iaload, 1) := by decide +kernel
theorem zd_MO_bindings_72 : decode zb_MO_bindings 72 = .ok (.if_icmp .eq 7, 3) := by decide +kernel
theorem zd_MO_bindings_75 : decode zb_MO_bindings 75 = .ok (.iconst 1, 1) := by decide +kernel
theorem zd_MO_bindings_76 : decode zb_MO_bindings 76 = .ok (.goto 4, 3) := by decide +kernel
theorem zd_MO_bindings_79 : decode zb_MO_bindings 79 = .ok (.iconst 0, 1) := by decide +kernel
theorem zd_MO_bindings_80 : decode zb_MO_bindings 80 = .ok (.istore 4, 2) := by decide +kernel
theorem zd_MO_bindings_82 : decode zb_MO_bindings 82 = .ok (.iinc 5 1, 3) := by decide +kernel
theorem zd_MO_bindings_85 : decode zb_MO_bindings 85 = .ok (.goto (-48), 3) := by decide +kernel
theorem zd_MO_bindings_88 : decode zb_MO_bindings 88 = .ok (.iload 4, 2) := by decide +kernel
theorem zd_MO_bindings_90 : decode zb_MO_bindings 90 = .ok (.ifCond .eq 9, 3) := by decide +kernel
theorem zd_MO_bindings_93 : decode zb_MO_bindings 93 = .ok (.iload_n 2, 1) := by decide +kernel
theorem zd_MO_bindings_94 : decode zb_MO_bindings 94 = .ok (.iconst 1, 1) := by decide +kernel
theorem zd_MO_bindings_95 : decode zb_MO_bindings 95 = .ok (.iadd, 1) := by decide +kernel
theorem zd_MO_bindings_96 : decode zb_MO_bindings 96 = .ok (.goto 4, 3) := by decide +kernel
theorem zd_MO_bindings_99 : decode zb_MO_bindings 99 = .ok (.iload_n 2, 1) := by decide +kernel
theorem zd_MO_bindings_100 : decode zb_MO_bindings 100 = .ok (.istore_n 2, 1) := by decide +kernel
theorem zd_MO_bindings_101 : decode zb_MO_bindings 101 = .ok (.iinc 3 1, 3) := by decide +kernel
theorem zd_MO_bindings_104 : decode zb_MO_bindings 104 = .ok (.goto (-95), 3) := by decide +kernel
theorem zd_MO_bindings_107 : decode zb_MO_bindings 107 = .ok (.iload_n 2, 1) := by decide +kernel
theorem zd_MO_bindings_108 : decode zb_MO_bindings 108 = .ok (.ireturn, 1) := by decide +kernel
