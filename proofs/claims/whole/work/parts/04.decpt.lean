abbrev zb_PT_init : ByteArray := prog_1_method_1_code
def zy_PT_init : MethodName := ⟨"PortTranslator", "<init>", "()V"⟩
theorem zd_PT_init_0 : decode zb_PT_init 0 = .ok (.aload_n 0, 1) := by decide +kernel
theorem zd_PT_init_1 : decode zb_PT_init 1 = .ok (.invokespecial 1, 3) := by decide +kernel
theorem zd_PT_init_4 : decode zb_PT_init 4 = .ok (.aload_n 0, 1) := by decide +kernel
theorem zd_PT_init_5 : decode zb_PT_init 5 = .ok (.new 7, 3) := by decide +kernel
theorem zd_PT_init_8 : decode zb_PT_init 8 = .ok (.dup, 1) := by decide +kernel
theorem zd_PT_init_9 : decode zb_PT_init 9 = .ok (.invokespecial 9, 3) := by decide +kernel
theorem zd_PT_init_12 : decode zb_PT_init 12 = .ok (.putfield 10, 3) := by decide +kernel
theorem zd_PT_init_15 : decode zb_PT_init 15 = .ok (.aload_n 0, 1) := by decide +kernel
theorem zd_PT_init_16 : decode zb_PT_init 16 = .ok (.new 7, 3) := by decide +kernel
theorem zd_PT_init_19 : decode zb_PT_init 19 = .ok (.dup, 1) := by decide +kernel
theorem zd_PT_init_20 : decode zb_PT_init 20 = .ok (.invokespecial 9, 3) := by decide +kernel
theorem zd_PT_init_23 : decode zb_PT_init 23 = .ok (.putfield 16, 3) := by decide +kernel
theorem zd_PT_init_26 : decode zb_PT_init 26 = .ok (.aload_n 0, 1) := by decide +kernel
theorem zd_PT_init_27 : decode zb_PT_init 27 = .ok (.new 19, 3) := by decide +kernel
theorem zd_PT_init_30 : decode zb_PT_init 30 = .ok (.dup, 1) := by decide +kernel
theorem zd_PT_init_31 : decode zb_PT_init 31 = .ok (.invokespecial 21, 3) := by decide +kernel
theorem zd_PT_init_34 : decode zb_PT_init 34 = .ok (.putfield 22, 3) := by decide +kernel
theorem zd_PT_init_37 : decode zb_PT_init 37 = .ok (.aload_n 0, 1) := by decide +kernel
theorem zd_PT_init_38 : decode zb_PT_init 38 = .ok (.new 26, 3) := by decide +kernel
theorem zd_PT_init_41 : decode zb_PT_init 41 = .ok (.dup, 1) := by decide +kernel
theorem zd_PT_init_42 : decode zb_PT_init 42 = .ok (.invokespecial 28, 3) := by decide +kernel
theorem zd_PT_init_45 : decode zb_PT_init 45 = .ok (.putfield 29, 3) := by decide +kernel
theorem zd_PT_init_48 : decode zb_PT_init 48 = .ok (.aload_n 0, 1) := by decide +kernel
theorem zd_PT_init_49 : decode zb_PT_init 49 = .ok (.new 33, 3) := by decide +kernel
theorem zd_PT_init_52 : decode zb_PT_init 52 = .ok (.dup, 1) := by decide +kernel
theorem zd_PT_init_53 : decode zb_PT_init 53 = .ok (.invokespecial 35, 3) := by decide +kernel
theorem zd_PT_init_56 : decode zb_PT_init 56 = .ok (.putfield 36, 3) := by decide +kernel
theorem zd_PT_init_59 : decode zb_PT_init 59 = .ok (.return_, 1) := by decide +kernel
abbrev zb_PT_put : ByteArray := prog_1_method_2_code
def zy_PT_put : MethodName := ⟨"PortTranslator", "put", "(IJ)Z"⟩
theorem zd_PT_put_0 : decode zb_PT_put 0 = .ok (.iload_n 1, 1) := by decide +kernel
theorem zd_PT_put_1 : decode zb_PT_put 1 = .ok (.iconst 1, 1) := by decide +kernel
theorem zd_PT_put_2 : decode zb_PT_put 2 = .ok (.if_icmp .lt 19, 3) := by decide +kernel
theorem zd_PT_put_5 : decode zb_PT_put 5 = .ok (.iload_n 1, 1) := by decide +kernel
theorem zd_PT_put_6 : decode zb_PT_put 6 = .ok (.iconst 4, 1) := by decide +kernel
theorem zd_PT_put_7 : decode zb_PT_put 7 = .ok (.if_icmp .gt 14, 3) := by decide +kernel
theorem zd_PT_put_10 : decode zb_PT_put 10 = .ok (.aload_n 0, 1) := by decide +kernel
theorem zd_PT_put_11 : decode zb_PT_put 11 = .ok (.getfield 10, 3) := by decide +kernel
theorem zd_PT_put_14 : decode zb_PT_put 14 = .ok (.iload_n 1, 1) := by decide +kernel
theorem zd_PT_put_15 : decode zb_PT_put 15 = .ok (.invokevirtual 40, 3) := by decide +kernel
theorem zd_PT_put_18 : decode zb_PT_put 18 = .ok (.ifCond .ne 5, 3) := by decide +kernel
theorem zd_PT_put_21 : decode zb_PT_put 21 = .ok (.iconst 0, 1) := by decide +kernel
theorem zd_PT_put_22 : decode zb_PT_put 22 = .ok (.ireturn, 1) := by decide +kernel
theorem zd_PT_put_23 : decode zb_PT_put 23 = .ok (.iload_n 1, 1) := by decide +kernel
theorem zd_PT_put_24 : decode zb_PT_put 24 = .ok (.iconst 1, 1) := by decide +kernel
theorem zd_PT_put_25 : decode zb_PT_put 25 = .ok (.isub, 1) := by decide +kernel
theorem zd_PT_put_26 : decode zb_PT_put 26 = .ok (.istore 4, 2) := by decide +kernel
theorem zd_PT_put_28 : decode zb_PT_put 28 = .ok (.iload 4, 2) := by decide +kernel
theorem zd_PT_put_30 : decode zb_PT_put 30 = .ok (.ifCond .lt 27, 3) := by decide +kernel
theorem zd_PT_put_33 : decode zb_PT_put 33 = .ok (.aload_n 0, 1) := by decide +kernel
theorem zd_PT_put_34 : decode zb_PT_put 34 = .ok (.getfield 10, 3) := by decide +kernel
theorem zd_PT_put_37 : decode zb_PT_put 37 = .ok (.lload_n 2, 1) := by decide +kernel
theorem zd_PT_put_38 : decode zb_PT_put 38 = .ok (.bipush 16, 2) := by decide +kernel
theorem zd_PT_put_40 : decode zb_PT_put 40 = .ok (.iload 4, 2) := by decide +kernel
theorem zd_PT_put_42 : decode zb_PT_put 42 = .ok (.imul, 1) := by decide +kernel
theorem zd_PT_put_43 : decode zb_PT_put 43 = .ok (.lushr, 1) := by decide +kernel
theorem zd_PT_put_44 : decode zb_PT_put 44 = .ok (.l2i, 1) := by decide +kernel
theorem zd_PT_put_45 : decode zb_PT_put 45 = .ok (.ldc 44, 2) := by decide +kernel
theorem zd_PT_put_47 : decode zb_PT_put 47 = .ok (.iand, 1) := by decide +kernel
theorem zd_PT_put_48 : decode zb_PT_put 48 = .ok (.invokevirtual 45, 3) := by decide +kernel
theorem zd_PT_put_51 : decode zb_PT_put 51 = .ok (.iinc 4 (-1), 3) := by decide +kernel
theorem zd_PT_put_54 : decode zb_PT_put 54 = .ok (.goto (-26), 3) := by decide +kernel
theorem zd_PT_put_57 : decode zb_PT_put 57 = .ok (.iconst 1, 1) := by decide +kernel
theorem zd_PT_put_58 : decode zb_PT_put 58 = .ok (.ireturn, 1) := by decide +kernel
abbrev zb_PT_scrap : ByteArray := prog_1_method_3_code
def zy_PT_scrap : MethodName := ⟨"PortTranslator", "scrap", "()V"⟩
theorem zd_PT_scrap_0 : decode zb_PT_scrap 0 = .ok (.aload_n 0, 1) := by decide +kernel
theorem zd_PT_scrap_1 : decode zb_PT_scrap 1 = .ok (.getfield 10, 3) := by decide +kernel
theorem zd_PT_scrap_4 : decode zb_PT_scrap 4 = .ok (.invokevirtual 49, 3) := by decide +kernel
theorem zd_PT_scrap_7 : decode zb_PT_scrap 7 = .ok (.return_, 1) := by decide +kernel
abbrev zb_PT_route : ByteArray := prog_1_method_4_code
def zy_PT_route : MethodName := ⟨"PortTranslator", "route", "(Z)I"⟩
theorem zd_PT_route_0 : decode zb_PT_route 0 = .ok (.aload_n 0, 1) := by decide +kernel
theorem zd_PT_route_1 : decode zb_PT_route 1 = .ok (.invokevirtual 52, 3) := by decide +kernel
theorem zd_PT_route_4 : decode zb_PT_route 4 = .ok (.istore_n 2, 1) := by decide +kernel
theorem zd_PT_route_5 : decode zb_PT_route 5 = .ok (.iload_n 2, 1) := by decide +kernel
theorem zd_PT_route_6 : decode zb_PT_route 6 = .ok (.ifCond .ne 31, 3) := by decide +kernel
theorem zd_PT_route_9 : decode zb_PT_route 9 = .ok (.aload_n 0, 1) := by decide +kernel
theorem zd_PT_route_10 : decode zb_PT_route 10 = .ok (.getfield 22, 3) := by decide +kernel
theorem zd_PT_route_13 : decode zb_PT_route 13 = .ok (.aload_n 0, 1) := by decide +kernel
theorem zd_PT_route_14 : decode zb_PT_route 14 = .ok (.getfield 10, 3) := by decide +kernel
theorem zd_PT_route_17 : decode zb_PT_route 17 = .ok (.iload_n 1, 1) := by decide +kernel
theorem zd_PT_route_18 : decode zb_PT_route 18 = .ok (.invokevirtual 56, 3) := by decide +kernel
theorem zd_PT_route_21 : decode zb_PT_route 21 = .ok (.iload_n 1, 1) := by decide +kernel
theorem zd_PT_route_22 : decode zb_PT_route 22 = .ok (.ifCond .eq 10, 3) := by decide +kernel
theorem zd_PT_route_25 : decode zb_PT_route 25 = .ok (.aload_n 0, 1) := by decide +kernel
theorem zd_PT_route_26 : decode zb_PT_route 26 = .ok (.invokevirtual 60, 3) := by decide +kernel
theorem zd_PT_route_29 : decode zb_PT_route 29 = .ok (.goto 7, 3) := by decide +kernel
theorem zd_PT_route_32 : decode zb_PT_route 32 = .ok (.aload_n 0, 1) := by decide +kernel
theorem zd_PT_route_33 : decode zb_PT_route 33 = .ok (.invokevirtual 63, 3) := by decide +kernel
theorem zd_PT_route_36 : decode zb_PT_route 36 = .ok (.istore_n 2, 1) := by decide +kernel
theorem zd_PT_route_37 : decode zb_PT_route 37 = .ok (.iload_n 2, 1) := by decide +kernel
theorem zd_PT_route_38 : decode zb_PT_route 38 = .ok (.ifCond .ne 21, 3) := by decide +kernel
theorem zd_PT_route_41 : decode zb_PT_route 41 = .ok (.aload_n 0, 1) := by decide +kernel
theorem zd_PT_route_42 : decode zb_PT_route 42 = .ok (.getfield 10, 3) := by decide +kernel
theorem zd_PT_route_45 : decode zb_PT_route 45 = .ok (.invokevirtual 66, 3) := by decide +kernel
theorem zd_PT_route_48 : decode zb_PT_route 48 = .ok (.aload_n 0, 1) := by decide +kernel
theorem zd_PT_route_49 : decode zb_PT_route 49 = .ok (.getfield 16, 3) := by decide +kernel
theorem zd_PT_route_52 : decode zb_PT_route 52 = .ok (.aload_n 0, 1) := by decide +kernel
theorem zd_PT_route_53 : decode zb_PT_route 53 = .ok (.getfield 10, 3) := by decide +kernel
theorem zd_PT_route_56 : decode zb_PT_route 56 = .ok (.invokevirtual 69, 3) := by decide +kernel
theorem zd_PT_route_59 : decode zb_PT_route 59 = .ok (.aload_n 0, 1) := by decide +kernel
theorem zd_PT_route_60 : decode zb_PT_route 60 = .ok (.getfield 10, 3) := by decide +kernel
theorem zd_PT_route_63 : decode zb_PT_route 63 = .ok (.invokevirtual 49, 3) := by decide +kernel
theorem zd_PT_route_66 : decode zb_PT_route 66 = .ok (.iload_n 2, 1) := by decide +kernel
theorem zd_PT_route_67 : decode zb_PT_route 67 = .ok (.ireturn, 1) := by decide +kernel
abbrev zb_PT_length : ByteArray := prog_1_method_5_code
def zy_PT_length : MethodName := ⟨"PortTranslator", "length", "()I"⟩
theorem zd_PT_length_0 : decode zb_PT_length 0 = .ok (.aload_n 0, 1) := by decide +kernel
theorem zd_PT_length_1 : decode zb_PT_length 1 = .ok (.getfield 16, 3) := by decide +kernel
theorem zd_PT_length_4 : decode zb_PT_length 4 = .ok (.getfield 73, 3) := by decide +kernel
theorem zd_PT_length_7 : decode zb_PT_length 7 = .ok (.ireturn, 1) := by decide +kernel
abbrev zb_PT_at : ByteArray := prog_1_method_6_code
def zy_PT_at : MethodName := ⟨"PortTranslator", "at", "(I)I"⟩
theorem zd_PT_at_0 : decode zb_PT_at 0 = .ok (.iload_n 1, 1) := by decide +kernel
theorem zd_PT_at_1 : decode zb_PT_at 1 = .ok (.ifCond .lt 14, 3) := by decide +kernel
theorem zd_PT_at_4 : decode zb_PT_at 4 = .ok (.iload_n 1, 1) := by decide +kernel
theorem zd_PT_at_5 : decode zb_PT_at 5 = .ok (.aload_n 0, 1) := by decide +kernel
theorem zd_PT_at_6 : decode zb_PT_at 6 = .ok (.getfield 16, 3) := by decide +kernel
theorem zd_PT_at_9 : decode zb_PT_at 9 = .ok (.getfield 73, 3) := by decide +kernel
theorem zd_PT_at_12 : decode zb_PT_at 12 = .ok (.if_icmp .lt 11, 3) := by decide +kernel
theorem zd_PT_at_15 : decode zb_PT_at 15 = .ok (.new 77, 3) := by decide +kernel
theorem zd_PT_at_18 : decode zb_PT_at 18 = .ok (.dup, 1) := by decide +kernel
theorem zd_PT_at_19 : decode zb_PT_at 19 = .ok (.invokespecial 79, 3) := by decide +kernel
theorem zd_PT_at_22 : decode zb_PT_at 22 = .ok (.athrow, 1) := by decide +kernel
theorem zd_PT_at_23 : decode zb_PT_at 23 = .ok (.aload_n 0, 1) := by decide +kernel
theorem zd_PT_at_24 : decode zb_PT_at 24 = .ok (.getfield 16, 3) := by decide +kernel
theorem zd_PT_at_27 : decode zb_PT_at 27 = .ok (.getfield 80, 3) := by decide +kernel
theorem zd_PT_at_30 : decode zb_PT_at 30 = .ok (.iload_n 1, 1) := by decide +kernel
theorem zd_PT_at_31 : decode zb_PT_at 31 = .ok (.iaload, 1) := by decide +kernel
theorem zd_PT_at_32 : decode zb_PT_at 32 = .ok (.ireturn, 1) := by decide +kernel
abbrev zb_PT_tick : ByteArray := prog_1_method_7_code
def zy_PT_tick : MethodName := ⟨"PortTranslator", "tick", "(I)I"⟩
theorem zd_PT_tick_0 : decode zb_PT_tick 0 = .ok (.iload_n 1, 1) := by decide +kernel
theorem zd_PT_tick_1 : decode zb_PT_tick 1 = .ok (.iconst 1, 1) := by decide +kernel
theorem zd_PT_tick_2 : decode zb_PT_tick 2 = .ok (.if_icmp .lt 9, 3) := by decide +kernel
theorem zd_PT_tick_5 : decode zb_PT_tick 5 = .ok (.iload_n 1, 1) := by decide +kernel
theorem zd_PT_tick_6 : decode zb_PT_tick 6 = .ok (.bipush 100, 2) := by decide +kernel
theorem zd_PT_tick_8 : decode zb_PT_tick 8 = .ok (.if_icmp .le 11, 3) := by decide +kernel
theorem zd_PT_tick_11 : decode zb_PT_tick 11 = .ok (.new 84, 3) := by decide +kernel
theorem zd_PT_tick_14 : decode zb_PT_tick 14 = .ok (.dup, 1) := by decide +kernel
theorem zd_PT_tick_15 : decode zb_PT_tick 15 = .ok (.invokespecial 86, 3) := by decide +kernel
theorem zd_PT_tick_18 : decode zb_PT_tick 18 = .ok (.athrow, 1) := by decide +kernel
theorem zd_PT_tick_19 : decode zb_PT_tick 19 = .ok (.aload_n 0, 1) := by decide +kernel
theorem zd_PT_tick_20 : decode zb_PT_tick 20 = .ok (.getfield 29, 3) := by decide +kernel
theorem zd_PT_tick_23 : decode zb_PT_tick 23 = .ok (.iload_n 1, 1) := by decide +kernel
theorem zd_PT_tick_24 : decode zb_PT_tick 24 = .ok (.invokevirtual 87, 3) := by decide +kernel
theorem zd_PT_tick_27 : decode zb_PT_tick 27 = .ok (.ireturn, 1) := by decide +kernel
abbrev zb_PT_rule : ByteArray := prog_1_method_8_code
def zy_PT_rule : MethodName := ⟨"PortTranslator", "rule", "(IIIIZ)I"⟩
theorem zd_PT_rule_0 : decode zb_PT_rule 0 = .ok (.iload_n 1, 1) := by decide +kernel
theorem zd_PT_rule_1 : decode zb_PT_rule 1 = .ok (.invokestatic 91, 3) := by decide +kernel
theorem zd_PT_rule_4 : decode zb_PT_rule 4 = .ok (.ifCond .eq 26, 3) := by decide +kernel
theorem zd_PT_rule_7 : decode zb_PT_rule 7 = .ok (.iload_n 2, 1) := by decide +kernel
theorem zd_PT_rule_8 : decode zb_PT_rule 8 = .ok (.ifCond .eq 10, 3) := by decide +kernel
theorem zd_PT_rule_11 : decode zb_PT_rule 11 = .ok (.iload_n 2, 1) := by decide +kernel
theorem zd_PT_rule_12 : decode zb_PT_rule 12 = .ok (.invokestatic 94, 3) := by decide +kernel
theorem zd_PT_rule_15 : decode zb_PT_rule 15 = .ok (.ifCond .eq 15, 3) := by decide +kernel
theorem zd_PT_rule_18 : decode zb_PT_rule 18 = .ok (.iload 4, 2) := by decide +kernel
theorem zd_PT_rule_20 : decode zb_PT_rule 20 = .ok (.ifCond .lt 10, 3) := by decide +kernel
theorem zd_PT_rule_23 : decode zb_PT_rule 23 = .ok (.iload 4, 2) := by decide +kernel
theorem zd_PT_rule_25 : decode zb_PT_rule 25 = .ok (.bipush 32, 2) := by decide +kernel
theorem zd_PT_rule_27 : decode zb_PT_rule 27 = .ok (.if_icmp .le 11, 3) := by decide +kernel
theorem zd_PT_rule_30 : decode zb_PT_rule 30 = .ok (.new 84, 3) := by decide +kernel
theorem zd_PT_rule_33 : decode zb_PT_rule 33 = .ok (.dup, 1) := by decide +kernel
theorem zd_PT_rule_34 : decode zb_PT_rule 34 = .ok (.invokespecial 86, 3) := by decide +kernel
theorem zd_PT_rule_37 : decode zb_PT_rule 37 = .ok (.athrow, 1) := by decide +kernel
theorem zd_PT_rule_38 : decode zb_PT_rule 38 = .ok (.aload_n 0, 1) := by decide +kernel
theorem zd_PT_rule_39 : decode zb_PT_rule 39 = .ok (.getfield 36, 3) := by decide +kernel
theorem zd_PT_rule_42 : decode zb_PT_rule 42 = .ok (.getfield 97, 3) := by decide +kernel
theorem zd_PT_rule_45 : decode zb_PT_rule 45 = .ok (.iload_n 1, 1) := by decide +kernel
theorem zd_PT_rule_46 : decode zb_PT_rule 46 = .ok (.aaload, 1) := by decide +kernel
theorem zd_PT_rule_47 : decode zb_PT_rule 47 = .ok (.iload_n 2, 1) := by decide +kernel
theorem zd_PT_rule_48 : decode zb_PT_rule 48 = .ok (.iload_n 3, 1) := by decide +kernel
theorem zd_PT_rule_49 : decode zb_PT_rule 49 = .ok (.iload 4, 2) := by decide +kernel
theorem zd_PT_rule_51 : decode zb_PT_rule 51 = .ok (.iload 5, 2) := by decide +kernel
theorem zd_PT_rule_53 : decode zb_PT_rule 53 = .ok (.invokevirtual 101, 3) := by decide +kernel
theorem zd_PT_rule_56 : decode zb_PT_rule 56 = .ok (.aload_n 0, 1) := by decide +kernel
theorem zd_PT_rule_57 : decode zb_PT_rule 57 = .ok (.getfield 36, 3) := by decide +kernel
theorem zd_PT_rule_60 : decode zb_PT_rule 60 = .ok (.invokevirtual 107, 3) := by decide +kernel
theorem zd_PT_rule_63 : decode zb_PT_rule 63 = .ok (.ireturn, 1) := by decide +kernel
abbrev zb_PT_forget : ByteArray := prog_1_method_9_code
def zy_PT_forget : MethodName := ⟨"PortTranslator", "forget", "(I)I"⟩
theorem zd_PT_forget_0 : decode zb_PT_forget 0 = .ok (.iload_n 1, 1) := by decide +kernel
theorem zd_PT_forget_1 : decode zb_PT_forget 1 = .ok (.invokestatic 91, 3) := by decide +kernel
theorem zd_PT_forget_4 : decode zb_PT_forget 4 = .ok (.ifCond .eq 18, 3) := by decide +kernel
theorem zd_PT_forget_7 : decode zb_PT_forget 7 = .ok (.aload_n 0, 1) := by decide +kernel
theorem zd_PT_forget_8 : decode zb_PT_forget 8 = .ok (.getfield 36, 3) := by decide +kernel
theorem zd_PT_forget_11 : decode zb_PT_forget 11 = .ok (.getfield 97, 3) := by decide +kernel
theorem zd_PT_forget_14 : decode zb_PT_forget 14 = .ok (.iload_n 1, 1) := by decide +kernel
theorem zd_PT_forget_15 : decode zb_PT_forget 15 = .ok (.aaload, 1) := by decide +kernel
theorem zd_PT_forget_16 : decode zb_PT_forget 16 = .ok (.getfield 110, 3) := by decide +kernel
theorem zd_PT_forget_19 : decode zb_PT_forget 19 = .ok (.ifCond .ne 11, 3) := by decide +kernel
theorem zd_PT_forget_22 : decode zb_PT_forget 22 = .ok (.new 84, 3) := by decide +kernel
theorem zd_PT_forget_25 : decode zb_PT_forget 25 = .ok (.dup, 1) := by decide +kernel
theorem zd_PT_forget_26 : decode zb_PT_forget 26 = .ok (.invokespecial 86, 3) := by decide +kernel
theorem zd_PT_forget_29 : decode zb_PT_forget 29 = .ok (.athrow, 1) := by decide +kernel
theorem zd_PT_forget_30 : decode zb_PT_forget 30 = .ok (.aload_n 0, 1) := by decide +kernel
theorem zd_PT_forget_31 : decode zb_PT_forget 31 = .ok (.getfield 36, 3) := by decide +kernel
theorem zd_PT_forget_34 : decode zb_PT_forget 34 = .ok (.getfield 97, 3) := by decide +kernel
theorem zd_PT_forget_37 : decode zb_PT_forget 37 = .ok (.iload_n 1, 1) := by decide +kernel
theorem zd_PT_forget_38 : decode zb_PT_forget 38 = .ok (.aaload, 1) := by decide +kernel
theorem zd_PT_forget_39 : decode zb_PT_forget 39 = .ok (.iconst 0, 1) := by decide +kernel
theorem zd_PT_forget_40 : decode zb_PT_forget 40 = .ok (.putfield 110, 3) := by decide +kernel
theorem zd_PT_forget_43 : decode zb_PT_forget 43 = .ok (.aload_n 0, 1) := by decide +kernel
theorem zd_PT_forget_44 : decode zb_PT_forget 44 = .ok (.getfield 36, 3) := by decide +kernel
theorem zd_PT_forget_47 : decode zb_PT_forget 47 = .ok (.invokevirtual 107, 3) := by decide +kernel
theorem zd_PT_forget_50 : decode zb_PT_forget 50 = .ok (.ireturn, 1) := by decide +kernel
abbrev zb_PT_flows : ByteArray := prog_1_method_10_code
def zy_PT_flows : MethodName := ⟨"PortTranslator", "flows", "()I"⟩
theorem zd_PT_flows_0 : decode zb_PT_flows 0 = .ok (.aload_n 0, 1) := by decide +kernel
theorem zd_PT_flows_1 : decode zb_PT_flows 1 = .ok (.getfield 29, 3) := by decide +kernel
theorem zd_PT_flows_4 : decode zb_PT_flows 4 = .ok (.getfield 114, 3) := by decide +kernel
theorem zd_PT_flows_7 : decode zb_PT_flows 7 = .ok (.ireturn, 1) := by decide +kernel
abbrev zb_PT_flow : ByteArray := prog_1_method_11_code
def zy_PT_flow : MethodName := ⟨"PortTranslator", "flow", "(II)I"⟩
theorem zd_PT_flow_0 : decode zb_PT_flow 0 = .ok (.iload_n 1, 1) := by decide +kernel
theorem zd_PT_flow_1 : decode zb_PT_flow 1 = .ok (.ifCond .lt 14, 3) := by decide +kernel
theorem zd_PT_flow_4 : decode zb_PT_flow 4 = .ok (.iload_n 1, 1) := by decide +kernel
theorem zd_PT_flow_5 : decode zb_PT_flow 5 = .ok (.aload_n 0, 1) := by decide +kernel
theorem zd_PT_flow_6 : decode zb_PT_flow 6 = .ok (.getfield 29, 3) := by decide +kernel
theorem zd_PT_flow_9 : decode zb_PT_flow 9 = .ok (.getfield 114, 3) := by decide +kernel
theorem zd_PT_flow_12 : decode zb_PT_flow 12 = .ok (.if_icmp .lt 11, 3) := by decide +kernel
theorem zd_PT_flow_15 : decode zb_PT_flow 15 = .ok (.new 77, 3) := by decide +kernel
theorem zd_PT_flow_18 : decode zb_PT_flow 18 = .ok (.dup, 1) := by decide +kernel
theorem zd_PT_flow_19 : decode zb_PT_flow 19 = .ok (.invokespecial 79, 3) := by decide +kernel
theorem zd_PT_flow_22 : decode zb_PT_flow 22 = .ok (.athrow, 1) := by decide +kernel
theorem zd_PT_flow_23 : decode zb_PT_flow 23 = .ok (.iload_n 2, 1) := by decide +kernel
theorem zd_PT_flow_24 : decode zb_PT_flow 24 = .ok (.ifCond .lt 9, 3) := by decide +kernel
theorem zd_PT_flow_27 : decode zb_PT_flow 27 = .ok (.iload_n 2, 1) := by decide +kernel
theorem zd_PT_flow_28 : decode zb_PT_flow 28 = .ok (.bipush 7, 2) := by decide +kernel
theorem zd_PT_flow_30 : decode zb_PT_flow 30 = .ok (.if_icmp .le 11, 3) := by decide +kernel
theorem zd_PT_flow_33 : decode zb_PT_flow 33 = .ok (.new 84, 3) := by decide +kernel
theorem zd_PT_flow_36 : decode zb_PT_flow 36 = .ok (.dup, 1) := by decide +kernel
theorem zd_PT_flow_37 : decode zb_PT_flow 37 = .ok (.invokespecial 86, 3) := by decide +kernel
theorem zd_PT_flow_40 : decode zb_PT_flow 40 = .ok (.athrow, 1) := by decide +kernel
theorem zd_PT_flow_41 : decode zb_PT_flow 41 = .ok (.aload_n 0, 1) := by decide +kernel
theorem zd_PT_flow_42 : decode zb_PT_flow 42 = .ok (.getfield 29, 3) := by decide +kernel
theorem zd_PT_flow_45 : decode zb_PT_flow 45 = .ok (.getfield 116, 3) := by decide +kernel
theorem zd_PT_flow_48 : decode zb_PT_flow 48 = .ok (.iload_n 1, 1) := by decide +kernel
theorem zd_PT_flow_49 : decode zb_PT_flow 49 = .ok (.aaload, 1) := by decide +kernel
theorem zd_PT_flow_50 : decode zb_PT_flow 50 = .ok (.iload_n 2, 1) := by decide +kernel
theorem zd_PT_flow_51 : decode zb_PT_flow 51 = .ok (.invokevirtual 119, 3) := by decide +kernel
theorem zd_PT_flow_54 : decode zb_PT_flow 54 = .ok (.ireturn, 1) := by decide +kernel
abbrev zb_PT_bindings : ByteArray := prog_1_method_12_code
def zy_PT_bindings : MethodName := ⟨"PortTranslator", "bindings", "(I)I"⟩
theorem zd_PT_bindings_0 : decode zb_PT_bindings 0 = .ok (.aload_n 0, 1) := by decide +kernel
theorem zd_PT_bindings_1 : decode zb_PT_bindings 1 = .ok (.getfield 29, 3) := by decide +kernel
theorem zd_PT_bindings_4 : decode zb_PT_bindings 4 = .ok (.iload_n 1, 1) := by decide +kernel
theorem zd_PT_bindings_5 : decode zb_PT_bindings 5 = .ok (.invokevirtual 124, 3) := by decide +kernel
theorem zd_PT_bindings_8 : decode zb_PT_bindings 8 = .ok (.ireturn, 1) := by decide +kernel
abbrev zb_PT_isKind : ByteArray := prog_1_method_13_code
def zy_PT_isKind : MethodName := ⟨"PortTranslator", "isKind", "(I)Z"⟩
theorem zd_PT_isKind_0 : decode zb_PT_isKind 0 = .ok (.iload_n 0, 1) := by decide +kernel
theorem zd_PT_isKind_1 : decode zb_PT_isKind 1 = .ok (.iconst 1, 1) := by decide +kernel
theorem zd_PT_isKind_2 : decode zb_PT_isKind 2 = .ok (.if_icmp .eq 15, 3) := by decide +kernel
theorem zd_PT_isKind_5 : decode zb_PT_isKind 5 = .ok (.iload_n 0, 1) := by decide +kernel
theorem zd_PT_isKind_6 : decode zb_PT_isKind 6 = .ok (.bipush 6, 2) := by decide +kernel
theorem zd_PT_isKind_8 : decode zb_PT_isKind 8 = .ok (.if_icmp .eq 9, 3) := by decide +kernel
theorem zd_PT_isKind_11 : decode zb_PT_isKind 11 = .ok (.iload_n 0, 1) := by decide +kernel
theorem zd_PT_isKind_12 : decode zb_PT_isKind 12 = .ok (.bipush 17, 2) := by decide +kernel
theorem zd_PT_isKind_14 : decode zb_PT_isKind 14 = .ok (.if_icmp .ne 7, 3) := by decide +kernel
theorem zd_PT_isKind_17 : decode zb_PT_isKind 17 = .ok (.iconst 1, 1) := by decide +kernel
theorem zd_PT_isKind_18 : decode zb_PT_isKind 18 = .ok (.goto 4, 3) := by decide +kernel
theorem zd_PT_isKind_21 : decode zb_PT_isKind 21 = .ok (.iconst 0, 1) := by decide +kernel
theorem zd_PT_isKind_22 : decode zb_PT_isKind 22 = .ok (.ireturn, 1) := by decide +kernel
abbrev zb_PT_isInside : ByteArray := prog_1_method_14_code
def zy_PT_isInside : MethodName := ⟨"PortTranslator", "isInside", "(I)Z"⟩
theorem zd_PT_isInside_0 : decode zb_PT_isInside 0 = .ok (.iload_n 0, 1) := by decide +kernel
theorem zd_PT_isInside_1 : decode zb_PT_isInside 1 = .ok (.ldc 127, 2) := by decide +kernel
theorem zd_PT_isInside_3 : decode zb_PT_isInside 3 = .ok (.if_icmp .lt 13, 3) := by decide +kernel
theorem zd_PT_isInside_6 : decode zb_PT_isInside 6 = .ok (.iload_n 0, 1) := by decide +kernel
theorem zd_PT_isInside_7 : decode zb_PT_isInside 7 = .ok (.ldc 128, 2) := by decide +kernel
theorem zd_PT_isInside_9 : decode zb_PT_isInside 9 = .ok (.if_icmp .gt 7, 3) := by decide +kernel
theorem zd_PT_isInside_12 : decode zb_PT_isInside 12 = .ok (.iconst 1, 1) := by decide +kernel
theorem zd_PT_isInside_13 : decode zb_PT_isInside 13 = .ok (.goto 4, 3) := by decide +kernel
theorem zd_PT_isInside_16 : decode zb_PT_isInside 16 = .ok (.iconst 0, 1) := by decide +kernel
theorem zd_PT_isInside_17 : decode zb_PT_isInside 17 = .ok (.ireturn, 1) := by decide +kernel
abbrev zb_PT_isOutside : ByteArray := prog_1_method_15_code
def zy_PT_isOutside : MethodName := ⟨"PortTranslator", "isOutside", "(I)Z"⟩
theorem zd_PT_isOutside_0 : decode zb_PT_isOutside 0 = .ok (.iload_n 0, 1) := by decide +kernel
theorem zd_PT_isOutside_1 : decode zb_PT_isOutside 1 = .ok (.invokestatic 129, 3) := by decide +kernel
theorem zd_PT_isOutside_4 : decode zb_PT_isOutside 4 = .ok (.ifCond .ne 13, 3) := by decide +kernel
theorem zd_PT_isOutside_7 : decode zb_PT_isOutside 7 = .ok (.iload_n 0, 1) := by decide +kernel
theorem zd_PT_isOutside_8 : decode zb_PT_isOutside 8 = .ok (.ldc 132, 2) := by decide +kernel
theorem zd_PT_isOutside_10 : decode zb_PT_isOutside 10 = .ok (.if_icmp .eq 7, 3) := by decide +kernel
theorem zd_PT_isOutside_13 : decode zb_PT_isOutside 13 = .ok (.iconst 1, 1) := by decide +kernel
theorem zd_PT_isOutside_14 : decode zb_PT_isOutside 14 = .ok (.goto 4, 3) := by decide +kernel
theorem zd_PT_isOutside_17 : decode zb_PT_isOutside 17 = .ok (.iconst 0, 1) := by decide +kernel
theorem zd_PT_isOutside_18 : decode zb_PT_isOutside 18 = .ok (.ireturn, 1) := by decide +kernel
abbrev zb_PT_judgeDraft : ByteArray := prog_1_method_16_code
def zy_PT_judgeDraft : MethodName := ⟨"PortTranslator", "judgeDraft", "()I"⟩
theorem zd_PT_judgeDraft_0 : decode zb_PT_judgeDraft 0 = .ok (.aload_n 0, 1) := by decide +kernel
theorem zd_PT_judgeDraft_1 : decode zb_PT_judgeDraft 1 = .ok (.getfield 10, 3) := by decide +kernel
theorem zd_PT_judgeDraft_4 : decode zb_PT_judgeDraft 4 = .ok (.invokevirtual 133, 3) := by decide +kernel
theorem zd_PT_judgeDraft_7 : decode zb_PT_judgeDraft 7 = .ok (.ifCond .ne 5, 3) := by decide +kernel
theorem zd_PT_judgeDraft_10 : decode zb_PT_judgeDraft 10 = .ok (.iconst 1, 1) := by decide +kernel
theorem zd_PT_judgeDraft_11 : decode zb_PT_judgeDraft 11 = .ok (.ireturn, 1) := by decide +kernel
theorem zd_PT_judgeDraft_12 : decode zb_PT_judgeDraft 12 = .ok (.aload_n 0, 1) := by decide +kernel
theorem zd_PT_judgeDraft_13 : decode zb_PT_judgeDraft 13 = .ok (.getfield 10, 3) := by decide +kernel
theorem zd_PT_judgeDraft_16 : decode zb_PT_judgeDraft 16 = .ok (.invokevirtual 137, 3) := by decide +kernel
theorem zd_PT_judgeDraft_19 : decode zb_PT_judgeDraft 19 = .ok (.iconst 2, 1) := by decide +kernel
theorem zd_PT_judgeDraft_20 : decode zb_PT_judgeDraft 20 = .ok (.if_icmp .ge 7, 3) := by decide +kernel
theorem zd_PT_judgeDraft_23 : decode zb_PT_judgeDraft 23 = .ok (.iconst 3, 1) := by decide +kernel
theorem zd_PT_judgeDraft_24 : decode zb_PT_judgeDraft 24 = .ok (.goto 4, 3) := by decide +kernel
theorem zd_PT_judgeDraft_27 : decode zb_PT_judgeDraft 27 = .ok (.iconst 0, 1) := by decide +kernel
theorem zd_PT_judgeDraft_28 : decode zb_PT_judgeDraft 28 = .ok (.ireturn, 1) := by decide +kernel
abbrev zb_PT_sendOut : ByteArray := prog_1_method_17_code
def zy_PT_sendOut : MethodName := ⟨"PortTranslator", "sendOut", "()I"⟩
theorem zd_PT_sendOut_0 : decode zb_PT_sendOut 0 = .ok (.aload_n 0, 1) := by decide +kernel
theorem zd_PT_sendOut_1 : decode zb_PT_sendOut 1 = .ok (.getfield 10, 3) := by decide +kernel
theorem zd_PT_sendOut_4 : decode zb_PT_sendOut 4 = .ok (.bipush 6, 2) := by decide +kernel
theorem zd_PT_sendOut_6 : decode zb_PT_sendOut 6 = .ok (.invokevirtual 140, 3) := by decide +kernel
theorem zd_PT_sendOut_9 : decode zb_PT_sendOut 9 = .ok (.istore_n 1, 1) := by decide +kernel
theorem zd_PT_sendOut_10 : decode zb_PT_sendOut 10 = .ok (.iload_n 1, 1) := by decide +kernel
theorem zd_PT_sendOut_11 : decode zb_PT_sendOut 11 = .ok (.invokestatic 129, 3) := by decide +kernel
theorem zd_PT_sendOut_14 : decode zb_PT_sendOut 14 = .ok (.ifCond .eq 18, 3) := by decide +kernel
theorem zd_PT_sendOut_17 : decode zb_PT_sendOut 17 = .ok (.aload_n 0, 1) := by decide +kernel
theorem zd_PT_sendOut_18 : decode zb_PT_sendOut 18 = .ok (.getfield 10, 3) := by decide +kernel
theorem zd_PT_sendOut_21 : decode zb_PT_sendOut 21 = .ok (.bipush 8, 2) := by decide +kernel
theorem zd_PT_sendOut_23 : decode zb_PT_sendOut 23 = .ok (.invokevirtual 140, 3) := by decide +kernel
theorem zd_PT_sendOut_26 : decode zb_PT_sendOut 26 = .ok (.invokestatic 143, 3) := by decide +kernel
theorem zd_PT_sendOut_29 : decode zb_PT_sendOut 29 = .ok (.ifCond .ne 5, 3) := by decide +kernel
theorem zd_PT_sendOut_32 : decode zb_PT_sendOut 32 = .ok (.iconst 5, 1) := by decide +kernel
theorem zd_PT_sendOut_33 : decode zb_PT_sendOut 33 = .ok (.ireturn, 1) := by decide +kernel
theorem zd_PT_sendOut_34 : decode zb_PT_sendOut 34 = .ok (.aload_n 0, 1) := by decide +kernel
theorem zd_PT_sendOut_35 : decode zb_PT_sendOut 35 = .ok (.getfield 29, 3) := by decide +kernel
theorem zd_PT_sendOut_38 : decode zb_PT_sendOut 38 = .ok (.aload_n 0, 1) := by decide +kernel
theorem zd_PT_sendOut_39 : decode zb_PT_sendOut 39 = .ok (.getfield 22, 3) := by decide +kernel
theorem zd_PT_sendOut_42 : decode zb_PT_sendOut 42 = .ok (.invokevirtual 146, 3) := by decide +kernel
theorem zd_PT_sendOut_45 : decode zb_PT_sendOut 45 = .ok (.astore_n 2, 1) := by decide +kernel
theorem zd_PT_sendOut_46 : decode zb_PT_sendOut 46 = .ok (.aload_n 0, 1) := by decide +kernel
theorem zd_PT_sendOut_47 : decode zb_PT_sendOut 47 = .ok (.getfield 10, 3) := by decide +kernel
theorem zd_PT_sendOut_50 : decode zb_PT_sendOut 50 = .ok (.invokevirtual 150, 3) := by decide +kernel
theorem zd_PT_sendOut_53 : decode zb_PT_sendOut 53 = .ok (.ifCond .eq 17, 3) := by decide +kernel
theorem zd_PT_sendOut_56 : decode zb_PT_sendOut 56 = .ok (.aload_n 2, 1) := by decide +kernel
theorem zd_PT_sendOut_57 : decode zb_PT_sendOut 57 = .ok (.ifnull 11, 3) := by decide +kernel
theorem zd_PT_sendOut_60 : decode zb_PT_sendOut 60 = .ok (.aload_n 2, 1) := by decide +kernel
theorem zd_PT_sendOut_61 : decode zb_PT_sendOut 61 = .ok (.getfield 153, 3) := by decide +kernel
theorem zd_PT_sendOut_64 : decode zb_PT_sendOut 64 = .ok (.iload_n 1, 1) := by decide +kernel
theorem zd_PT_sendOut_65 : decode zb_PT_sendOut 65 = .ok (.if_icmp .eq 37, 3) := by decide +kernel
theorem zd_PT_sendOut_68 : decode zb_PT_sendOut 68 = .ok (.iconst 5, 1) := by decide +kernel
theorem zd_PT_sendOut_69 : decode zb_PT_sendOut 69 = .ok (.ireturn, 1) := by decide +kernel
theorem zd_PT_sendOut_70 : decode zb_PT_sendOut 70 = .ok (.aload_n 2, 1) := by decide +kernel
theorem zd_PT_sendOut_71 : decode zb_PT_sendOut 71 = .ok (.ifnonnull 31, 3) := by decide +kernel
theorem zd_PT_sendOut_74 : decode zb_PT_sendOut 74 = .ok (.aload_n 0, 1) := by decide +kernel
theorem zd_PT_sendOut_75 : decode zb_PT_sendOut 75 = .ok (.invokevirtual 156, 3) := by decide +kernel
theorem zd_PT_sendOut_78 : decode zb_PT_sendOut 78 = .ok (.ifCond .ne 5, 3) := by decide +kernel
theorem zd_PT_sendOut_81 : decode zb_PT_sendOut 81 = .ok (.iconst 5, 1) := by decide +kernel
theorem zd_PT_sendOut_82 : decode zb_PT_sendOut 82 = .ok (.ireturn, 1) := by decide +kernel
theorem zd_PT_sendOut_83 : decode zb_PT_sendOut 83 = .ok (.aload_n 0, 1) := by decide +kernel
theorem zd_PT_sendOut_84 : decode zb_PT_sendOut 84 = .ok (.getfield 29, 3) := by decide +kernel
theorem zd_PT_sendOut_87 : decode zb_PT_sendOut 87 = .ok (.aload_n 0, 1) := by decide +kernel
theorem zd_PT_sendOut_88 : decode zb_PT_sendOut 88 = .ok (.getfield 22, 3) := by decide +kernel
theorem zd_PT_sendOut_91 : decode zb_PT_sendOut 91 = .ok (.invokevirtual 159, 3) := by decide +kernel
theorem zd_PT_sendOut_94 : decode zb_PT_sendOut 94 = .ok (.astore_n 2, 1) := by decide +kernel
theorem zd_PT_sendOut_95 : decode zb_PT_sendOut 95 = .ok (.aload_n 2, 1) := by decide +kernel
theorem zd_PT_sendOut_96 : decode zb_PT_sendOut 96 = .ok (.ifnonnull 6, 3) := by decide +kernel
theorem zd_PT_sendOut_99 : decode zb_PT_sendOut 99 = .ok (.bipush 6, 2) := by decide +kernel
theorem zd_PT_sendOut_101 : decode zb_PT_sendOut 101 = .ok (.ireturn, 1) := by decide +kernel
theorem zd_PT_sendOut_102 : decode zb_PT_sendOut 102 = .ok (.aload_n 0, 1) := by decide +kernel
theorem zd_PT_sendOut_103 : decode zb_PT_sendOut 103 = .ok (.bipush 6, 2) := by decide +kernel
theorem zd_PT_sendOut_105 : decode zb_PT_sendOut 105 = .ok (.ldc 132, 2) := by decide +kernel
theorem zd_PT_sendOut_107 : decode zb_PT_sendOut 107 = .ok (.aload_n 2, 1) := by decide +kernel
theorem zd_PT_sendOut_108 : decode zb_PT_sendOut 108 = .ok (.getfield 162, 3) := by decide +kernel
theorem zd_PT_sendOut_111 : decode zb_PT_sendOut 111 = .ok (.invokevirtual 165, 3) := by decide +kernel
theorem zd_PT_sendOut_114 : decode zb_PT_sendOut 114 = .ok (.aload_n 0, 1) := by decide +kernel
theorem zd_PT_sendOut_115 : decode zb_PT_sendOut 115 = .ok (.aload_n 2, 1) := by decide +kernel
theorem zd_PT_sendOut_116 : decode zb_PT_sendOut 116 = .ok (.iconst 1, 1) := by decide +kernel
theorem zd_PT_sendOut_117 : decode zb_PT_sendOut 117 = .ok (.invokevirtual 169, 3) := by decide +kernel
theorem zd_PT_sendOut_120 : decode zb_PT_sendOut 120 = .ok (.iconst 0, 1) := by decide +kernel
theorem zd_PT_sendOut_121 : decode zb_PT_sendOut 121 = .ok (.ireturn, 1) := by decide +kernel
abbrev zb_PT_letIn : ByteArray := prog_1_method_18_code
def zy_PT_letIn : MethodName := ⟨"PortTranslator", "letIn", "()I"⟩
theorem zd_PT_letIn_0 : decode zb_PT_letIn 0 = .ok (.aload_n 0, 1) := by decide +kernel
theorem zd_PT_letIn_1 : decode zb_PT_letIn 1 = .ok (.getfield 10, 3) := by decide +kernel
theorem zd_PT_letIn_4 : decode zb_PT_letIn 4 = .ok (.bipush 8, 2) := by decide +kernel
theorem zd_PT_letIn_6 : decode zb_PT_letIn 6 = .ok (.invokevirtual 140, 3) := by decide +kernel
theorem zd_PT_letIn_9 : decode zb_PT_letIn 9 = .ok (.ldc 132, 2) := by decide +kernel
theorem zd_PT_letIn_11 : decode zb_PT_letIn 11 = .ok (.if_icmp .ne 18, 3) := by decide +kernel
theorem zd_PT_letIn_14 : decode zb_PT_letIn 14 = .ok (.aload_n 0, 1) := by decide +kernel
theorem zd_PT_letIn_15 : decode zb_PT_letIn 15 = .ok (.getfield 10, 3) := by decide +kernel
theorem zd_PT_letIn_18 : decode zb_PT_letIn 18 = .ok (.bipush 6, 2) := by decide +kernel
theorem zd_PT_letIn_20 : decode zb_PT_letIn 20 = .ok (.invokevirtual 140, 3) := by decide +kernel
theorem zd_PT_letIn_23 : decode zb_PT_letIn 23 = .ok (.invokestatic 143, 3) := by decide +kernel
theorem zd_PT_letIn_26 : decode zb_PT_letIn 26 = .ok (.ifCond .ne 5, 3) := by decide +kernel
theorem zd_PT_letIn_29 : decode zb_PT_letIn 29 = .ok (.iconst 5, 1) := by decide +kernel
theorem zd_PT_letIn_30 : decode zb_PT_letIn 30 = .ok (.ireturn, 1) := by decide +kernel
theorem zd_PT_letIn_31 : decode zb_PT_letIn 31 = .ok (.aload_n 0, 1) := by decide +kernel
theorem zd_PT_letIn_32 : decode zb_PT_letIn 32 = .ok (.getfield 22, 3) := by decide +kernel
theorem zd_PT_letIn_35 : decode zb_PT_letIn 35 = .ok (.getfield 173, 3) := by decide +kernel
theorem zd_PT_letIn_38 : decode zb_PT_letIn 38 = .ok (.ldc 132, 2) := by decide +kernel
theorem zd_PT_letIn_40 : decode zb_PT_letIn 40 = .ok (.if_icmp .ne 13, 3) := by decide +kernel
theorem zd_PT_letIn_43 : decode zb_PT_letIn 43 = .ok (.aload_n 0, 1) := by decide +kernel
theorem zd_PT_letIn_44 : decode zb_PT_letIn 44 = .ok (.getfield 10, 3) := by decide +kernel
theorem zd_PT_letIn_47 : decode zb_PT_letIn 47 = .ok (.invokevirtual 176, 3) := by decide +kernel
theorem zd_PT_letIn_50 : decode zb_PT_letIn 50 = .ok (.ifCond .eq 5, 3) := by decide +kernel
theorem zd_PT_letIn_53 : decode zb_PT_letIn 53 = .ok (.iconst 5, 1) := by decide +kernel
theorem zd_PT_letIn_54 : decode zb_PT_letIn 54 = .ok (.ireturn, 1) := by decide +kernel
theorem zd_PT_letIn_55 : decode zb_PT_letIn 55 = .ok (.aload_n 0, 1) := by decide +kernel
theorem zd_PT_letIn_56 : decode zb_PT_letIn 56 = .ok (.getfield 29, 3) := by decide +kernel
theorem zd_PT_letIn_59 : decode zb_PT_letIn 59 = .ok (.aload_n 0, 1) := by decide +kernel
theorem zd_PT_letIn_60 : decode zb_PT_letIn 60 = .ok (.getfield 22, 3) := by decide +kernel
theorem zd_PT_letIn_63 : decode zb_PT_letIn 63 = .ok (.invokevirtual 179, 3) := by decide +kernel
theorem zd_PT_letIn_66 : decode zb_PT_letIn 66 = .ok (.astore_n 1, 1) := by decide +kernel
theorem zd_PT_letIn_67 : decode zb_PT_letIn 67 = .ok (.aload_n 1, 1) := by decide +kernel
theorem zd_PT_letIn_68 : decode zb_PT_letIn 68 = .ok (.ifnonnull 5, 3) := by decide +kernel
theorem zd_PT_letIn_71 : decode zb_PT_letIn 71 = .ok (.iconst 5, 1) := by decide +kernel
theorem zd_PT_letIn_72 : decode zb_PT_letIn 72 = .ok (.ireturn, 1) := by decide +kernel
theorem zd_PT_letIn_73 : decode zb_PT_letIn 73 = .ok (.aload_n 0, 1) := by decide +kernel
theorem zd_PT_letIn_74 : decode zb_PT_letIn 74 = .ok (.bipush 8, 2) := by decide +kernel
theorem zd_PT_letIn_76 : decode zb_PT_letIn 76 = .ok (.aload_n 1, 1) := by decide +kernel
theorem zd_PT_letIn_77 : decode zb_PT_letIn 77 = .ok (.getfield 153, 3) := by decide +kernel
theorem zd_PT_letIn_80 : decode zb_PT_letIn 80 = .ok (.aload_n 1, 1) := by decide +kernel
theorem zd_PT_letIn_81 : decode zb_PT_letIn 81 = .ok (.getfield 182, 3) := by decide +kernel
theorem zd_PT_letIn_84 : decode zb_PT_letIn 84 = .ok (.invokevirtual 165, 3) := by decide +kernel
theorem zd_PT_letIn_87 : decode zb_PT_letIn 87 = .ok (.aload_n 0, 1) := by decide +kernel
theorem zd_PT_letIn_88 : decode zb_PT_letIn 88 = .ok (.aload_n 1, 1) := by decide +kernel
theorem zd_PT_letIn_89 : decode zb_PT_letIn 89 = .ok (.iconst 0, 1) := by decide +kernel
theorem zd_PT_letIn_90 : decode zb_PT_letIn 90 = .ok (.invokevirtual 169, 3) := by decide +kernel
theorem zd_PT_letIn_93 : decode zb_PT_letIn 93 = .ok (.iconst 0, 1) := by decide +kernel
theorem zd_PT_letIn_94 : decode zb_PT_letIn 94 = .ok (.ireturn, 1) := by decide +kernel
abbrev zb_PT_translate : ByteArray := prog_1_method_19_code
def zy_PT_translate : MethodName := ⟨"PortTranslator", "translate", "(III)V"⟩
theorem zd_PT_translate_0 : decode zb_PT_translate 0 = .ok (.aload_n 0, 1) := by decide +kernel
theorem zd_PT_translate_1 : decode zb_PT_translate 1 = .ok (.getfield 10, 3) := by decide +kernel
theorem zd_PT_translate_4 : decode zb_PT_translate 4 = .ok (.invokevirtual 185, 3) := by decide +kernel
theorem zd_PT_translate_7 : decode zb_PT_translate 7 = .ok (.aload_n 0, 1) := by decide +kernel
theorem zd_PT_translate_8 : decode zb_PT_translate 8 = .ok (.getfield 10, 3) := by decide +kernel
theorem zd_PT_translate_11 : decode zb_PT_translate 11 = .ok (.iload_n 1, 1) := by decide +kernel
theorem zd_PT_translate_12 : decode zb_PT_translate 12 = .ok (.iload_n 2, 1) := by decide +kernel
theorem zd_PT_translate_13 : decode zb_PT_translate 13 = .ok (.invokevirtual 188, 3) := by decide +kernel
theorem zd_PT_translate_16 : decode zb_PT_translate 16 = .ok (.aload_n 0, 1) := by decide +kernel
theorem zd_PT_translate_17 : decode zb_PT_translate 17 = .ok (.getfield 22, 3) := by decide +kernel
theorem zd_PT_translate_20 : decode zb_PT_translate 20 = .ok (.aload_n 0, 1) := by decide +kernel
theorem zd_PT_translate_21 : decode zb_PT_translate 21 = .ok (.getfield 10, 3) := by decide +kernel
theorem zd_PT_translate_24 : decode zb_PT_translate 24 = .ok (.iload_n 2, 1) := by decide +kernel
theorem zd_PT_translate_25 : decode zb_PT_translate 25 = .ok (.iload_n 3, 1) := by decide +kernel
theorem zd_PT_translate_26 : decode zb_PT_translate 26 = .ok (.invokevirtual 192, 3) := by decide +kernel
theorem zd_PT_translate_29 : decode zb_PT_translate 29 = .ok (.return_, 1) := by decide +kernel
abbrev zb_PT_mayBeginFlow : ByteArray := prog_1_method_20_code
def zy_PT_mayBeginFlow : MethodName := ⟨"PortTranslator", "mayBeginFlow", "()Z"⟩
theorem zd_PT_mayBeginFlow_0 : decode zb_PT_mayBeginFlow 0 = .ok (.aload_n 0, 1) := by decide +kernel
theorem zd_PT_mayBeginFlow_1 : decode zb_PT_mayBeginFlow 1 = .ok (.getfield 10, 3) := by decide +kernel
theorem zd_PT_mayBeginFlow_4 : decode zb_PT_mayBeginFlow 4 = .ok (.invokevirtual 196, 3) := by decide +kernel
theorem zd_PT_mayBeginFlow_7 : decode zb_PT_mayBeginFlow 7 = .ok (.ifCond .eq 5, 3) := by decide +kernel
theorem zd_PT_mayBeginFlow_10 : decode zb_PT_mayBeginFlow 10 = .ok (.iconst 0, 1) := by decide +kernel
theorem zd_PT_mayBeginFlow_11 : decode zb_PT_mayBeginFlow 11 = .ok (.ireturn, 1) := by decide +kernel
theorem zd_PT_mayBeginFlow_12 : decode zb_PT_mayBeginFlow 12 = .ok (.aload_n 0, 1) := by decide +kernel
theorem zd_PT_mayBeginFlow_13 : decode zb_PT_mayBeginFlow 13 = .ok (.getfield 22, 3) := by decide +kernel
theorem zd_PT_mayBeginFlow_16 : decode zb_PT_mayBeginFlow 16 = .ok (.getfield 199, 3) := by decide +kernel
theorem zd_PT_mayBeginFlow_19 : decode zb_PT_mayBeginFlow 19 = .ok (.bipush 6, 2) := by decide +kernel
theorem zd_PT_mayBeginFlow_21 : decode zb_PT_mayBeginFlow 21 = .ok (.if_icmp .ne 19, 3) := by decide +kernel
theorem zd_PT_mayBeginFlow_24 : decode zb_PT_mayBeginFlow 24 = .ok (.aload_n 0, 1) := by decide +kernel
theorem zd_PT_mayBeginFlow_25 : decode zb_PT_mayBeginFlow 25 = .ok (.getfield 10, 3) := by decide +kernel
theorem zd_PT_mayBeginFlow_28 : decode zb_PT_mayBeginFlow 28 = .ok (.invokevirtual 202, 3) := by decide +kernel
theorem zd_PT_mayBeginFlow_31 : decode zb_PT_mayBeginFlow 31 = .ok (.bipush 22, 2) := by decide +kernel
theorem zd_PT_mayBeginFlow_33 : decode zb_PT_mayBeginFlow 33 = .ok (.iand, 1) := by decide +kernel
theorem zd_PT_mayBeginFlow_34 : decode zb_PT_mayBeginFlow 34 = .ok (.iconst 2, 1) := by decide +kernel
theorem zd_PT_mayBeginFlow_35 : decode zb_PT_mayBeginFlow 35 = .ok (.if_icmp .eq 5, 3) := by decide +kernel
theorem zd_PT_mayBeginFlow_38 : decode zb_PT_mayBeginFlow 38 = .ok (.iconst 0, 1) := by decide +kernel
theorem zd_PT_mayBeginFlow_39 : decode zb_PT_mayBeginFlow 39 = .ok (.ireturn, 1) := by decide +kernel
theorem zd_PT_mayBeginFlow_40 : decode zb_PT_mayBeginFlow 40 = .ok (.aload_n 0, 1) := by decide +kernel
theorem zd_PT_mayBeginFlow_41 : decode zb_PT_mayBeginFlow 41 = .ok (.getfield 36, 3) := by decide +kernel
theorem zd_PT_mayBeginFlow_44 : decode zb_PT_mayBeginFlow 44 = .ok (.aload_n 0, 1) := by decide +kernel
theorem zd_PT_mayBeginFlow_45 : decode zb_PT_mayBeginFlow 45 = .ok (.getfield 22, 3) := by decide +kernel
theorem zd_PT_mayBeginFlow_48 : decode zb_PT_mayBeginFlow 48 = .ok (.getfield 199, 3) := by decide +kernel
theorem zd_PT_mayBeginFlow_51 : decode zb_PT_mayBeginFlow 51 = .ok (.aload_n 0, 1) := by decide +kernel
theorem zd_PT_mayBeginFlow_52 : decode zb_PT_mayBeginFlow 52 = .ok (.getfield 22, 3) := by decide +kernel
theorem zd_PT_mayBeginFlow_55 : decode zb_PT_mayBeginFlow 55 = .ok (.getfield 205, 3) := by decide +kernel
theorem zd_PT_mayBeginFlow_58 : decode zb_PT_mayBeginFlow 58 = .ok (.invokevirtual 208, 3) := by decide +kernel
theorem zd_PT_mayBeginFlow_61 : decode zb_PT_mayBeginFlow 61 = .ok (.ireturn, 1) := by decide +kernel
abbrev zb_PT_note : ByteArray := prog_1_method_21_code
def zy_PT_note : MethodName := ⟨"PortTranslator", "note", "(LPortTranslator$Flow;Z)V"⟩
theorem zd_PT_note_0 : decode zb_PT_note 0 = .ok (.aload_n 0, 1) := by decide +kernel
theorem zd_PT_note_1 : decode zb_PT_note 1 = .ok (.getfield 10, 3) := by decide +kernel
theorem zd_PT_note_4 : decode zb_PT_note 4 = .ok (.invokevirtual 150, 3) := by decide +kernel
theorem zd_PT_note_7 : decode zb_PT_note 7 = .ok (.ifCond .eq 4, 3) := by decide +kernel
theorem zd_PT_note_10 : decode zb_PT_note 10 = .ok (.return_, 1) := by decide +kernel
theorem zd_PT_note_11 : decode zb_PT_note 11 = .ok (.aload_n 1, 1) := by decide +kernel
theorem zd_PT_note_12 : decode zb_PT_note 12 = .ok (.iconst 0, 1) := by decide +kernel
theorem zd_PT_note_13 : decode zb_PT_note 13 = .ok (.putfield 212, 3) := by decide +kernel
theorem zd_PT_note_16 : decode zb_PT_note 16 = .ok (.aload_n 0, 1) := by decide +kernel
theorem zd_PT_note_17 : decode zb_PT_note 17 = .ok (.getfield 22, 3) := by decide +kernel
theorem zd_PT_note_20 : decode zb_PT_note 20 = .ok (.getfield 199, 3) := by decide +kernel
theorem zd_PT_note_23 : decode zb_PT_note 23 = .ok (.bipush 6, 2) := by decide +kernel
theorem zd_PT_note_25 : decode zb_PT_note 25 = .ok (.if_icmp .ne 35, 3) := by decide +kernel
theorem zd_PT_note_28 : decode zb_PT_note 28 = .ok (.aload_n 1, 1) := by decide +kernel
theorem zd_PT_note_29 : decode zb_PT_note 29 = .ok (.aload_n 0, 1) := by decide +kernel
theorem zd_PT_note_30 : decode zb_PT_note 30 = .ok (.getfield 10, 3) := by decide +kernel
theorem zd_PT_note_33 : decode zb_PT_note 33 = .ok (.invokevirtual 202, 3) := by decide +kernel
theorem zd_PT_note_36 : decode zb_PT_note 36 = .ok (.iload_n 2, 1) := by decide +kernel
theorem zd_PT_note_37 : decode zb_PT_note 37 = .ok (.invokevirtual 215, 3) := by decide +kernel
theorem zd_PT_note_40 : decode zb_PT_note 40 = .ok (.aload_n 0, 1) := by decide +kernel
theorem zd_PT_note_41 : decode zb_PT_note 41 = .ok (.getfield 10, 3) := by decide +kernel
theorem zd_PT_note_44 : decode zb_PT_note 44 = .ok (.invokevirtual 202, 3) := by decide +kernel
theorem zd_PT_note_47 : decode zb_PT_note 47 = .ok (.iconst 4, 1) := by decide +kernel
theorem zd_PT_note_48 : decode zb_PT_note 48 = .ok (.iand, 1) := by decide +kernel
theorem zd_PT_note_49 : decode zb_PT_note 49 = .ok (.ifCond .eq 11, 3) := by decide +kernel
theorem zd_PT_note_52 : decode zb_PT_note 52 = .ok (.aload_n 0, 1) := by decide +kernel
theorem zd_PT_note_53 : decode zb_PT_note 53 = .ok (.getfield 29, 3) := by decide +kernel
theorem zd_PT_note_56 : decode zb_PT_note 56 = .ok (.aload_n 1, 1) := by decide +kernel
theorem zd_PT_note_57 : decode zb_PT_note 57 = .ok (.invokevirtual 219, 3) := by decide +kernel
theorem zd_PT_note_60 : decode zb_PT_note 60 = .ok (.return_, 1) := by decide +kernel
abbrev zb_FL_init : ByteArray := prog_2_method_1_code
def zy_FL_init : MethodName := ⟨"PortTranslator$Flow", "<init>", "()V"⟩
theorem zd_FL_init_0 : decode zb_FL_init 0 = .ok (.aload_n 0, 1) := by decide +kernel
theorem zd_FL_init_1 : decode zb_FL_init 1 = .ok (.invokespecial 3, 3) := by decide +kernel
theorem zd_FL_init_4 : decode zb_FL_init 4 = .ok (.return_, 1) := by decide +kernel
abbrev zb_FL_start : ByteArray := prog_2_method_2_code
def zy_FL_start : MethodName := ⟨"PortTranslator$Flow", "start", "(LPortTranslator$Subject;I)V"⟩
theorem zd_FL_start_0 : decode zb_FL_start 0 = .ok (.aload_n 0, 1) := by decide +kernel
theorem zd_FL_start_1 : decode zb_FL_start 1 = .ok (.aload_n 1, 1) := by decide +kernel
theorem zd_FL_start_2 : decode zb_FL_start 2 = .ok (.getfield 9, 3) := by decide +kernel
theorem zd_FL_start_5 : decode zb_FL_start 5 = .ok (.putfield 15, 3) := by decide +kernel
theorem zd_FL_start_8 : decode zb_FL_start 8 = .ok (.aload_n 0, 1) := by decide +kernel
theorem zd_FL_start_9 : decode zb_FL_start 9 = .ok (.aload_n 1, 1) := by decide +kernel
theorem zd_FL_start_10 : decode zb_FL_start 10 = .ok (.getfield 18, 3) := by decide +kernel
theorem zd_FL_start_13 : decode zb_FL_start 13 = .ok (.putfield 21, 3) := by decide +kernel
theorem zd_FL_start_16 : decode zb_FL_start 16 = .ok (.aload_n 0, 1) := by decide +kernel
theorem zd_FL_start_17 : decode zb_FL_start 17 = .ok (.aload_n 1, 1) := by decide +kernel
theorem zd_FL_start_18 : decode zb_FL_start 18 = .ok (.getfield 24, 3) := by decide +kernel
theorem zd_FL_start_21 : decode zb_FL_start 21 = .ok (.putfield 27, 3) := by decide +kernel
theorem zd_FL_start_24 : decode zb_FL_start 24 = .ok (.aload_n 0, 1) := by decide +kernel
theorem zd_FL_start_25 : decode zb_FL_start 25 = .ok (.aload_n 1, 1) := by decide +kernel
theorem zd_FL_start_26 : decode zb_FL_start 26 = .ok (.getfield 30, 3) := by decide +kernel
theorem zd_FL_start_29 : decode zb_FL_start 29 = .ok (.putfield 33, 3) := by decide +kernel
theorem zd_FL_start_32 : decode zb_FL_start 32 = .ok (.aload_n 0, 1) := by decide +kernel
theorem zd_FL_start_33 : decode zb_FL_start 33 = .ok (.aload_n 1, 1) := by decide +kernel
theorem zd_FL_start_34 : decode zb_FL_start 34 = .ok (.getfield 36, 3) := by decide +kernel
theorem zd_FL_start_37 : decode zb_FL_start 37 = .ok (.putfield 39, 3) := by decide +kernel
theorem zd_FL_start_40 : decode zb_FL_start 40 = .ok (.aload_n 0, 1) := by decide +kernel
theorem zd_FL_start_41 : decode zb_FL_start 41 = .ok (.iload_n 2, 1) := by decide +kernel
theorem zd_FL_start_42 : decode zb_FL_start 42 = .ok (.putfield 42, 3) := by decide +kernel
theorem zd_FL_start_45 : decode zb_FL_start 45 = .ok (.aload_n 0, 1) := by decide +kernel
theorem zd_FL_start_46 : decode zb_FL_start 46 = .ok (.iconst 0, 1) := by decide +kernel
theorem zd_FL_start_47 : decode zb_FL_start 47 = .ok (.putfield 45, 3) := by decide +kernel
theorem zd_FL_start_50 : decode zb_FL_start 50 = .ok (.aload_n 0, 1) := by decide +kernel
theorem zd_FL_start_51 : decode zb_FL_start 51 = .ok (.iconst 0, 1) := by decide +kernel
theorem zd_FL_start_52 : decode zb_FL_start 52 = .ok (.putfield 48, 3) := by decide +kernel
theorem zd_FL_start_55 : decode zb_FL_start 55 = .ok (.aload_n 0, 1) := by decide +kernel
theorem zd_FL_start_56 : decode zb_FL_start 56 = .ok (.iconst 0, 1) := by decide +kernel
theorem zd_FL_start_57 : decode zb_FL_start 57 = .ok (.putfield 52, 3) := by decide +kernel
theorem zd_FL_start_60 : decode zb_FL_start 60 = .ok (.aload_n 0, 1) := by decide +kernel
theorem zd_FL_start_61 : decode zb_FL_start 61 = .ok (.iconst 0, 1) := by decide +kernel
theorem zd_FL_start_62 : decode zb_FL_start 62 = .ok (.putfield 55, 3) := by decide +kernel
theorem zd_FL_start_65 : decode zb_FL_start 65 = .ok (.return_, 1) := by decide +kernel
abbrev zb_FL_hasInner : ByteArray := prog_2_method_3_code
def zy_FL_hasInner : MethodName := ⟨"PortTranslator$Flow", "hasInner", "(LPortTranslator$Subject;)Z"⟩
theorem zd_FL_hasInner_0 : decode zb_FL_hasInner 0 = .ok (.aload_n 0, 1) := by decide +kernel
theorem zd_FL_hasInner_1 : decode zb_FL_hasInner 1 = .ok (.getfield 15, 3) := by decide +kernel
theorem zd_FL_hasInner_4 : decode zb_FL_hasInner 4 = .ok (.aload_n 1, 1) := by decide +kernel
theorem zd_FL_hasInner_5 : decode zb_FL_hasInner 5 = .ok (.getfield 9, 3) := by decide +kernel
theorem zd_FL_hasInner_8 : decode zb_FL_hasInner 8 = .ok (.if_icmp .ne 29, 3) := by decide +kernel
theorem zd_FL_hasInner_11 : decode zb_FL_hasInner 11 = .ok (.aload_n 0, 1) := by decide +kernel
theorem zd_FL_hasInner_12 : decode zb_FL_hasInner 12 = .ok (.getfield 21, 3) := by decide +kernel
theorem zd_FL_hasInner_15 : decode zb_FL_hasInner 15 = .ok (.aload_n 1, 1) := by decide +kernel
theorem zd_FL_hasInner_16 : decode zb_FL_hasInner 16 = .ok (.getfield 18, 3) := by decide +kernel
theorem zd_FL_hasInner_19 : decode zb_FL_hasInner 19 = .ok (.if_icmp .ne 18, 3) := by decide +kernel
theorem zd_FL_hasInner_22 : decode zb_FL_hasInner 22 = .ok (.aload_n 0, 1) := by decide +kernel
theorem zd_FL_hasInner_23 : decode zb_FL_hasInner 23 = .ok (.getfield 27, 3) := by decide +kernel
theorem zd_FL_hasInner_26 : decode zb_FL_hasInner 26 = .ok (.aload_n 1, 1) := by decide +kernel
theorem zd_FL_hasInner_27 : decode zb_FL_hasInner 27 = .ok (.getfield 24, 3) := by decide +kernel
theorem zd_FL_hasInner_30 : decode zb_FL_hasInner 30 = .ok (.if_icmp .ne 7, 3) := by decide +kernel
theorem zd_FL_hasInner_33 : decode zb_FL_hasInner 33 = .ok (.iconst 1, 1) := by decide +kernel
theorem zd_FL_hasInner_34 : decode zb_FL_hasInner 34 = .ok (.goto 4, 3) := by decide +kernel
theorem zd_FL_hasInner_37 : decode zb_FL_hasInner 37 = .ok (.iconst 0, 1) := by decide +kernel
theorem zd_FL_hasInner_38 : decode zb_FL_hasInner 38 = .ok (.ireturn, 1) := by decide +kernel
abbrev zb_FL_hasOuter : ByteArray := prog_2_method_4_code
def zy_FL_hasOuter : MethodName := ⟨"PortTranslator$Flow", "hasOuter", "(LPortTranslator$Subject;)Z"⟩
theorem zd_FL_hasOuter_0 : decode zb_FL_hasOuter 0 = .ok (.aload_n 0, 1) := by decide +kernel
theorem zd_FL_hasOuter_1 : decode zb_FL_hasOuter 1 = .ok (.getfield 33, 3) := by decide +kernel
theorem zd_FL_hasOuter_4 : decode zb_FL_hasOuter 4 = .ok (.aload_n 1, 1) := by decide +kernel
theorem zd_FL_hasOuter_5 : decode zb_FL_hasOuter 5 = .ok (.getfield 30, 3) := by decide +kernel
theorem zd_FL_hasOuter_8 : decode zb_FL_hasOuter 8 = .ok (.if_icmp .ne 18, 3) := by decide +kernel
theorem zd_FL_hasOuter_11 : decode zb_FL_hasOuter 11 = .ok (.aload_n 0, 1) := by decide +kernel
theorem zd_FL_hasOuter_12 : decode zb_FL_hasOuter 12 = .ok (.getfield 39, 3) := by decide +kernel
theorem zd_FL_hasOuter_15 : decode zb_FL_hasOuter 15 = .ok (.aload_n 1, 1) := by decide +kernel
theorem zd_FL_hasOuter_16 : decode zb_FL_hasOuter 16 = .ok (.getfield 36, 3) := by decide +kernel
theorem zd_FL_hasOuter_19 : decode zb_FL_hasOuter 19 = .ok (.if_icmp .ne 7, 3) := by decide +kernel
theorem zd_FL_hasOuter_22 : decode zb_FL_hasOuter 22 = .ok (.iconst 1, 1) := by decide +kernel
theorem zd_FL_hasOuter_23 : decode zb_FL_hasOuter 23 = .ok (.goto 4, 3) := by decide +kernel
theorem zd_FL_hasOuter_26 : decode zb_FL_hasOuter 26 = .ok (.iconst 0, 1) := by decide +kernel
theorem zd_FL_hasOuter_27 : decode zb_FL_hasOuter 27 = .ok (.ireturn, 1) := by decide +kernel
abbrev zb_FL_hasOwn : ByteArray := prog_2_method_5_code
def zy_FL_hasOwn : MethodName := ⟨"PortTranslator$Flow", "hasOwn", "(II)Z"⟩
theorem zd_FL_hasOwn_0 : decode zb_FL_hasOwn 0 = .ok (.aload_n 0, 1) := by decide +kernel
theorem zd_FL_hasOwn_1 : decode zb_FL_hasOwn 1 = .ok (.getfield 15, 3) := by decide +kernel
theorem zd_FL_hasOwn_4 : decode zb_FL_hasOwn 4 = .ok (.iload_n 1, 1) := by decide +kernel
theorem zd_FL_hasOwn_5 : decode zb_FL_hasOwn 5 = .ok (.if_icmp .ne 15, 3) := by decide +kernel
theorem zd_FL_hasOwn_8 : decode zb_FL_hasOwn 8 = .ok (.aload_n 0, 1) := by decide +kernel
theorem zd_FL_hasOwn_9 : decode zb_FL_hasOwn 9 = .ok (.getfield 42, 3) := by decide +kernel
theorem zd_FL_hasOwn_12 : decode zb_FL_hasOwn 12 = .ok (.iload_n 2, 1) := by decide +kernel
theorem zd_FL_hasOwn_13 : decode zb_FL_hasOwn 13 = .ok (.if_icmp .ne 7, 3) := by decide +kernel
theorem zd_FL_hasOwn_16 : decode zb_FL_hasOwn 16 = .ok (.iconst 1, 1) := by decide +kernel
theorem zd_FL_hasOwn_17 : decode zb_FL_hasOwn 17 = .ok (.goto 4, 3) := by decide +kernel
theorem zd_FL_hasOwn_20 : decode zb_FL_hasOwn 20 = .ok (.iconst 0, 1) := by decide +kernel
theorem zd_FL_hasOwn_21 : decode zb_FL_hasOwn 21 = .ok (.ireturn, 1) := by decide +kernel
abbrev zb_FL_noteFlags : ByteArray := prog_2_method_6_code
def zy_FL_noteFlags : MethodName := ⟨"PortTranslator$Flow", "noteFlags", "(IZ)V"⟩
theorem zd_FL_noteFlags_0 : decode zb_FL_noteFlags 0 = .ok (.iload_n 2, 1) := by decide +kernel
theorem zd_FL_noteFlags_1 : decode zb_FL_noteFlags 1 = .ok (.ifCond .ne 17, 3) := by decide +kernel
theorem zd_FL_noteFlags_4 : decode zb_FL_noteFlags 4 = .ok (.iload_n 1, 1) := by decide +kernel
theorem zd_FL_noteFlags_5 : decode zb_FL_noteFlags 5 = .ok (.bipush 18, 2) := by decide +kernel
theorem zd_FL_noteFlags_7 : decode zb_FL_noteFlags 7 = .ok (.iand, 1) := by decide +kernel
theorem zd_FL_noteFlags_8 : decode zb_FL_noteFlags 8 = .ok (.bipush 18, 2) := by decide +kernel
theorem zd_FL_noteFlags_10 : decode zb_FL_noteFlags 10 = .ok (.if_icmp .ne 8, 3) := by decide +kernel
theorem zd_FL_noteFlags_13 : decode zb_FL_noteFlags 13 = .ok (.aload_n 0, 1) := by decide +kernel
theorem zd_FL_noteFlags_14 : decode zb_FL_noteFlags 14 = .ok (.iconst 1, 1) := by decide +kernel
theorem zd_FL_noteFlags_15 : decode zb_FL_noteFlags 15 = .ok (.putfield 48, 3) := by decide +kernel
theorem zd_FL_noteFlags_18 : decode zb_FL_noteFlags 18 = .ok (.iload_n 1, 1) := by decide +kernel
theorem zd_FL_noteFlags_19 : decode zb_FL_noteFlags 19 = .ok (.iconst 1, 1) := by decide +kernel
theorem zd_FL_noteFlags_20 : decode zb_FL_noteFlags 20 = .ok (.iand, 1) := by decide +kernel
theorem zd_FL_noteFlags_21 : decode zb_FL_noteFlags 21 = .ok (.ifCond .eq 20, 3) := by decide +kernel
theorem zd_FL_noteFlags_24 : decode zb_FL_noteFlags 24 = .ok (.iload_n 2, 1) := by decide +kernel
theorem zd_FL_noteFlags_25 : decode zb_FL_noteFlags 25 = .ok (.ifCond .eq 11, 3) := by decide +kernel
theorem zd_FL_noteFlags_28 : decode zb_FL_noteFlags 28 = .ok (.aload_n 0, 1) := by decide +kernel
theorem zd_FL_noteFlags_29 : decode zb_FL_noteFlags 29 = .ok (.iconst 1, 1) := by decide +kernel
theorem zd_FL_noteFlags_30 : decode zb_FL_noteFlags 30 = .ok (.putfield 52, 3) := by decide +kernel
theorem zd_FL_noteFlags_33 : decode zb_FL_noteFlags 33 = .ok (.goto 8, 3) := by decide +kernel
theorem zd_FL_noteFlags_36 : decode zb_FL_noteFlags 36 = .ok (.aload_n 0, 1) := by decide +kernel
theorem zd_FL_noteFlags_37 : decode zb_FL_noteFlags 37 = .ok (.iconst 1, 1) := by decide +kernel
theorem zd_FL_noteFlags_38 : decode zb_FL_noteFlags 38 = .ok (.putfield 55, 3) := by decide +kernel
theorem zd_FL_noteFlags_41 : decode zb_FL_noteFlags 41 = .ok (.return_, 1) := by decide +kernel
abbrev zb_FL_isOver : ByteArray := prog_2_method_7_code
def zy_FL_isOver : MethodName := ⟨"PortTranslator$Flow", "isOver", "()Z"⟩
theorem zd_FL_isOver_0 : decode zb_FL_isOver 0 = .ok (.aload_n 0, 1) := by decide +kernel
theorem zd_FL_isOver_1 : decode zb_FL_isOver 1 = .ok (.getfield 45, 3) := by decide +kernel
theorem zd_FL_isOver_4 : decode zb_FL_isOver 4 = .ok (.aload_n 0, 1) := by decide +kernel
theorem zd_FL_isOver_5 : decode zb_FL_isOver 5 = .ok (.invokevirtual 58, 3) := by decide +kernel
theorem zd_FL_isOver_8 : decode zb_FL_isOver 8 = .ok (.if_icmp .le 7, 3) := by decide +kernel
theorem zd_FL_isOver_11 : decode zb_FL_isOver 11 = .ok (.iconst 1, 1) := by decide +kernel
theorem zd_FL_isOver_12 : decode zb_FL_isOver 12 = .ok (.goto 4, 3) := by decide +kernel
theorem zd_FL_isOver_15 : decode zb_FL_isOver 15 = .ok (.iconst 0, 1) := by decide +kernel
theorem zd_FL_isOver_16 : decode zb_FL_isOver 16 = .ok (.ireturn, 1) := by decide +kernel
abbrev zb_FL_life : ByteArray := prog_2_method_8_code
def zy_FL_life : MethodName := ⟨"PortTranslator$Flow", "life", "()I"⟩
theorem zd_FL_life_0 : decode zb_FL_life 0 = .ok (.aload_n 0, 1) := by decide +kernel
theorem zd_FL_life_1 : decode zb_FL_life 1 = .ok (.getfield 15, 3) := by decide +kernel
theorem zd_FL_life_4 : decode zb_FL_life 4 = .ok (.iconst 1, 1) := by decide +kernel
theorem zd_FL_life_5 : decode zb_FL_life 5 = .ok (.if_icmp .ne 6, 3) := by decide +kernel
theorem zd_FL_life_8 : decode zb_FL_life 8 = .ok (.bipush 6, 2) := by decide +kernel
theorem zd_FL_life_10 : decode zb_FL_life 10 = .ok (.ireturn, 1) := by decide +kernel
theorem zd_FL_life_11 : decode zb_FL_life 11 = .ok (.aload_n 0, 1) := by decide +kernel
theorem zd_FL_life_12 : decode zb_FL_life 12 = .ok (.getfield 15, 3) := by decide +kernel
theorem zd_FL_life_15 : decode zb_FL_life 15 = .ok (.bipush 17, 2) := by decide +kernel
theorem zd_FL_life_17 : decode zb_FL_life 17 = .ok (.if_icmp .ne 6, 3) := by decide +kernel
theorem zd_FL_life_20 : decode zb_FL_life 20 = .ok (.bipush 30, 2) := by decide +kernel
theorem zd_FL_life_22 : decode zb_FL_life 22 = .ok (.ireturn, 1) := by decide +kernel
theorem zd_FL_life_23 : decode zb_FL_life 23 = .ok (.aload_n 0, 1) := by decide +kernel
theorem zd_FL_life_24 : decode zb_FL_life 24 = .ok (.getfield 48, 3) := by decide +kernel
theorem zd_FL_life_27 : decode zb_FL_life 27 = .ok (.ifCond .eq 22, 3) := by decide +kernel
theorem zd_FL_life_30 : decode zb_FL_life 30 = .ok (.aload_n 0, 1) := by decide +kernel
theorem zd_FL_life_31 : decode zb_FL_life 31 = .ok (.getfield 52, 3) := by decide +kernel
theorem zd_FL_life_34 : decode zb_FL_life 34 = .ok (.ifCond .eq 10, 3) := by decide +kernel
theorem zd_FL_life_37 : decode zb_FL_life 37 = .ok (.aload_n 0, 1) := by decide +kernel
theorem zd_FL_life_38 : decode zb_FL_life 38 = .ok (.getfield 55, 3) := by decide +kernel
theorem zd_FL_life_41 : decode zb_FL_life 41 = .ok (.ifCond .ne 8, 3) := by decide +kernel
theorem zd_FL_life_44 : decode zb_FL_life 44 = .ok (.bipush 100, 2) := by decide +kernel
theorem zd_FL_life_46 : decode zb_FL_life 46 = .ok (.goto 5, 3) := by decide +kernel
theorem zd_FL_life_49 : decode zb_FL_life 49 = .ok (.bipush 12, 2) := by decide +kernel
theorem zd_FL_life_51 : decode zb_FL_life 51 = .ok (.ireturn, 1) := by decide +kernel
abbrev zb_FL_detail : ByteArray := prog_2_method_9_code
def zy_FL_detail : MethodName := ⟨"PortTranslator$Flow", "detail", "(I)I"⟩
theorem zd_FL_detail_0 : decode zb_FL_detail 0 = .ok (.iload_n 1, 1) := by decide +kernel
theorem zd_FL_detail_1 : decode zb_FL_detail 1 = .ok (.tableswitch 78 0 6 #[43, 48, 53, 58, 63, 68, 73], 43) := by decide +kernel
theorem zd_FL_detail_44 : decode zb_FL_detail 44 = .ok (.aload_n 0, 1) := by decide +kernel
theorem zd_FL_detail_45 : decode zb_FL_detail 45 = .ok (.getfield 15, 3) := by decide +kernel
theorem zd_FL_detail_48 : decode zb_FL_detail 48 = .ok (.ireturn, 1) := by decide +kernel
theorem zd_FL_detail_49 : decode zb_FL_detail 49 = .ok (.aload_n 0, 1) := by decide +kernel
theorem zd_FL_detail_50 : decode zb_FL_detail 50 = .ok (.getfield 21, 3) := by decide +kernel
theorem zd_FL_detail_53 : decode zb_FL_detail 53 = .ok (.ireturn, 1) := by decide +kernel
theorem zd_FL_detail_54 : decode zb_FL_detail 54 = .ok (.aload_n 0, 1) := by decide +kernel
theorem zd_FL_detail_55 : decode zb_FL_detail 55 = .ok (.getfield 27, 3) := by decide +kernel
theorem zd_FL_detail_58 : decode zb_FL_detail 58 = .ok (.ireturn, 1) := by decide +kernel
theorem zd_FL_detail_59 : decode zb_FL_detail 59 = .ok (.aload_n 0, 1) := by decide +kernel
theorem zd_FL_detail_60 : decode zb_FL_detail 60 = .ok (.getfield 33, 3) := by decide +kernel
theorem zd_FL_detail_63 : decode zb_FL_detail 63 = .ok (.ireturn, 1) := by decide +kernel
theorem zd_FL_detail_64 : decode zb_FL_detail 64 = .ok (.aload_n 0, 1) := by decide +kernel
theorem zd_FL_detail_65 : decode zb_FL_detail 65 = .ok (.getfield 39, 3) := by decide +kernel
theorem zd_FL_detail_68 : decode zb_FL_detail 68 = .ok (.ireturn, 1) := by decide +kernel
theorem zd_FL_detail_69 : decode zb_FL_detail 69 = .ok (.aload_n 0, 1) := by decide +kernel
theorem zd_FL_detail_70 : decode zb_FL_detail 70 = .ok (.getfield 42, 3) := by decide +kernel
theorem zd_FL_detail_73 : decode zb_FL_detail 73 = .ok (.ireturn, 1) := by decide +kernel
theorem zd_FL_detail_74 : decode zb_FL_detail 74 = .ok (.aload_n 0, 1) := by decide +kernel
theorem zd_FL_detail_75 : decode zb_FL_detail 75 = .ok (.getfield 45, 3) := by decide +kernel
theorem zd_FL_detail_78 : decode zb_FL_detail 78 = .ok (.ireturn, 1) := by decide +kernel
theorem zd_FL_detail_79 : decode zb_FL_detail 79 = .ok (.aload_n 0, 1) := by decide +kernel
theorem zd_FL_detail_80 : decode zb_FL_detail 80 = .ok (.getfield 48, 3) := by decide +kernel
theorem zd_FL_detail_83 : decode zb_FL_detail 83 = .ok (.ifCond .eq 7, 3) := by decide +kernel
theorem zd_FL_detail_86 : decode zb_FL_detail 86 = .ok (.iconst 1, 1) := by decide +kernel
theorem zd_FL_detail_87 : decode zb_FL_detail 87 = .ok (.goto 4, 3) := by decide +kernel
theorem zd_FL_detail_90 : decode zb_FL_detail 90 = .ok (.iconst 0, 1) := by decide +kernel
theorem zd_FL_detail_91 : decode zb_FL_detail 91 = .ok (.aload_n 0, 1) := by decide +kernel
theorem zd_FL_detail_92 : decode zb_FL_detail 92 = .ok (.getfield 52, 3) := by decide +kernel
theorem zd_FL_detail_95 : decode zb_FL_detail 95 = .ok (.ifCond .eq 7, 3) := by decide +kernel
theorem zd_FL_detail_98 : decode zb_FL_detail 98 = .ok (.iconst 2, 1) := by decide +kernel
theorem zd_FL_detail_99 : decode zb_FL_detail 99 = .ok (.goto 4, 3) := by decide +kernel
theorem zd_FL_detail_102 : decode zb_FL_detail 102 = .ok (.iconst 0, 1) := by decide +kernel
theorem zd_FL_detail_103 : decode zb_FL_detail 103 = .ok (.iadd, 1) := by decide +kernel
theorem zd_FL_detail_104 : decode zb_FL_detail 104 = .ok (.aload_n 0, 1) := by decide +kernel
theorem zd_FL_detail_105 : decode zb_FL_detail 105 = .ok (.getfield 55, 3) := by decide +kernel
theorem zd_FL_detail_108 : decode zb_FL_detail 108 = .ok (.ifCond .eq 7, 3) := by decide +kernel
theorem zd_FL_detail_111 : decode zb_FL_detail 111 = .ok (.iconst 4, 1) := by decide +kernel
theorem zd_FL_detail_112 : decode zb_FL_detail 112 = .ok (.goto 4, 3) := by decide +kernel
theorem zd_FL_detail_115 : decode zb_FL_detail 115 = .ok (.iconst 0, 1) := by decide +kernel
theorem zd_FL_detail_116 : decode zb_FL_detail 116 = .ok (.iadd, 1) := by decide +kernel
theorem zd_FL_detail_117 : decode zb_FL_detail 117 = .ok (.ireturn, 1) := by decide +kernel
abbrev zb_FT_init : ByteArray := prog_3_method_1_code
def zy_FT_init : MethodName := ⟨"PortTranslator$FlowTable", "<init>", "()V"⟩
theorem zd_FT_init_0 : decode zb_FT_init 0 = .ok (.aload_n 0, 1) := by decide +kernel
theorem zd_FT_init_1 : decode zb_FT_init 1 = .ok (.invokespecial 3, 3) := by decide +kernel
theorem zd_FT_init_4 : decode zb_FT_init 4 = .ok (.aload_n 0, 1) := by decide +kernel
theorem zd_FT_init_5 : decode zb_FT_init 5 = .ok (.bipush 12, 2) := by decide +kernel
theorem zd_FT_init_7 : decode zb_FT_init 7 = .ok (.anewarray 11, 3) := by decide +kernel
theorem zd_FT_init_10 : decode zb_FT_init 10 = .ok (.putfield 13, 3) := by decide +kernel
theorem zd_FT_init_13 : decode zb_FT_init 13 = .ok (.iconst 0, 1) := by decide +kernel
theorem zd_FT_init_14 : decode zb_FT_init 14 = .ok (.istore_n 1, 1) := by decide +kernel
theorem zd_FT_init_15 : decode zb_FT_init 15 = .ok (.iload_n 1, 1) := by decide +kernel
theorem zd_FT_init_16 : decode zb_FT_init 16 = .ok (.bipush 12, 2) := by decide +kernel
theorem zd_FT_init_18 : decode zb_FT_init 18 = .ok (.if_icmp .ge 22, 3) := by decide +kernel
theorem zd_FT_init_21 : decode zb_FT_init 21 = .ok (.aload_n 0, 1) := by decide +kernel
theorem zd_FT_init_22 : decode zb_FT_init 22 = .ok (.getfield 13, 3) := by decide +kernel
theorem zd_FT_init_25 : decode zb_FT_init 25 = .ok (.iload_n 1, 1) := by decide +kernel
theorem zd_FT_init_26 : decode zb_FT_init 26 = .ok (.new 11, 3) := by decide +kernel
theorem zd_FT_init_29 : decode zb_FT_init 29 = .ok (.dup, 1) := by decide +kernel
theorem zd_FT_init_30 : decode zb_FT_init 30 = .ok (.invokespecial 17, 3) := by decide +kernel
theorem zd_FT_init_33 : decode zb_FT_init 33 = .ok (.aastore, 1) := by decide +kernel
theorem zd_FT_init_34 : decode zb_FT_init 34 = .ok (.iinc 1 1, 3) := by decide +kernel
theorem zd_FT_init_37 : decode zb_FT_init 37 = .ok (.goto (-22), 3) := by decide +kernel
theorem zd_FT_init_40 : decode zb_FT_init 40 = .ok (.return_, 1) := by decide +kernel
abbrev zb_FT_findByInner : ByteArray := prog_3_method_2_code
def zy_FT_findByInner : MethodName := ⟨"PortTranslator$FlowTable", "findByInner", "(LPortTranslator$Subject;)LPortTranslator$Flow;"⟩
theorem zd_FT_findByInner_0 : decode zb_FT_findByInner 0 = .ok (.iconst 0, 1) := by decide +kernel
theorem zd_FT_findByInner_1 : decode zb_FT_findByInner 1 = .ok (.istore_n 2, 1) := by decide +kernel
theorem zd_FT_findByInner_2 : decode zb_FT_findByInner 2 = .ok (.iload_n 2, 1) := by decide +kernel
theorem zd_FT_findByInner_3 : decode zb_FT_findByInner 3 = .ok (.aload_n 0, 1) := by decide +kernel
theorem zd_FT_findByInner_4 : decode zb_FT_findByInner 4 = .ok (.getfield 18, 3) := by decide +kernel
theorem zd_FT_findByInner_7 : decode zb_FT_findByInner 7 = .ok (.if_icmp .ge 34, 3) := by decide +kernel
theorem zd_FT_findByInner_10 : decode zb_FT_findByInner 10 = .ok (.aload_n 0, 1) := by decide +kernel
theorem zd_FT_findByInner_11 : decode zb_FT_findByInner 11 = .ok (.getfield 13, 3) := by decide +kernel
theorem zd_FT_findByInner_14 : decode zb_FT_findByInner 14 = .ok (.iload_n 2, 1) := by decide +kernel
theorem zd_FT_findByInner_15 : decode zb_FT_findByInner 15 = .ok (.aaload, 1) := by decide +kernel
theorem zd_FT_findByInner_16 : decode zb_FT_findByInner 16 = .ok (.astore_n 3, 1) := by decide +kernel
theorem zd_FT_findByInner_17 : decode zb_FT_findByInner 17 = .ok (.aload_n 3, 1) := by decide +kernel
theorem zd_FT_findByInner_18 : decode zb_FT_findByInner 18 = .ok (.aload_n 1, 1) := by decide +kernel
theorem zd_FT_findByInner_19 : decode zb_FT_findByInner 19 = .ok (.invokevirtual 22, 3) := by decide +kernel
theorem zd_FT_findByInner_22 : decode zb_FT_findByInner 22 = .ok (.ifCond .eq 13, 3) := by decide +kernel
theorem zd_FT_findByInner_25 : decode zb_FT_findByInner 25 = .ok (.aload_n 3, 1) := by decide +kernel
theorem zd_FT_findByInner_26 : decode zb_FT_findByInner 26 = .ok (.aload_n 1, 1) := by decide +kernel
theorem zd_FT_findByInner_27 : decode zb_FT_findByInner 27 = .ok (.invokevirtual 26, 3) := by decide +kernel
theorem zd_FT_findByInner_30 : decode zb_FT_findByInner 30 = .ok (.ifCond .eq 5, 3) := by decide +kernel
theorem zd_FT_findByInner_33 : decode zb_FT_findByInner 33 = .ok (.aload_n 3, 1) := by decide +kernel
theorem zd_FT_findByInner_34 : decode zb_FT_findByInner 34 = .ok (.areturn, 1) := by decide +kernel
theorem zd_FT_findByInner_35 : decode zb_FT_findByInner 35 = .ok (.iinc 2 1, 3) := by decide +kernel
theorem zd_FT_findByInner_38 : decode zb_FT_findByInner 38 = .ok (.goto (-36), 3) := by decide +kernel
theorem zd_FT_findByInner_41 : decode zb_FT_findByInner 41 = .ok (.aconst_null, 1) := by decide +kernel
theorem zd_FT_findByInner_42 : decode zb_FT_findByInner 42 = .ok (.areturn, 1) := by decide +kernel
abbrev zb_FT_findByOwn : ByteArray := prog_3_method_3_code
def zy_FT_findByOwn : MethodName := ⟨"PortTranslator$FlowTable", "findByOwn", "(LPortTranslator$Subject;)LPortTranslator$Flow;"⟩
theorem zd_FT_findByOwn_0 : decode zb_FT_findByOwn 0 = .ok (.iconst 0, 1) := by decide +kernel
theorem zd_FT_findByOwn_1 : decode zb_FT_findByOwn 1 = .ok (.istore_n 2, 1) := by decide +kernel
theorem zd_FT_findByOwn_2 : decode zb_FT_findByOwn 2 = .ok (.iload_n 2, 1) := by decide +kernel
theorem zd_FT_findByOwn_3 : decode zb_FT_findByOwn 3 = .ok (.aload_n 0, 1) := by decide +kernel
theorem zd_FT_findByOwn_4 : decode zb_FT_findByOwn 4 = .ok (.getfield 18, 3) := by decide +kernel
theorem zd_FT_findByOwn_7 : decode zb_FT_findByOwn 7 = .ok (.if_icmp .ge 41, 3) := by decide +kernel
theorem zd_FT_findByOwn_10 : decode zb_FT_findByOwn 10 = .ok (.aload_n 0, 1) := by decide +kernel
theorem zd_FT_findByOwn_11 : decode zb_FT_findByOwn 11 = .ok (.getfield 13, 3) := by decide +kernel
theorem zd_FT_findByOwn_14 : decode zb_FT_findByOwn 14 = .ok (.iload_n 2, 1) := by decide +kernel
theorem zd_FT_findByOwn_15 : decode zb_FT_findByOwn 15 = .ok (.aaload, 1) := by decide +kernel
theorem zd_FT_findByOwn_16 : decode zb_FT_findByOwn 16 = .ok (.astore_n 3, 1) := by decide +kernel
theorem zd_FT_findByOwn_17 : decode zb_FT_findByOwn 17 = .ok (.aload_n 3, 1) := by decide +kernel
theorem zd_FT_findByOwn_18 : decode zb_FT_findByOwn 18 = .ok (.aload_n 1, 1) := by decide +kernel
theorem zd_FT_findByOwn_19 : decode zb_FT_findByOwn 19 = .ok (.getfield 29, 3) := by decide +kernel
theorem zd_FT_findByOwn_22 : decode zb_FT_findByOwn 22 = .ok (.aload_n 1, 1) := by decide +kernel
theorem zd_FT_findByOwn_23 : decode zb_FT_findByOwn 23 = .ok (.getfield 34, 3) := by decide +kernel
theorem zd_FT_findByOwn_26 : decode zb_FT_findByOwn 26 = .ok (.invokevirtual 37, 3) := by decide +kernel
theorem zd_FT_findByOwn_29 : decode zb_FT_findByOwn 29 = .ok (.ifCond .eq 13, 3) := by decide +kernel
theorem zd_FT_findByOwn_32 : decode zb_FT_findByOwn 32 = .ok (.aload_n 3, 1) := by decide +kernel
theorem zd_FT_findByOwn_33 : decode zb_FT_findByOwn 33 = .ok (.aload_n 1, 1) := by decide +kernel
theorem zd_FT_findByOwn_34 : decode zb_FT_findByOwn 34 = .ok (.invokevirtual 26, 3) := by decide +kernel
theorem zd_FT_findByOwn_37 : decode zb_FT_findByOwn 37 = .ok (.ifCond .eq 5, 3) := by decide +kernel
theorem zd_FT_findByOwn_40 : decode zb_FT_findByOwn 40 = .ok (.aload_n 3, 1) := by decide +kernel
theorem zd_FT_findByOwn_41 : decode zb_FT_findByOwn 41 = .ok (.areturn, 1) := by decide +kernel
theorem zd_FT_findByOwn_42 : decode zb_FT_findByOwn 42 = .ok (.iinc 2 1, 3) := by decide +kernel
theorem zd_FT_findByOwn_45 : decode zb_FT_findByOwn 45 = .ok (.goto (-43), 3) := by decide +kernel
theorem zd_FT_findByOwn_48 : decode zb_FT_findByOwn 48 = .ok (.aconst_null, 1) := by decide +kernel
theorem zd_FT_findByOwn_49 : decode zb_FT_findByOwn 49 = .ok (.areturn, 1) := by decide +kernel
abbrev zb_FT_begin : ByteArray := prog_3_method_4_code
def zy_FT_begin : MethodName := ⟨"PortTranslator$FlowTable", "begin", "(LPortTranslator$Subject;)LPortTranslator$Flow;"⟩
theorem zd_FT_begin_0 : decode zb_FT_begin 0 = .ok (.aload_n 0, 1) := by decide +kernel
theorem zd_FT_begin_1 : decode zb_FT_begin 1 = .ok (.getfield 18, 3) := by decide +kernel
theorem zd_FT_begin_4 : decode zb_FT_begin 4 = .ok (.bipush 12, 2) := by decide +kernel
theorem zd_FT_begin_6 : decode zb_FT_begin 6 = .ok (.if_icmp .lt 5, 3) := by decide +kernel
theorem zd_FT_begin_9 : decode zb_FT_begin 9 = .ok (.aconst_null, 1) := by decide +kernel
theorem zd_FT_begin_10 : decode zb_FT_begin 10 = .ok (.areturn, 1) := by decide +kernel
theorem zd_FT_begin_11 : decode zb_FT_begin 11 = .ok (.aload_n 0, 1) := by decide +kernel
theorem zd_FT_begin_12 : decode zb_FT_begin 12 = .ok (.aload_n 1, 1) := by decide +kernel
theorem zd_FT_begin_13 : decode zb_FT_begin 13 = .ok (.invokevirtual 41, 3) := by decide +kernel
theorem zd_FT_begin_16 : decode zb_FT_begin 16 = .ok (.istore_n 2, 1) := by decide +kernel
theorem zd_FT_begin_17 : decode zb_FT_begin 17 = .ok (.iload_n 2, 1) := by decide +kernel
theorem zd_FT_begin_18 : decode zb_FT_begin 18 = .ok (.iconst (-1), 1) := by decide +kernel
theorem zd_FT_begin_19 : decode zb_FT_begin 19 = .ok (.if_icmp .ne 12, 3) := by decide +kernel
theorem zd_FT_begin_22 : decode zb_FT_begin 22 = .ok (.aload_n 0, 1) := by decide +kernel
theorem zd_FT_begin_23 : decode zb_FT_begin 23 = .ok (.aload_n 1, 1) := by decide +kernel
theorem zd_FT_begin_24 : decode zb_FT_begin 24 = .ok (.getfield 29, 3) := by decide +kernel
theorem zd_FT_begin_27 : decode zb_FT_begin 27 = .ok (.invokevirtual 45, 3) := by decide +kernel
theorem zd_FT_begin_30 : decode zb_FT_begin 30 = .ok (.istore_n 2, 1) := by decide +kernel
theorem zd_FT_begin_31 : decode zb_FT_begin 31 = .ok (.iload_n 2, 1) := by decide +kernel
theorem zd_FT_begin_32 : decode zb_FT_begin 32 = .ok (.iconst (-1), 1) := by decide +kernel
theorem zd_FT_begin_33 : decode zb_FT_begin 33 = .ok (.if_icmp .ne 5, 3) := by decide +kernel
theorem zd_FT_begin_36 : decode zb_FT_begin 36 = .ok (.aconst_null, 1) := by decide +kernel
theorem zd_FT_begin_37 : decode zb_FT_begin 37 = .ok (.areturn, 1) := by decide +kernel
theorem zd_FT_begin_38 : decode zb_FT_begin 38 = .ok (.aload_n 0, 1) := by decide +kernel
theorem zd_FT_begin_39 : decode zb_FT_begin 39 = .ok (.getfield 13, 3) := by decide +kernel
theorem zd_FT_begin_42 : decode zb_FT_begin 42 = .ok (.aload_n 0, 1) := by decide +kernel
theorem zd_FT_begin_43 : decode zb_FT_begin 43 = .ok (.getfield 18, 3) := by decide +kernel
theorem zd_FT_begin_46 : decode zb_FT_begin 46 = .ok (.aaload, 1) := by decide +kernel
theorem zd_FT_begin_47 : decode zb_FT_begin 47 = .ok (.astore_n 3, 1) := by decide +kernel
theorem zd_FT_begin_48 : decode zb_FT_begin 48 = .ok (.aload_n 3, 1) := by decide +kernel
theorem zd_FT_begin_49 : decode zb_FT_begin 49 = .ok (.aload_n 1, 1) := by decide +kernel
theorem zd_FT_begin_50 : decode zb_FT_begin 50 = .ok (.iload_n 2, 1) := by decide +kernel
theorem zd_FT_begin_51 : decode zb_FT_begin 51 = .ok (.invokevirtual 49, 3) := by decide +kernel
theorem zd_FT_begin_54 : decode zb_FT_begin 54 = .ok (.aload_n 0, 1) := by decide +kernel
theorem zd_FT_begin_55 : decode zb_FT_begin 55 = .ok (.dup, 1) := by decide +kernel
theorem zd_FT_begin_56 : decode zb_FT_begin 56 = .ok (.getfield 18, 3) := by decide +kernel
theorem zd_FT_begin_59 : decode zb_FT_begin 59 = .ok (.iconst 1, 1) := by decide +kernel
theorem zd_FT_begin_60 : decode zb_FT_begin 60 = .ok (.iadd, 1) := by decide +kernel
theorem zd_FT_begin_61 : decode zb_FT_begin 61 = .ok (.putfield 18, 3) := by decide +kernel
theorem zd_FT_begin_64 : decode zb_FT_begin 64 = .ok (.aload_n 3, 1) := by decide +kernel
theorem zd_FT_begin_65 : decode zb_FT_begin 65 = .ok (.areturn, 1) := by decide +kernel
abbrev zb_FT_binding : ByteArray := prog_3_method_5_code
def zy_FT_binding : MethodName := ⟨"PortTranslator$FlowTable", "binding", "(LPortTranslator$Subject;)I"⟩
theorem zd_FT_binding_0 : decode zb_FT_binding 0 = .ok (.iconst 0, 1) := by decide +kernel
theorem zd_FT_binding_1 : decode zb_FT_binding 1 = .ok (.istore_n 2, 1) := by decide +kernel
theorem zd_FT_binding_2 : decode zb_FT_binding 2 = .ok (.iload_n 2, 1) := by decide +kernel
theorem zd_FT_binding_3 : decode zb_FT_binding 3 = .ok (.aload_n 0, 1) := by decide +kernel
theorem zd_FT_binding_4 : decode zb_FT_binding 4 = .ok (.getfield 18, 3) := by decide +kernel
theorem zd_FT_binding_7 : decode zb_FT_binding 7 = .ok (.if_icmp .ge 32, 3) := by decide +kernel
theorem zd_FT_binding_10 : decode zb_FT_binding 10 = .ok (.aload_n 0, 1) := by decide +kernel
theorem zd_FT_binding_11 : decode zb_FT_binding 11 = .ok (.getfield 13, 3) := by decide +kernel
theorem zd_FT_binding_14 : decode zb_FT_binding 14 = .ok (.iload_n 2, 1) := by decide +kernel
theorem zd_FT_binding_15 : decode zb_FT_binding 15 = .ok (.aaload, 1) := by decide +kernel
theorem zd_FT_binding_16 : decode zb_FT_binding 16 = .ok (.aload_n 1, 1) := by decide +kernel
theorem zd_FT_binding_17 : decode zb_FT_binding 17 = .ok (.invokevirtual 22, 3) := by decide +kernel
theorem zd_FT_binding_20 : decode zb_FT_binding 20 = .ok (.ifCond .eq 13, 3) := by decide +kernel
theorem zd_FT_binding_23 : decode zb_FT_binding 23 = .ok (.aload_n 0, 1) := by decide +kernel
theorem zd_FT_binding_24 : decode zb_FT_binding 24 = .ok (.getfield 13, 3) := by decide +kernel
theorem zd_FT_binding_27 : decode zb_FT_binding 27 = .ok (.iload_n 2, 1) := by decide +kernel
theorem zd_FT_binding_28 : decode zb_FT_binding 28 = .ok (.aaload, 1) := by decide +kernel
theorem zd_FT_binding_29 : decode zb_FT_binding 29 = .ok (.getfield 53, 3) := by decide +kernel
theorem zd_FT_binding_32 : decode zb_FT_binding 32 = .ok (.ireturn, 1) := by decide +kernel
theorem zd_FT_binding_33 : decode zb_FT_binding 33 = .ok (.iinc 2 1, 3) := by decide +kernel
theorem zd_FT_binding_36 : decode zb_FT_binding 36 = .ok (.goto (-34), 3) := by decide +kernel
theorem zd_FT_binding_39 : decode zb_FT_binding 39 = .ok (.iconst (-1), 1) := by decide +kernel
theorem zd_FT_binding_40 : decode zb_FT_binding 40 = .ok (.ireturn, 1) := by decide +kernel
abbrev zb_FT_leastFreePort : ByteArray := prog_3_method_6_code
def zy_FT_leastFreePort : MethodName := ⟨"PortTranslator$FlowTable", "leastFreePort", "(I)I"⟩
theorem zd_FT_leastFreePort_0 : decode zb_FT_leastFreePort 0 = .ok (.ldc 56, 2) := by decide +kernel
theorem zd_FT_leastFreePort_2 : decode zb_FT_leastFreePort 2 = .ok (.istore_n 2, 1) := by decide +kernel
theorem zd_FT_leastFreePort_3 : decode zb_FT_leastFreePort 3 = .ok (.iload_n 2, 1) := by decide +kernel
theorem zd_FT_leastFreePort_4 : decode zb_FT_leastFreePort 4 = .ok (.ldc 57, 2) := by decide +kernel
theorem zd_FT_leastFreePort_6 : decode zb_FT_leastFreePort 6 = .ok (.if_icmp .gt 20, 3) := by decide +kernel
theorem zd_FT_leastFreePort_9 : decode zb_FT_leastFreePort 9 = .ok (.aload_n 0, 1) := by decide +kernel
theorem zd_FT_leastFreePort_10 : decode zb_FT_leastFreePort 10 = .ok (.iload_n 1, 1) := by decide +kernel
theorem zd_FT_leastFreePort_11 : decode zb_FT_leastFreePort 11 = .ok (.iload_n 2, 1) := by decide +kernel
theorem zd_FT_leastFreePort_12 : decode zb_FT_leastFreePort 12 = .ok (.invokevirtual 58, 3) := by decide +kernel
theorem zd_FT_leastFreePort_15 : decode zb_FT_leastFreePort 15 = .ok (.ifCond .ne 5, 3) := by decide +kernel
theorem zd_FT_leastFreePort_18 : decode zb_FT_leastFreePort 18 = .ok (.iload_n 2, 1) := by decide +kernel
theorem zd_FT_leastFreePort_19 : decode zb_FT_leastFreePort 19 = .ok (.ireturn, 1) := by decide +kernel
theorem zd_FT_leastFreePort_20 : decode zb_FT_leastFreePort 20 = .ok (.iinc 2 1, 3) := by decide +kernel
theorem zd_FT_leastFreePort_23 : decode zb_FT_leastFreePort 23 = .ok (.goto (-20), 3) := by decide +kernel
theorem zd_FT_leastFreePort_26 : decode zb_FT_leastFreePort 26 = .ok (.iconst (-1), 1) := by decide +kernel
theorem zd_FT_leastFreePort_27 : decode zb_FT_leastFreePort 27 = .ok (.ireturn, 1) := by decide +kernel
abbrev zb_FT_isTaken : ByteArray := prog_3_method_7_code
def zy_FT_isTaken : MethodName := ⟨"PortTranslator$FlowTable", "isTaken", "(II)Z"⟩
theorem zd_FT_isTaken_0 : decode zb_FT_isTaken 0 = .ok (.iconst 0, 1) := by decide +kernel
theorem zd_FT_isTaken_1 : decode zb_FT_isTaken 1 = .ok (.istore_n 3, 1) := by decide +kernel
theorem zd_FT_isTaken_2 : decode zb_FT_isTaken 2 = .ok (.iload_n 3, 1) := by decide +kernel
theorem zd_FT_isTaken_3 : decode zb_FT_isTaken 3 = .ok (.aload_n 0, 1) := by decide +kernel
theorem zd_FT_isTaken_4 : decode zb_FT_isTaken 4 = .ok (.getfield 18, 3) := by decide +kernel
theorem zd_FT_isTaken_7 : decode zb_FT_isTaken 7 = .ok (.if_icmp .ge 25, 3) := by decide +kernel
theorem zd_FT_isTaken_10 : decode zb_FT_isTaken 10 = .ok (.aload_n 0, 1) := by decide +kernel
theorem zd_FT_isTaken_11 : decode zb_FT_isTaken 11 = .ok (.getfield 13, 3) := by decide +kernel
theorem zd_FT_isTaken_14 : decode zb_FT_isTaken 14 = .ok (.iload_n 3, 1) := by decide +kernel
theorem zd_FT_isTaken_15 : decode zb_FT_isTaken 15 = .ok (.aaload, 1) := by decide +kernel
theorem zd_FT_isTaken_16 : decode zb_FT_isTaken 16 = .ok (.iload_n 1, 1) := by decide +kernel
theorem zd_FT_isTaken_17 : decode zb_FT_isTaken 17 = .ok (.iload_n 2, 1) := by decide +kernel
theorem zd_FT_isTaken_18 : decode zb_FT_isTaken 18 = .ok (.invokevirtual 37, 3) := by decide +kernel
theorem zd_FT_isTaken_21 : decode zb_FT_isTaken 21 = .ok (.ifCond .eq 5, 3) := by decide +kernel
theorem zd_FT_isTaken_24 : decode zb_FT_isTaken 24 = .ok (.iconst 1, 1) := by decide +kernel
theorem zd_FT_isTaken_25 : decode zb_FT_isTaken 25 = .ok (.ireturn, 1) := by decide +kernel
theorem zd_FT_isTaken_26 : decode zb_FT_isTaken 26 = .ok (.iinc 3 1, 3) := by decide +kernel
theorem zd_FT_isTaken_29 : decode zb_FT_isTaken 29 = .ok (.goto (-27), 3) := by decide +kernel
theorem zd_FT_isTaken_32 : decode zb_FT_isTaken 32 = .ok (.iconst 0, 1) := by decide +kernel
theorem zd_FT_isTaken_33 : decode zb_FT_isTaken 33 = .ok (.ireturn, 1) := by decide +kernel
abbrev zb_FT_countOwnPorts : ByteArray := prog_3_method_8_code
def zy_FT_countOwnPorts : MethodName := ⟨"PortTranslator$FlowTable", "countOwnPorts", "(I)I"⟩
theorem zd_FT_countOwnPorts_0 : decode zb_FT_countOwnPorts 0 = .ok (.iconst 0, 1) := by decide +kernel
theorem zd_FT_countOwnPorts_1 : decode zb_FT_countOwnPorts 1 = .ok (.istore_n 2, 1) := by decide +kernel
theorem zd_FT_countOwnPorts_2 : decode zb_FT_countOwnPorts 2 = .ok (.ldc 56, 2) := by decide +kernel
theorem zd_FT_countOwnPorts_4 : decode zb_FT_countOwnPorts 4 = .ok (.istore_n 3, 1) := by decide +kernel
theorem zd_FT_countOwnPorts_5 : decode zb_FT_countOwnPorts 5 = .ok (.iload_n 3, 1) := by decide +kernel
theorem zd_FT_countOwnPorts_6 : decode zb_FT_countOwnPorts 6 = .ok (.ldc 57, 2) := by decide +kernel
theorem zd_FT_countOwnPorts_8 : decode zb_FT_countOwnPorts 8 = .ok (.if_icmp .gt 21, 3) := by decide +kernel
theorem zd_FT_countOwnPorts_11 : decode zb_FT_countOwnPorts 11 = .ok (.aload_n 0, 1) := by decide +kernel
theorem zd_FT_countOwnPorts_12 : decode zb_FT_countOwnPorts 12 = .ok (.iload_n 1, 1) := by decide +kernel
theorem zd_FT_countOwnPorts_13 : decode zb_FT_countOwnPorts 13 = .ok (.iload_n 3, 1) := by decide +kernel
theorem zd_FT_countOwnPorts_14 : decode zb_FT_countOwnPorts 14 = .ok (.invokevirtual 58, 3) := by decide +kernel
theorem zd_FT_countOwnPorts_17 : decode zb_FT_countOwnPorts 17 = .ok (.ifCond .eq 6, 3) := by decide +kernel
theorem zd_FT_countOwnPorts_20 : decode zb_FT_countOwnPorts 20 = .ok (.iinc 2 1, 3) := by decide +kernel
theorem zd_FT_countOwnPorts_23 : decode zb_FT_countOwnPorts 23 = .ok (.iinc 3 1, 3) := by decide +kernel
theorem zd_FT_countOwnPorts_26 : decode zb_FT_countOwnPorts 26 = .ok (.goto (-21), 3) := by decide +kernel
theorem zd_FT_countOwnPorts_29 : decode zb_FT_countOwnPorts 29 = .ok (.iload_n 2, 1) := by decide +kernel
theorem zd_FT_countOwnPorts_30 : decode zb_FT_countOwnPorts 30 = .ok (.ireturn, 1) := by decide +kernel
abbrev zb_FT_grow : ByteArray := prog_3_method_9_code
def zy_FT_grow : MethodName := ⟨"PortTranslator$FlowTable", "grow", "(I)I"⟩
theorem zd_FT_grow_0 : decode zb_FT_grow 0 = .ok (.aload_n 0, 1) := by decide +kernel
theorem zd_FT_grow_1 : decode zb_FT_grow 1 = .ok (.getfield 18, 3) := by decide +kernel
theorem zd_FT_grow_4 : decode zb_FT_grow 4 = .ok (.istore_n 2, 1) := by decide +kernel
theorem zd_FT_grow_5 : decode zb_FT_grow 5 = .ok (.iload_n 2, 1) := by decide +kernel
theorem zd_FT_grow_6 : decode zb_FT_grow 6 = .ok (.iconst 1, 1) := by decide +kernel
theorem zd_FT_grow_7 : decode zb_FT_grow 7 = .ok (.isub, 1) := by decide +kernel
theorem zd_FT_grow_8 : decode zb_FT_grow 8 = .ok (.istore_n 3, 1) := by decide +kernel
theorem zd_FT_grow_9 : decode zb_FT_grow 9 = .ok (.iload_n 3, 1) := by decide +kernel
theorem zd_FT_grow_10 : decode zb_FT_grow 10 = .ok (.ifCond .lt 41, 3) := by decide +kernel
theorem zd_FT_grow_13 : decode zb_FT_grow 13 = .ok (.aload_n 0, 1) := by decide +kernel
theorem zd_FT_grow_14 : decode zb_FT_grow 14 = .ok (.getfield 13, 3) := by decide +kernel
theorem zd_FT_grow_17 : decode zb_FT_grow 17 = .ok (.iload_n 3, 1) := by decide +kernel
theorem zd_FT_grow_18 : decode zb_FT_grow 18 = .ok (.aaload, 1) := by decide +kernel
theorem zd_FT_grow_19 : decode zb_FT_grow 19 = .ok (.dup, 1) := by decide +kernel
theorem zd_FT_grow_20 : decode zb_FT_grow 20 = .ok (.getfield 61, 3) := by decide +kernel
theorem zd_FT_grow_23 : decode zb_FT_grow 23 = .ok (.iload_n 1, 1) := by decide +kernel
theorem zd_FT_grow_24 : decode zb_FT_grow 24 = .ok (.iadd, 1) := by decide +kernel
theorem zd_FT_grow_25 : decode zb_FT_grow 25 = .ok (.putfield 61, 3) := by decide +kernel
theorem zd_FT_grow_28 : decode zb_FT_grow 28 = .ok (.aload_n 0, 1) := by decide +kernel
theorem zd_FT_grow_29 : decode zb_FT_grow 29 = .ok (.getfield 13, 3) := by decide +kernel
theorem zd_FT_grow_32 : decode zb_FT_grow 32 = .ok (.iload_n 3, 1) := by decide +kernel
theorem zd_FT_grow_33 : decode zb_FT_grow 33 = .ok (.aaload, 1) := by decide +kernel
theorem zd_FT_grow_34 : decode zb_FT_grow 34 = .ok (.invokevirtual 64, 3) := by decide +kernel
theorem zd_FT_grow_37 : decode zb_FT_grow 37 = .ok (.ifCond .eq 8, 3) := by decide +kernel
theorem zd_FT_grow_40 : decode zb_FT_grow 40 = .ok (.aload_n 0, 1) := by decide +kernel
theorem zd_FT_grow_41 : decode zb_FT_grow 41 = .ok (.iload_n 3, 1) := by decide +kernel
theorem zd_FT_grow_42 : decode zb_FT_grow 42 = .ok (.invokevirtual 68, 3) := by decide +kernel
theorem zd_FT_grow_45 : decode zb_FT_grow 45 = .ok (.iinc 3 (-1), 3) := by decide +kernel
theorem zd_FT_grow_48 : decode zb_FT_grow 48 = .ok (.goto (-39), 3) := by decide +kernel
theorem zd_FT_grow_51 : decode zb_FT_grow 51 = .ok (.iload_n 2, 1) := by decide +kernel
theorem zd_FT_grow_52 : decode zb_FT_grow 52 = .ok (.aload_n 0, 1) := by decide +kernel
theorem zd_FT_grow_53 : decode zb_FT_grow 53 = .ok (.getfield 18, 3) := by decide +kernel
theorem zd_FT_grow_56 : decode zb_FT_grow 56 = .ok (.isub, 1) := by decide +kernel
theorem zd_FT_grow_57 : decode zb_FT_grow 57 = .ok (.ireturn, 1) := by decide +kernel
abbrev zb_FT_end : ByteArray := prog_3_method_10_code
def zy_FT_end : MethodName := ⟨"PortTranslator$FlowTable", "end", "(LPortTranslator$Flow;)V"⟩
theorem zd_FT_end_0 : decode zb_FT_end 0 = .ok (.iconst 0, 1) := by decide +kernel
theorem zd_FT_end_1 : decode zb_FT_end 1 = .ok (.istore_n 2, 1) := by decide +kernel
theorem zd_FT_end_2 : decode zb_FT_end 2 = .ok (.iload_n 2, 1) := by decide +kernel
theorem zd_FT_end_3 : decode zb_FT_end 3 = .ok (.aload_n 0, 1) := by decide +kernel
theorem zd_FT_end_4 : decode zb_FT_end 4 = .ok (.getfield 18, 3) := by decide +kernel
theorem zd_FT_end_7 : decode zb_FT_end 7 = .ok (.if_icmp .ge 25, 3) := by decide +kernel
theorem zd_FT_end_10 : decode zb_FT_end 10 = .ok (.aload_n 0, 1) := by decide +kernel
theorem zd_FT_end_11 : decode zb_FT_end 11 = .ok (.getfield 13, 3) := by decide +kernel
theorem zd_FT_end_14 : decode zb_FT_end 14 = .ok (.iload_n 2, 1) := by decide +kernel
theorem zd_FT_end_15 : decode zb_FT_end 15 = .ok (.aaload, 1) := by decide +kernel
theorem zd_FT_end_16 : decode zb_FT_end 16 = .ok (.aload_n 1, 1) := by decide +kernel
theorem zd_FT_end_17 : decode zb_FT_end 17 = .ok (.if_acmp .ne 9, 3) := by decide +kernel
theorem zd_FT_end_20 : decode zb_FT_end 20 = .ok (.aload_n 0, 1) := by decide +kernel
theorem zd_FT_end_21 : decode zb_FT_end 21 = .ok (.iload_n 2, 1) := by decide +kernel
theorem zd_FT_end_22 : decode zb_FT_end 22 = .ok (.invokevirtual 68, 3) := by decide +kernel
theorem zd_FT_end_25 : decode zb_FT_end 25 = .ok (.return_, 1) := by decide +kernel
theorem zd_FT_end_26 : decode zb_FT_end 26 = .ok (.iinc 2 1, 3) := by decide +kernel
theorem zd_FT_end_29 : decode zb_FT_end 29 = .ok (.goto (-27), 3) := by decide +kernel
theorem zd_FT_end_32 : decode zb_FT_end 32 = .ok (.return_, 1) := by decide +kernel
abbrev zb_FT_endAt : ByteArray := prog_3_method_11_code
def zy_FT_endAt : MethodName := ⟨"PortTranslator$FlowTable", "endAt", "(I)V"⟩
theorem zd_FT_endAt_0 : decode zb_FT_endAt 0 = .ok (.aload_n 0, 1) := by decide +kernel
theorem zd_FT_endAt_1 : decode zb_FT_endAt 1 = .ok (.getfield 13, 3) := by decide +kernel
theorem zd_FT_endAt_4 : decode zb_FT_endAt 4 = .ok (.iload_n 1, 1) := by decide +kernel
theorem zd_FT_endAt_5 : decode zb_FT_endAt 5 = .ok (.aaload, 1) := by decide +kernel
theorem zd_FT_endAt_6 : decode zb_FT_endAt 6 = .ok (.astore_n 2, 1) := by decide +kernel
theorem zd_FT_endAt_7 : decode zb_FT_endAt 7 = .ok (.iload_n 1, 1) := by decide +kernel
theorem zd_FT_endAt_8 : decode zb_FT_endAt 8 = .ok (.iconst 1, 1) := by decide +kernel
theorem zd_FT_endAt_9 : decode zb_FT_endAt 9 = .ok (.iadd, 1) := by decide +kernel
theorem zd_FT_endAt_10 : decode zb_FT_endAt 10 = .ok (.istore_n 3, 1) := by decide +kernel
theorem zd_FT_endAt_11 : decode zb_FT_endAt 11 = .ok (.iload_n 3, 1) := by decide +kernel
theorem zd_FT_endAt_12 : decode zb_FT_endAt 12 = .ok (.aload_n 0, 1) := by decide +kernel
theorem zd_FT_endAt_13 : decode zb_FT_endAt 13 = .ok (.getfield 18, 3) := by decide +kernel
theorem zd_FT_endAt_16 : decode zb_FT_endAt 16 = .ok (.if_icmp .ge 23, 3) := by decide +kernel
theorem zd_FT_endAt_19 : decode zb_FT_endAt 19 = .ok (.aload_n 0, 1) := by decide +kernel
theorem zd_FT_endAt_20 : decode zb_FT_endAt 20 = .ok (.getfield 13, 3) := by decide +kernel
theorem zd_FT_endAt_23 : decode zb_FT_endAt 23 = .ok (.iload_n 3, 1) := by decide +kernel
theorem zd_FT_endAt_24 : decode zb_FT_endAt 24 = .ok (.iconst 1, 1) := by decide +kernel
theorem zd_FT_endAt_25 : decode zb_FT_endAt 25 = .ok (.isub, 1) := by decide +kernel
theorem zd_FT_endAt_26 : decode zb_FT_endAt 26 = .ok (.aload_n 0, 1) := by decide +kernel
theorem zd_FT_endAt_27 : decode zb_FT_endAt 27 = .ok (.getfield 13, 3) := by decide +kernel
theorem zd_FT_endAt_30 : decode zb_FT_endAt 30 = .ok (.iload_n 3, 1) := by decide +kernel
theorem zd_FT_endAt_31 : decode zb_FT_endAt 31 = .ok (.aaload, 1) := by decide +kernel
theorem zd_FT_endAt_32 : decode zb_FT_endAt 32 = .ok (.aastore, 1) := by decide +kernel
theorem zd_FT_endAt_33 : decode zb_FT_endAt 33 = .ok (.iinc 3 1, 3) := by decide +kernel
theorem zd_FT_endAt_36 : decode zb_FT_endAt 36 = .ok (.goto (-25), 3) := by decide +kernel
theorem zd_FT_endAt_39 : decode zb_FT_endAt 39 = .ok (.aload_n 0, 1) := by decide +kernel
theorem zd_FT_endAt_40 : decode zb_FT_endAt 40 = .ok (.dup, 1) := by decide +kernel
theorem zd_FT_endAt_41 : decode zb_FT_endAt 41 = .ok (.getfield 18, 3) := by decide +kernel
theorem zd_FT_endAt_44 : decode zb_FT_endAt 44 = .ok (.iconst 1, 1) := by decide +kernel
theorem zd_FT_endAt_45 : decode zb_FT_endAt 45 = .ok (.isub, 1) := by decide +kernel
theorem zd_FT_endAt_46 : decode zb_FT_endAt 46 = .ok (.putfield 18, 3) := by decide +kernel
theorem zd_FT_endAt_49 : decode zb_FT_endAt 49 = .ok (.aload_n 0, 1) := by decide +kernel
theorem zd_FT_endAt_50 : decode zb_FT_endAt 50 = .ok (.getfield 13, 3) := by decide +kernel
theorem zd_FT_endAt_53 : decode zb_FT_endAt 53 = .ok (.aload_n 0, 1) := by decide +kernel
theorem zd_FT_endAt_54 : decode zb_FT_endAt 54 = .ok (.getfield 18, 3) := by decide +kernel
theorem zd_FT_endAt_57 : decode zb_FT_endAt 57 = .ok (.aload_n 2, 1) := by decide +kernel
theorem zd_FT_endAt_58 : decode zb_FT_endAt 58 = .ok (.aastore, 1) := by decide +kernel
theorem zd_FT_endAt_59 : decode zb_FT_endAt 59 = .ok (.return_, 1) := by decide +kernel
abbrev zb_PK_init : ByteArray := prog_4_method_1_code
def zy_PK_init : MethodName := ⟨"PortTranslator$Packet", "<init>", "()V"⟩
theorem zd_PK_init_0 : decode zb_PK_init 0 = .ok (.aload_n 0, 1) := by decide +kernel
theorem zd_PK_init_1 : decode zb_PK_init 1 = .ok (.invokespecial 3, 3) := by decide +kernel
theorem zd_PK_init_4 : decode zb_PK_init 4 = .ok (.aload_n 0, 1) := by decide +kernel
theorem zd_PK_init_5 : decode zb_PK_init 5 = .ok (.bipush 48, 2) := by decide +kernel
theorem zd_PK_init_7 : decode zb_PK_init 7 = .ok (.newarray .int, 2) := by decide +kernel
theorem zd_PK_init_9 : decode zb_PK_init 9 = .ok (.putfield 11, 3) := by decide +kernel
theorem zd_PK_init_12 : decode zb_PK_init 12 = .ok (.return_, 1) := by decide +kernel
abbrev zb_PK_hasRoomFor : ByteArray := prog_4_method_2_code
def zy_PK_hasRoomFor : MethodName := ⟨"PortTranslator$Packet", "hasRoomFor", "(I)Z"⟩
theorem zd_PK_hasRoomFor_0 : decode zb_PK_hasRoomFor 0 = .ok (.iload_n 1, 1) := by decide +kernel
theorem zd_PK_hasRoomFor_1 : decode zb_PK_hasRoomFor 1 = .ok (.bipush 48, 2) := by decide +kernel
theorem zd_PK_hasRoomFor_3 : decode zb_PK_hasRoomFor 3 = .ok (.aload_n 0, 1) := by decide +kernel
theorem zd_PK_hasRoomFor_4 : decode zb_PK_hasRoomFor 4 = .ok (.getfield 15, 3) := by decide +kernel
theorem zd_PK_hasRoomFor_7 : decode zb_PK_hasRoomFor 7 = .ok (.isub, 1) := by decide +kernel
theorem zd_PK_hasRoomFor_8 : decode zb_PK_hasRoomFor 8 = .ok (.if_icmp .gt 7, 3) := by decide +kernel
theorem zd_PK_hasRoomFor_11 : decode zb_PK_hasRoomFor 11 = .ok (.iconst 1, 1) := by decide +kernel
theorem zd_PK_hasRoomFor_12 : decode zb_PK_hasRoomFor 12 = .ok (.goto 4, 3) := by decide +kernel
theorem zd_PK_hasRoomFor_15 : decode zb_PK_hasRoomFor 15 = .ok (.iconst 0, 1) := by decide +kernel
theorem zd_PK_hasRoomFor_16 : decode zb_PK_hasRoomFor 16 = .ok (.ireturn, 1) := by decide +kernel
abbrev zb_PK_append : ByteArray := prog_4_method_3_code
def zy_PK_append : MethodName := ⟨"PortTranslator$Packet", "append", "(I)V"⟩
theorem zd_PK_append_0 : decode zb_PK_append 0 = .ok (.aload_n 0, 1) := by decide +kernel
theorem zd_PK_append_1 : decode zb_PK_append 1 = .ok (.getfield 15, 3) := by decide +kernel
theorem zd_PK_append_4 : decode zb_PK_append 4 = .ok (.bipush 48, 2) := by decide +kernel
theorem zd_PK_append_6 : decode zb_PK_append 6 = .ok (.if_icmp .ge 23, 3) := by decide +kernel
theorem zd_PK_append_9 : decode zb_PK_append 9 = .ok (.aload_n 0, 1) := by decide +kernel
theorem zd_PK_append_10 : decode zb_PK_append 10 = .ok (.getfield 11, 3) := by decide +kernel
theorem zd_PK_append_13 : decode zb_PK_append 13 = .ok (.aload_n 0, 1) := by decide +kernel
theorem zd_PK_append_14 : decode zb_PK_append 14 = .ok (.getfield 15, 3) := by decide +kernel
theorem zd_PK_append_17 : decode zb_PK_append 17 = .ok (.iload_n 1, 1) := by decide +kernel
theorem zd_PK_append_18 : decode zb_PK_append 18 = .ok (.iastore, 1) := by decide +kernel
theorem zd_PK_append_19 : decode zb_PK_append 19 = .ok (.aload_n 0, 1) := by decide +kernel
theorem zd_PK_append_20 : decode zb_PK_append 20 = .ok (.dup, 1) := by decide +kernel
theorem zd_PK_append_21 : decode zb_PK_append 21 = .ok (.getfield 15, 3) := by decide +kernel
theorem zd_PK_append_24 : decode zb_PK_append 24 = .ok (.iconst 1, 1) := by decide +kernel
theorem zd_PK_append_25 : decode zb_PK_append 25 = .ok (.iadd, 1) := by decide +kernel
theorem zd_PK_append_26 : decode zb_PK_append 26 = .ok (.putfield 15, 3) := by decide +kernel
theorem zd_PK_append_29 : decode zb_PK_append 29 = .ok (.return_, 1) := by decide +kernel
abbrev zb_PK_empty : ByteArray := prog_4_method_4_code
def zy_PK_empty : MethodName := ⟨"PortTranslator$Packet", "empty", "()V"⟩
theorem zd_PK_empty_0 : decode zb_PK_empty 0 = .ok (.aload_n 0, 1) := by decide +kernel
theorem zd_PK_empty_1 : decode zb_PK_empty 1 = .ok (.iconst 0, 1) := by decide +kernel
theorem zd_PK_empty_2 : decode zb_PK_empty 2 = .ok (.putfield 15, 3) := by decide +kernel
theorem zd_PK_empty_5 : decode zb_PK_empty 5 = .ok (.return_, 1) := by decide +kernel
abbrev zb_PK_copyFrom : ByteArray := prog_4_method_5_code
def zy_PK_copyFrom : MethodName := ⟨"PortTranslator$Packet", "copyFrom", "(LPortTranslator$Packet;)V"⟩
theorem zd_PK_copyFrom_0 : decode zb_PK_copyFrom 0 = .ok (.aload_n 1, 1) := by decide +kernel
theorem zd_PK_copyFrom_1 : decode zb_PK_copyFrom 1 = .ok (.getfield 11, 3) := by decide +kernel
theorem zd_PK_copyFrom_4 : decode zb_PK_copyFrom 4 = .ok (.iconst 0, 1) := by decide +kernel
theorem zd_PK_copyFrom_5 : decode zb_PK_copyFrom 5 = .ok (.aload_n 0, 1) := by decide +kernel
theorem zd_PK_copyFrom_6 : decode zb_PK_copyFrom 6 = .ok (.getfield 11, 3) := by decide +kernel
theorem zd_PK_copyFrom_9 : decode zb_PK_copyFrom 9 = .ok (.iconst 0, 1) := by decide +kernel
theorem zd_PK_copyFrom_10 : decode zb_PK_copyFrom 10 = .ok (.bipush 48, 2) := by decide +kernel
theorem zd_PK_copyFrom_12 : decode zb_PK_copyFrom 12 = .ok (.invokestatic 19, 3) := by decide +kernel
theorem zd_PK_copyFrom_15 : decode zb_PK_copyFrom 15 = .ok (.aload_n 0, 1) := by decide +kernel
theorem zd_PK_copyFrom_16 : decode zb_PK_copyFrom 16 = .ok (.aload_n 1, 1) := by decide +kernel
theorem zd_PK_copyFrom_17 : decode zb_PK_copyFrom 17 = .ok (.getfield 15, 3) := by decide +kernel
theorem zd_PK_copyFrom_20 : decode zb_PK_copyFrom 20 = .ok (.putfield 15, 3) := by decide +kernel
theorem zd_PK_copyFrom_23 : decode zb_PK_copyFrom 23 = .ok (.return_, 1) := by decide +kernel
abbrev zb_PK_isWellFormed : ByteArray := prog_4_method_6_code
def zy_PK_isWellFormed : MethodName := ⟨"PortTranslator$Packet", "isWellFormed", "()Z"⟩
theorem zd_PK_isWellFormed_0 : decode zb_PK_isWellFormed 0 = .ok (.aload_n 0, 1) := by decide +kernel
theorem zd_PK_isWellFormed_1 : decode zb_PK_isWellFormed 1 = .ok (.getfield 15, 3) := by decide +kernel
theorem zd_PK_isWellFormed_4 : decode zb_PK_isWellFormed 4 = .ok (.bipush 10, 2) := by decide +kernel
theorem zd_PK_isWellFormed_6 : decode zb_PK_isWellFormed 6 = .ok (.if_icmp .lt 32, 3) := by decide +kernel
theorem zd_PK_isWellFormed_9 : decode zb_PK_isWellFormed 9 = .ok (.aload_n 0, 1) := by decide +kernel
theorem zd_PK_isWellFormed_10 : decode zb_PK_isWellFormed 10 = .ok (.getfield 11, 3) := by decide +kernel
theorem zd_PK_isWellFormed_13 : decode zb_PK_isWellFormed 13 = .ok (.iconst 0, 1) := by decide +kernel
theorem zd_PK_isWellFormed_14 : decode zb_PK_isWellFormed 14 = .ok (.iaload, 1) := by decide +kernel
theorem zd_PK_isWellFormed_15 : decode zb_PK_isWellFormed 15 = .ok (.bipush 8, 2) := by decide +kernel
theorem zd_PK_isWellFormed_17 : decode zb_PK_isWellFormed 17 = .ok (.ishr, 1) := by decide +kernel
theorem zd_PK_isWellFormed_18 : decode zb_PK_isWellFormed 18 = .ok (.bipush 69, 2) := by decide +kernel
theorem zd_PK_isWellFormed_20 : decode zb_PK_isWellFormed 20 = .ok (.if_icmp .ne 18, 3) := by decide +kernel
theorem zd_PK_isWellFormed_23 : decode zb_PK_isWellFormed 23 = .ok (.aload_n 0, 1) := by decide +kernel
theorem zd_PK_isWellFormed_24 : decode zb_PK_isWellFormed 24 = .ok (.getfield 11, 3) := by decide +kernel
theorem zd_PK_isWellFormed_27 : decode zb_PK_isWellFormed 27 = .ok (.iconst 1, 1) := by decide +kernel
theorem zd_PK_isWellFormed_28 : decode zb_PK_isWellFormed 28 = .ok (.iaload, 1) := by decide +kernel
theorem zd_PK_isWellFormed_29 : decode zb_PK_isWellFormed 29 = .ok (.iconst 2, 1) := by decide +kernel
theorem zd_PK_isWellFormed_30 : decode zb_PK_isWellFormed 30 = .ok (.aload_n 0, 1) := by decide +kernel
theorem zd_PK_isWellFormed_31 : decode zb_PK_isWellFormed 31 = .ok (.getfield 15, 3) := by decide +kernel
theorem zd_PK_isWellFormed_34 : decode zb_PK_isWellFormed 34 = .ok (.imul, 1) := by decide +kernel
theorem zd_PK_isWellFormed_35 : decode zb_PK_isWellFormed 35 = .ok (.if_icmp .eq 5, 3) := by decide +kernel
theorem zd_PK_isWellFormed_38 : decode zb_PK_isWellFormed 38 = .ok (.iconst 0, 1) := by decide +kernel
theorem zd_PK_isWellFormed_39 : decode zb_PK_isWellFormed 39 = .ok (.ireturn, 1) := by decide +kernel
theorem zd_PK_isWellFormed_40 : decode zb_PK_isWellFormed 40 = .ok (.aload_n 0, 1) := by decide +kernel
theorem zd_PK_isWellFormed_41 : decode zb_PK_isWellFormed 41 = .ok (.getfield 11, 3) := by decide +kernel
theorem zd_PK_isWellFormed_44 : decode zb_PK_isWellFormed 44 = .ok (.iconst 3, 1) := by decide +kernel
theorem zd_PK_isWellFormed_45 : decode zb_PK_isWellFormed 45 = .ok (.iaload, 1) := by decide +kernel
theorem zd_PK_isWellFormed_46 : decode zb_PK_isWellFormed 46 = .ok (.ldc 25, 2) := by decide +kernel
theorem zd_PK_isWellFormed_48 : decode zb_PK_isWellFormed 48 = .ok (.iand, 1) := by decide +kernel
theorem zd_PK_isWellFormed_49 : decode zb_PK_isWellFormed 49 = .ok (.ifCond .ne 18, 3) := by decide +kernel
theorem zd_PK_isWellFormed_52 : decode zb_PK_isWellFormed 52 = .ok (.aload_n 0, 1) := by decide +kernel
theorem zd_PK_isWellFormed_53 : decode zb_PK_isWellFormed 53 = .ok (.iconst 0, 1) := by decide +kernel
theorem zd_PK_isWellFormed_54 : decode zb_PK_isWellFormed 54 = .ok (.bipush 10, 2) := by decide +kernel
theorem zd_PK_isWellFormed_56 : decode zb_PK_isWellFormed 56 = .ok (.invokevirtual 26, 3) := by decide +kernel
theorem zd_PK_isWellFormed_59 : decode zb_PK_isWellFormed 59 = .ok (.invokestatic 30, 3) := by decide +kernel
theorem zd_PK_isWellFormed_62 : decode zb_PK_isWellFormed 62 = .ok (.ldc 34, 2) := by decide +kernel
theorem zd_PK_isWellFormed_64 : decode zb_PK_isWellFormed 64 = .ok (.if_icmp .eq 5, 3) := by decide +kernel
theorem zd_PK_isWellFormed_67 : decode zb_PK_isWellFormed 67 = .ok (.iconst 0, 1) := by decide +kernel
theorem zd_PK_isWellFormed_68 : decode zb_PK_isWellFormed 68 = .ok (.ireturn, 1) := by decide +kernel
theorem zd_PK_isWellFormed_69 : decode zb_PK_isWellFormed 69 = .ok (.aload_n 0, 1) := by decide +kernel
theorem zd_PK_isWellFormed_70 : decode zb_PK_isWellFormed 70 = .ok (.iconst 0, 1) := by decide +kernel
theorem zd_PK_isWellFormed_71 : decode zb_PK_isWellFormed 71 = .ok (.invokevirtual 35, 3) := by decide +kernel
theorem zd_PK_isWellFormed_74 : decode zb_PK_isWellFormed 74 = .ok (.lookupswitch 171 #[(1, 121), (6, 34), (17, 70)], 34) := by decide +kernel
theorem zd_PK_isWellFormed_108 : decode zb_PK_isWellFormed 108 = .ok (.aload_n 0, 1) := by decide +kernel
theorem zd_PK_isWellFormed_109 : decode zb_PK_isWellFormed 109 = .ok (.getfield 15, 3) := by decide +kernel
theorem zd_PK_isWellFormed_112 : decode zb_PK_isWellFormed 112 = .ok (.bipush 20, 2) := by decide +kernel
theorem zd_PK_isWellFormed_114 : decode zb_PK_isWellFormed 114 = .ok (.if_icmp .lt 28, 3) := by decide +kernel
theorem zd_PK_isWellFormed_117 : decode zb_PK_isWellFormed 117 = .ok (.aload_n 0, 1) := by decide +kernel
theorem zd_PK_isWellFormed_118 : decode zb_PK_isWellFormed 118 = .ok (.getfield 11, 3) := by decide +kernel
theorem zd_PK_isWellFormed_121 : decode zb_PK_isWellFormed 121 = .ok (.bipush 16, 2) := by decide +kernel
theorem zd_PK_isWellFormed_123 : decode zb_PK_isWellFormed 123 = .ok (.iaload, 1) := by decide +kernel
theorem zd_PK_isWellFormed_124 : decode zb_PK_isWellFormed 124 = .ok (.bipush 12, 2) := by decide +kernel
theorem zd_PK_isWellFormed_126 : decode zb_PK_isWellFormed 126 = .ok (.ishr, 1) := by decide +kernel
theorem zd_PK_isWellFormed_127 : decode zb_PK_isWellFormed 127 = .ok (.iconst 5, 1) := by decide +kernel
theorem zd_PK_isWellFormed_128 : decode zb_PK_isWellFormed 128 = .ok (.if_icmp .ne 14, 3) := by decide +kernel
theorem zd_PK_isWellFormed_131 : decode zb_PK_isWellFormed 131 = .ok (.aload_n 0, 1) := by decide +kernel
theorem zd_PK_isWellFormed_132 : decode zb_PK_isWellFormed 132 = .ok (.invokevirtual 38, 3) := by decide +kernel
theorem zd_PK_isWellFormed_135 : decode zb_PK_isWellFormed 135 = .ok (.ifCond .eq 7, 3) := by decide +kernel
theorem zd_PK_isWellFormed_138 : decode zb_PK_isWellFormed 138 = .ok (.iconst 1, 1) := by decide +kernel
theorem zd_PK_isWellFormed_139 : decode zb_PK_isWellFormed 139 = .ok (.goto 4, 3) := by decide +kernel
theorem zd_PK_isWellFormed_142 : decode zb_PK_isWellFormed 142 = .ok (.iconst 0, 1) := by decide +kernel
theorem zd_PK_isWellFormed_143 : decode zb_PK_isWellFormed 143 = .ok (.ireturn, 1) := by decide +kernel
theorem zd_PK_isWellFormed_144 : decode zb_PK_isWellFormed 144 = .ok (.aload_n 0, 1) := by decide +kernel
theorem zd_PK_isWellFormed_145 : decode zb_PK_isWellFormed 145 = .ok (.getfield 15, 3) := by decide +kernel
theorem zd_PK_isWellFormed_148 : decode zb_PK_isWellFormed 148 = .ok (.bipush 14, 2) := by decide +kernel
theorem zd_PK_isWellFormed_150 : decode zb_PK_isWellFormed 150 = .ok (.if_icmp .lt 43, 3) := by decide +kernel
theorem zd_PK_isWellFormed_153 : decode zb_PK_isWellFormed 153 = .ok (.aload_n 0, 1) := by decide +kernel
theorem zd_PK_isWellFormed_154 : decode zb_PK_isWellFormed 154 = .ok (.getfield 11, 3) := by decide +kernel
theorem zd_PK_isWellFormed_157 : decode zb_PK_isWellFormed 157 = .ok (.bipush 12, 2) := by decide +kernel
theorem zd_PK_isWellFormed_159 : decode zb_PK_isWellFormed 159 = .ok (.iaload, 1) := by decide +kernel
theorem zd_PK_isWellFormed_160 : decode zb_PK_isWellFormed 160 = .ok (.iconst 2, 1) := by decide +kernel
theorem zd_PK_isWellFormed_161 : decode zb_PK_isWellFormed 161 = .ok (.aload_n 0, 1) := by decide +kernel
theorem zd_PK_isWellFormed_162 : decode zb_PK_isWellFormed 162 = .ok (.getfield 15, 3) := by decide +kernel
theorem zd_PK_isWellFormed_165 : decode zb_PK_isWellFormed 165 = .ok (.bipush 10, 2) := by decide +kernel
theorem zd_PK_isWellFormed_167 : decode zb_PK_isWellFormed 167 = .ok (.isub, 1) := by decide +kernel
theorem zd_PK_isWellFormed_168 : decode zb_PK_isWellFormed 168 = .ok (.imul, 1) := by decide +kernel
theorem zd_PK_isWellFormed_169 : decode zb_PK_isWellFormed 169 = .ok (.if_icmp .ne 24, 3) := by decide +kernel
theorem zd_PK_isWellFormed_172 : decode zb_PK_isWellFormed 172 = .ok (.aload_n 0, 1) := by decide +kernel
theorem zd_PK_isWellFormed_173 : decode zb_PK_isWellFormed 173 = .ok (.getfield 11, 3) := by decide +kernel
theorem zd_PK_isWellFormed_176 : decode zb_PK_isWellFormed 176 = .ok (.bipush 13, 2) := by decide +kernel
theorem zd_PK_isWellFormed_178 : decode zb_PK_isWellFormed 178 = .ok (.iaload, 1) := by decide +kernel
theorem zd_PK_isWellFormed_179 : decode zb_PK_isWellFormed 179 = .ok (.ifCond .eq 10, 3) := by decide +kernel
theorem zd_PK_isWellFormed_182 : decode zb_PK_isWellFormed 182 = .ok (.aload_n 0, 1) := by decide +kernel
theorem zd_PK_isWellFormed_183 : decode zb_PK_isWellFormed 183 = .ok (.invokevirtual 38, 3) := by decide +kernel
theorem zd_PK_isWellFormed_186 : decode zb_PK_isWellFormed 186 = .ok (.ifCond .eq 7, 3) := by decide +kernel
theorem zd_PK_isWellFormed_189 : decode zb_PK_isWellFormed 189 = .ok (.iconst 1, 1) := by decide +kernel
theorem zd_PK_isWellFormed_190 : decode zb_PK_isWellFormed 190 = .ok (.goto 4, 3) := by decide +kernel
theorem zd_PK_isWellFormed_193 : decode zb_PK_isWellFormed 193 = .ok (.iconst 0, 1) := by decide +kernel
theorem zd_PK_isWellFormed_194 : decode zb_PK_isWellFormed 194 = .ok (.ireturn, 1) := by decide +kernel
theorem zd_PK_isWellFormed_195 : decode zb_PK_isWellFormed 195 = .ok (.aload_n 0, 1) := by decide +kernel
theorem zd_PK_isWellFormed_196 : decode zb_PK_isWellFormed 196 = .ok (.getfield 15, 3) := by decide +kernel
theorem zd_PK_isWellFormed_199 : decode zb_PK_isWellFormed 199 = .ok (.bipush 14, 2) := by decide +kernel
theorem zd_PK_isWellFormed_201 : decode zb_PK_isWellFormed 201 = .ok (.if_icmp .lt 42, 3) := by decide +kernel
theorem zd_PK_isWellFormed_204 : decode zb_PK_isWellFormed 204 = .ok (.aload_n 0, 1) := by decide +kernel
theorem zd_PK_isWellFormed_205 : decode zb_PK_isWellFormed 205 = .ok (.invokevirtual 38, 3) := by decide +kernel
theorem zd_PK_isWellFormed_208 : decode zb_PK_isWellFormed 208 = .ok (.ifCond .eq 35, 3) := by decide +kernel
theorem zd_PK_isWellFormed_211 : decode zb_PK_isWellFormed 211 = .ok (.aload_n 0, 1) := by decide +kernel
theorem zd_PK_isWellFormed_212 : decode zb_PK_isWellFormed 212 = .ok (.invokevirtual 42, 3) := by decide +kernel
theorem zd_PK_isWellFormed_215 : decode zb_PK_isWellFormed 215 = .ok (.ifCond .ne 24, 3) := by decide +kernel
theorem zd_PK_isWellFormed_218 : decode zb_PK_isWellFormed 218 = .ok (.aload_n 0, 1) := by decide +kernel
theorem zd_PK_isWellFormed_219 : decode zb_PK_isWellFormed 219 = .ok (.invokevirtual 45, 3) := by decide +kernel
theorem zd_PK_isWellFormed_222 : decode zb_PK_isWellFormed 222 = .ok (.ifCond .ne 17, 3) := by decide +kernel
theorem zd_PK_isWellFormed_225 : decode zb_PK_isWellFormed 225 = .ok (.aload_n 0, 1) := by decide +kernel
theorem zd_PK_isWellFormed_226 : decode zb_PK_isWellFormed 226 = .ok (.invokevirtual 48, 3) := by decide +kernel
theorem zd_PK_isWellFormed_229 : decode zb_PK_isWellFormed 229 = .ok (.ifCond .eq 14, 3) := by decide +kernel
theorem zd_PK_isWellFormed_232 : decode zb_PK_isWellFormed 232 = .ok (.aload_n 0, 1) := by decide +kernel
theorem zd_PK_isWellFormed_233 : decode zb_PK_isWellFormed 233 = .ok (.invokevirtual 51, 3) := by decide +kernel
theorem zd_PK_isWellFormed_236 : decode zb_PK_isWellFormed 236 = .ok (.ifCond .eq 7, 3) := by decide +kernel
theorem zd_PK_isWellFormed_239 : decode zb_PK_isWellFormed 239 = .ok (.iconst 1, 1) := by decide +kernel
theorem zd_PK_isWellFormed_240 : decode zb_PK_isWellFormed 240 = .ok (.goto 4, 3) := by decide +kernel
theorem zd_PK_isWellFormed_243 : decode zb_PK_isWellFormed 243 = .ok (.iconst 0, 1) := by decide +kernel
theorem zd_PK_isWellFormed_244 : decode zb_PK_isWellFormed 244 = .ok (.ireturn, 1) := by decide +kernel
theorem zd_PK_isWellFormed_245 : decode zb_PK_isWellFormed 245 = .ok (.iconst 0, 1) := by decide +kernel
theorem zd_PK_isWellFormed_246 : decode zb_PK_isWellFormed 246 = .ok (.ireturn, 1) := by decide +kernel
abbrev zb_PK_hasOtherPacket : ByteArray := prog_4_method_7_code
def zy_PK_hasOtherPacket : MethodName := ⟨"PortTranslator$Packet", "hasOtherPacket", "()Z"⟩
theorem zd_PK_hasOtherPacket_0 : decode zb_PK_hasOtherPacket 0 = .ok (.aload_n 0, 1) := by decide +kernel
theorem zd_PK_hasOtherPacket_1 : decode zb_PK_hasOtherPacket 1 = .ok (.getfield 15, 3) := by decide +kernel
theorem zd_PK_hasOtherPacket_4 : decode zb_PK_hasOtherPacket 4 = .ok (.bipush 28, 2) := by decide +kernel
theorem zd_PK_hasOtherPacket_6 : decode zb_PK_hasOtherPacket 6 = .ok (.if_icmp .lt 34, 3) := by decide +kernel
theorem zd_PK_hasOtherPacket_9 : decode zb_PK_hasOtherPacket 9 = .ok (.aload_n 0, 1) := by decide +kernel
theorem zd_PK_hasOtherPacket_10 : decode zb_PK_hasOtherPacket 10 = .ok (.getfield 11, 3) := by decide +kernel
theorem zd_PK_hasOtherPacket_13 : decode zb_PK_hasOtherPacket 13 = .ok (.bipush 14, 2) := by decide +kernel
theorem zd_PK_hasOtherPacket_15 : decode zb_PK_hasOtherPacket 15 = .ok (.iaload, 1) := by decide +kernel
theorem zd_PK_hasOtherPacket_16 : decode zb_PK_hasOtherPacket 16 = .ok (.bipush 8, 2) := by decide +kernel
theorem zd_PK_hasOtherPacket_18 : decode zb_PK_hasOtherPacket 18 = .ok (.ishr, 1) := by decide +kernel
theorem zd_PK_hasOtherPacket_19 : decode zb_PK_hasOtherPacket 19 = .ok (.bipush 69, 2) := by decide +kernel
theorem zd_PK_hasOtherPacket_21 : decode zb_PK_hasOtherPacket 21 = .ok (.if_icmp .ne 19, 3) := by decide +kernel
theorem zd_PK_hasOtherPacket_24 : decode zb_PK_hasOtherPacket 24 = .ok (.aload_n 0, 1) := by decide +kernel
theorem zd_PK_hasOtherPacket_25 : decode zb_PK_hasOtherPacket 25 = .ok (.bipush 14, 2) := by decide +kernel
theorem zd_PK_hasOtherPacket_27 : decode zb_PK_hasOtherPacket 27 = .ok (.invokevirtual 35, 3) := by decide +kernel
theorem zd_PK_hasOtherPacket_30 : decode zb_PK_hasOtherPacket 30 = .ok (.invokestatic 54, 3) := by decide +kernel
theorem zd_PK_hasOtherPacket_33 : decode zb_PK_hasOtherPacket 33 = .ok (.ifCond .eq 7, 3) := by decide +kernel
theorem zd_PK_hasOtherPacket_36 : decode zb_PK_hasOtherPacket 36 = .ok (.iconst 1, 1) := by decide +kernel
theorem zd_PK_hasOtherPacket_37 : decode zb_PK_hasOtherPacket 37 = .ok (.goto 4, 3) := by decide +kernel
theorem zd_PK_hasOtherPacket_40 : decode zb_PK_hasOtherPacket 40 = .ok (.iconst 0, 1) := by decide +kernel
theorem zd_PK_hasOtherPacket_41 : decode zb_PK_hasOtherPacket 41 = .ok (.ireturn, 1) := by decide +kernel
abbrev zb_PK_kindAt : ByteArray := prog_4_method_8_code
def zy_PK_kindAt : MethodName := ⟨"PortTranslator$Packet", "kindAt", "(I)I"⟩
theorem zd_PK_kindAt_0 : decode zb_PK_kindAt 0 = .ok (.aload_n 0, 1) := by decide +kernel
theorem zd_PK_kindAt_1 : decode zb_PK_kindAt 1 = .ok (.getfield 11, 3) := by decide +kernel
theorem zd_PK_kindAt_4 : decode zb_PK_kindAt 4 = .ok (.iload_n 1, 1) := by decide +kernel
theorem zd_PK_kindAt_5 : decode zb_PK_kindAt 5 = .ok (.iconst 4, 1) := by decide +kernel
theorem zd_PK_kindAt_6 : decode zb_PK_kindAt 6 = .ok (.iadd, 1) := by decide +kernel
theorem zd_PK_kindAt_7 : decode zb_PK_kindAt 7 = .ok (.iaload, 1) := by decide +kernel
theorem zd_PK_kindAt_8 : decode zb_PK_kindAt 8 = .ok (.sipush 255, 3) := by decide +kernel
theorem zd_PK_kindAt_11 : decode zb_PK_kindAt 11 = .ok (.iand, 1) := by decide +kernel
theorem zd_PK_kindAt_12 : decode zb_PK_kindAt 12 = .ok (.ireturn, 1) := by decide +kernel
abbrev zb_PK_time : ByteArray := prog_4_method_9_code
def zy_PK_time : MethodName := ⟨"PortTranslator$Packet", "time", "()I"⟩
theorem zd_PK_time_0 : decode zb_PK_time 0 = .ok (.aload_n 0, 1) := by decide +kernel
theorem zd_PK_time_1 : decode zb_PK_time 1 = .ok (.getfield 11, 3) := by decide +kernel
theorem zd_PK_time_4 : decode zb_PK_time 4 = .ok (.iconst 4, 1) := by decide +kernel
theorem zd_PK_time_5 : decode zb_PK_time 5 = .ok (.iaload, 1) := by decide +kernel
theorem zd_PK_time_6 : decode zb_PK_time 6 = .ok (.bipush 8, 2) := by decide +kernel
theorem zd_PK_time_8 : decode zb_PK_time 8 = .ok (.ishr, 1) := by decide +kernel
theorem zd_PK_time_9 : decode zb_PK_time 9 = .ok (.ireturn, 1) := by decide +kernel
abbrev zb_PK_lowerTime : ByteArray := prog_4_method_10_code
def zy_PK_lowerTime : MethodName := ⟨"PortTranslator$Packet", "lowerTime", "()V"⟩
theorem zd_PK_lowerTime_0 : decode zb_PK_lowerTime 0 = .ok (.aload_n 0, 1) := by decide +kernel
theorem zd_PK_lowerTime_1 : decode zb_PK_lowerTime 1 = .ok (.getfield 11, 3) := by decide +kernel
theorem zd_PK_lowerTime_4 : decode zb_PK_lowerTime 4 = .ok (.iconst 4, 1) := by decide +kernel
theorem zd_PK_lowerTime_5 : decode zb_PK_lowerTime 5 = .ok (.dup2, 1) := by decide +kernel
theorem zd_PK_lowerTime_6 : decode zb_PK_lowerTime 6 = .ok (.iaload, 1) := by decide +kernel
theorem zd_PK_lowerTime_7 : decode zb_PK_lowerTime 7 = .ok (.sipush 256, 3) := by decide +kernel
theorem zd_PK_lowerTime_10 : decode zb_PK_lowerTime 10 = .ok (.isub, 1) := by decide +kernel
theorem zd_PK_lowerTime_11 : decode zb_PK_lowerTime 11 = .ok (.iastore, 1) := by decide +kernel
theorem zd_PK_lowerTime_12 : decode zb_PK_lowerTime 12 = .ok (.return_, 1) := by decide +kernel
abbrev zb_PK_flags : ByteArray := prog_4_method_11_code
def zy_PK_flags : MethodName := ⟨"PortTranslator$Packet", "flags", "()I"⟩
theorem zd_PK_flags_0 : decode zb_PK_flags 0 = .ok (.aload_n 0, 1) := by decide +kernel
theorem zd_PK_flags_1 : decode zb_PK_flags 1 = .ok (.getfield 11, 3) := by decide +kernel
theorem zd_PK_flags_4 : decode zb_PK_flags 4 = .ok (.bipush 16, 2) := by decide +kernel
theorem zd_PK_flags_6 : decode zb_PK_flags 6 = .ok (.iaload, 1) := by decide +kernel
theorem zd_PK_flags_7 : decode zb_PK_flags 7 = .ok (.ireturn, 1) := by decide +kernel
abbrev zb_PK_isEchoRequest : ByteArray := prog_4_method_12_code
def zy_PK_isEchoRequest : MethodName := ⟨"PortTranslator$Packet", "isEchoRequest", "()Z"⟩
theorem zd_PK_isEchoRequest_0 : decode zb_PK_isEchoRequest 0 = .ok (.aload_n 0, 1) := by decide +kernel
theorem zd_PK_isEchoRequest_1 : decode zb_PK_isEchoRequest 1 = .ok (.iconst 0, 1) := by decide +kernel
theorem zd_PK_isEchoRequest_2 : decode zb_PK_isEchoRequest 2 = .ok (.invokevirtual 35, 3) := by decide +kernel
theorem zd_PK_isEchoRequest_5 : decode zb_PK_isEchoRequest 5 = .ok (.iconst 1, 1) := by decide +kernel
theorem zd_PK_isEchoRequest_6 : decode zb_PK_isEchoRequest 6 = .ok (.if_icmp .ne 20, 3) := by decide +kernel
theorem zd_PK_isEchoRequest_9 : decode zb_PK_isEchoRequest 9 = .ok (.aload_n 0, 1) := by decide +kernel
theorem zd_PK_isEchoRequest_10 : decode zb_PK_isEchoRequest 10 = .ok (.getfield 11, 3) := by decide +kernel
theorem zd_PK_isEchoRequest_13 : decode zb_PK_isEchoRequest 13 = .ok (.bipush 10, 2) := by decide +kernel
theorem zd_PK_isEchoRequest_15 : decode zb_PK_isEchoRequest 15 = .ok (.iaload, 1) := by decide +kernel
theorem zd_PK_isEchoRequest_16 : decode zb_PK_isEchoRequest 16 = .ok (.sipush 2048, 3) := by decide +kernel
theorem zd_PK_isEchoRequest_19 : decode zb_PK_isEchoRequest 19 = .ok (.if_icmp .ne 7, 3) := by decide +kernel
theorem zd_PK_isEchoRequest_22 : decode zb_PK_isEchoRequest 22 = .ok (.iconst 1, 1) := by decide +kernel
theorem zd_PK_isEchoRequest_23 : decode zb_PK_isEchoRequest 23 = .ok (.goto 4, 3) := by decide +kernel
theorem zd_PK_isEchoRequest_26 : decode zb_PK_isEchoRequest 26 = .ok (.iconst 0, 1) := by decide +kernel
theorem zd_PK_isEchoRequest_27 : decode zb_PK_isEchoRequest 27 = .ok (.ireturn, 1) := by decide +kernel
abbrev zb_PK_isEchoReply : ByteArray := prog_4_method_13_code
def zy_PK_isEchoReply : MethodName := ⟨"PortTranslator$Packet", "isEchoReply", "()Z"⟩
theorem zd_PK_isEchoReply_0 : decode zb_PK_isEchoReply 0 = .ok (.aload_n 0, 1) := by decide +kernel
theorem zd_PK_isEchoReply_1 : decode zb_PK_isEchoReply 1 = .ok (.iconst 0, 1) := by decide +kernel
theorem zd_PK_isEchoReply_2 : decode zb_PK_isEchoReply 2 = .ok (.invokevirtual 35, 3) := by decide +kernel
theorem zd_PK_isEchoReply_5 : decode zb_PK_isEchoReply 5 = .ok (.iconst 1, 1) := by decide +kernel
theorem zd_PK_isEchoReply_6 : decode zb_PK_isEchoReply 6 = .ok (.if_icmp .ne 17, 3) := by decide +kernel
theorem zd_PK_isEchoReply_9 : decode zb_PK_isEchoReply 9 = .ok (.aload_n 0, 1) := by decide +kernel
theorem zd_PK_isEchoReply_10 : decode zb_PK_isEchoReply 10 = .ok (.getfield 11, 3) := by decide +kernel
theorem zd_PK_isEchoReply_13 : decode zb_PK_isEchoReply 13 = .ok (.bipush 10, 2) := by decide +kernel
theorem zd_PK_isEchoReply_15 : decode zb_PK_isEchoReply 15 = .ok (.iaload, 1) := by decide +kernel
theorem zd_PK_isEchoReply_16 : decode zb_PK_isEchoReply 16 = .ok (.ifCond .ne 7, 3) := by decide +kernel
theorem zd_PK_isEchoReply_19 : decode zb_PK_isEchoReply 19 = .ok (.iconst 1, 1) := by decide +kernel
theorem zd_PK_isEchoReply_20 : decode zb_PK_isEchoReply 20 = .ok (.goto 4, 3) := by decide +kernel
theorem zd_PK_isEchoReply_23 : decode zb_PK_isEchoReply 23 = .ok (.iconst 0, 1) := by decide +kernel
theorem zd_PK_isEchoReply_24 : decode zb_PK_isEchoReply 24 = .ok (.ireturn, 1) := by decide +kernel
abbrev zb_PK_isError : ByteArray := prog_4_method_14_code
def zy_PK_isError : MethodName := ⟨"PortTranslator$Packet", "isError", "()Z"⟩
theorem zd_PK_isError_0 : decode zb_PK_isError 0 = .ok (.aload_n 0, 1) := by decide +kernel
theorem zd_PK_isError_1 : decode zb_PK_isError 1 = .ok (.getfield 11, 3) := by decide +kernel
theorem zd_PK_isError_4 : decode zb_PK_isError 4 = .ok (.bipush 10, 2) := by decide +kernel
theorem zd_PK_isError_6 : decode zb_PK_isError 6 = .ok (.iaload, 1) := by decide +kernel
theorem zd_PK_isError_7 : decode zb_PK_isError 7 = .ok (.bipush 8, 2) := by decide +kernel
theorem zd_PK_isError_9 : decode zb_PK_isError 9 = .ok (.ishr, 1) := by decide +kernel
theorem zd_PK_isError_10 : decode zb_PK_isError 10 = .ok (.istore_n 1, 1) := by decide +kernel
theorem zd_PK_isError_11 : decode zb_PK_isError 11 = .ok (.aload_n 0, 1) := by decide +kernel
theorem zd_PK_isError_12 : decode zb_PK_isError 12 = .ok (.iconst 0, 1) := by decide +kernel
theorem zd_PK_isError_13 : decode zb_PK_isError 13 = .ok (.invokevirtual 35, 3) := by decide +kernel
theorem zd_PK_isError_16 : decode zb_PK_isError 16 = .ok (.iconst 1, 1) := by decide +kernel
theorem zd_PK_isError_17 : decode zb_PK_isError 17 = .ok (.if_icmp .ne 18, 3) := by decide +kernel
theorem zd_PK_isError_20 : decode zb_PK_isError 20 = .ok (.iload_n 1, 1) := by decide +kernel
theorem zd_PK_isError_21 : decode zb_PK_isError 21 = .ok (.iconst 3, 1) := by decide +kernel
theorem zd_PK_isError_22 : decode zb_PK_isError 22 = .ok (.if_icmp .eq 9, 3) := by decide +kernel
theorem zd_PK_isError_25 : decode zb_PK_isError 25 = .ok (.iload_n 1, 1) := by decide +kernel
theorem zd_PK_isError_26 : decode zb_PK_isError 26 = .ok (.bipush 11, 2) := by decide +kernel
theorem zd_PK_isError_28 : decode zb_PK_isError 28 = .ok (.if_icmp .ne 7, 3) := by decide +kernel
theorem zd_PK_isError_31 : decode zb_PK_isError 31 = .ok (.iconst 1, 1) := by decide +kernel
theorem zd_PK_isError_32 : decode zb_PK_isError 32 = .ok (.goto 4, 3) := by decide +kernel
theorem zd_PK_isError_35 : decode zb_PK_isError 35 = .ok (.iconst 0, 1) := by decide +kernel
theorem zd_PK_isError_36 : decode zb_PK_isError 36 = .ok (.ireturn, 1) := by decide +kernel
abbrev zb_PK_address : ByteArray := prog_4_method_15_code
def zy_PK_address : MethodName := ⟨"PortTranslator$Packet", "address", "(I)I"⟩
theorem zd_PK_address_0 : decode zb_PK_address 0 = .ok (.aload_n 0, 1) := by decide +kernel
theorem zd_PK_address_1 : decode zb_PK_address 1 = .ok (.getfield 11, 3) := by decide +kernel
theorem zd_PK_address_4 : decode zb_PK_address 4 = .ok (.iload_n 1, 1) := by decide +kernel
theorem zd_PK_address_5 : decode zb_PK_address 5 = .ok (.iaload, 1) := by decide +kernel
theorem zd_PK_address_6 : decode zb_PK_address 6 = .ok (.bipush 16, 2) := by decide +kernel
theorem zd_PK_address_8 : decode zb_PK_address 8 = .ok (.ishl, 1) := by decide +kernel
theorem zd_PK_address_9 : decode zb_PK_address 9 = .ok (.aload_n 0, 1) := by decide +kernel
theorem zd_PK_address_10 : decode zb_PK_address 10 = .ok (.getfield 11, 3) := by decide +kernel
theorem zd_PK_address_13 : decode zb_PK_address 13 = .ok (.iload_n 1, 1) := by decide +kernel
theorem zd_PK_address_14 : decode zb_PK_address 14 = .ok (.iconst 1, 1) := by decide +kernel
theorem zd_PK_address_15 : decode zb_PK_address 15 = .ok (.iadd, 1) := by decide +kernel
theorem zd_PK_address_16 : decode zb_PK_address 16 = .ok (.iaload, 1) := by decide +kernel
theorem zd_PK_address_17 : decode zb_PK_address 17 = .ok (.ior, 1) := by decide +kernel
theorem zd_PK_address_18 : decode zb_PK_address 18 = .ok (.ireturn, 1) := by decide +kernel
abbrev zb_PK_setAddress : ByteArray := prog_4_method_16_code
def zy_PK_setAddress : MethodName := ⟨"PortTranslator$Packet", "setAddress", "(II)V"⟩
theorem zd_PK_setAddress_0 : decode zb_PK_setAddress 0 = .ok (.aload_n 0, 1) := by decide +kernel
theorem zd_PK_setAddress_1 : decode zb_PK_setAddress 1 = .ok (.getfield 11, 3) := by decide +kernel
theorem zd_PK_setAddress_4 : decode zb_PK_setAddress 4 = .ok (.iload_n 1, 1) := by decide +kernel
theorem zd_PK_setAddress_5 : decode zb_PK_setAddress 5 = .ok (.iload_n 2, 1) := by decide +kernel
theorem zd_PK_setAddress_6 : decode zb_PK_setAddress 6 = .ok (.bipush 16, 2) := by decide +kernel
theorem zd_PK_setAddress_8 : decode zb_PK_setAddress 8 = .ok (.iushr, 1) := by decide +kernel
theorem zd_PK_setAddress_9 : decode zb_PK_setAddress 9 = .ok (.iastore, 1) := by decide +kernel
theorem zd_PK_setAddress_10 : decode zb_PK_setAddress 10 = .ok (.aload_n 0, 1) := by decide +kernel
theorem zd_PK_setAddress_11 : decode zb_PK_setAddress 11 = .ok (.getfield 11, 3) := by decide +kernel
theorem zd_PK_setAddress_14 : decode zb_PK_setAddress 14 = .ok (.iload_n 1, 1) := by decide +kernel
theorem zd_PK_setAddress_15 : decode zb_PK_setAddress 15 = .ok (.iconst 1, 1) := by decide +kernel
theorem zd_PK_setAddress_16 : decode zb_PK_setAddress 16 = .ok (.iadd, 1) := by decide +kernel
theorem zd_PK_setAddress_17 : decode zb_PK_setAddress 17 = .ok (.iload_n 2, 1) := by decide +kernel
theorem zd_PK_setAddress_18 : decode zb_PK_setAddress 18 = .ok (.ldc 34, 2) := by decide +kernel
theorem zd_PK_setAddress_20 : decode zb_PK_setAddress 20 = .ok (.iand, 1) := by decide +kernel
theorem zd_PK_setAddress_21 : decode zb_PK_setAddress 21 = .ok (.iastore, 1) := by decide +kernel
theorem zd_PK_setAddress_22 : decode zb_PK_setAddress 22 = .ok (.return_, 1) := by decide +kernel
abbrev zb_PK_adjustOther : ByteArray := prog_4_method_17_code
def zy_PK_adjustOther : MethodName := ⟨"PortTranslator$Packet", "adjustOther", "(II)V"⟩
theorem zd_PK_adjustOther_0 : decode zb_PK_adjustOther 0 = .ok (.aload_n 0, 1) := by decide +kernel
theorem zd_PK_adjustOther_1 : decode zb_PK_adjustOther 1 = .ok (.bipush 19, 2) := by decide +kernel
theorem zd_PK_adjustOther_3 : decode zb_PK_adjustOther 3 = .ok (.iload_n 1, 1) := by decide +kernel
theorem zd_PK_adjustOther_4 : decode zb_PK_adjustOther 4 = .ok (.invokevirtual 58, 3) := by decide +kernel
theorem zd_PK_adjustOther_7 : decode zb_PK_adjustOther 7 = .ok (.aload_n 0, 1) := by decide +kernel
theorem zd_PK_adjustOther_8 : decode zb_PK_adjustOther 8 = .ok (.bipush 14, 2) := by decide +kernel
theorem zd_PK_adjustOther_10 : decode zb_PK_adjustOther 10 = .ok (.invokevirtual 35, 3) := by decide +kernel
theorem zd_PK_adjustOther_13 : decode zb_PK_adjustOther 13 = .ok (.istore_n 3, 1) := by decide +kernel
theorem zd_PK_adjustOther_14 : decode zb_PK_adjustOther 14 = .ok (.iload_n 3, 1) := by decide +kernel
theorem zd_PK_adjustOther_15 : decode zb_PK_adjustOther 15 = .ok (.bipush 17, 2) := by decide +kernel
theorem zd_PK_adjustOther_17 : decode zb_PK_adjustOther 17 = .ok (.if_icmp .ne 25, 3) := by decide +kernel
theorem zd_PK_adjustOther_20 : decode zb_PK_adjustOther 20 = .ok (.aload_n 0, 1) := by decide +kernel
theorem zd_PK_adjustOther_21 : decode zb_PK_adjustOther 21 = .ok (.getfield 11, 3) := by decide +kernel
theorem zd_PK_adjustOther_24 : decode zb_PK_adjustOther 24 = .ok (.bipush 27, 2) := by decide +kernel
theorem zd_PK_adjustOther_26 : decode zb_PK_adjustOther 26 = .ok (.iaload, 1) := by decide +kernel
theorem zd_PK_adjustOther_27 : decode zb_PK_adjustOther 27 = .ok (.ifCond .eq 15, 3) := by decide +kernel
theorem zd_PK_adjustOther_30 : decode zb_PK_adjustOther 30 = .ok (.aload_n 0, 1) := by decide +kernel
theorem zd_PK_adjustOther_31 : decode zb_PK_adjustOther 31 = .ok (.bipush 27, 2) := by decide +kernel
theorem zd_PK_adjustOther_33 : decode zb_PK_adjustOther 33 = .ok (.iload_n 1, 1) := by decide +kernel
theorem zd_PK_adjustOther_34 : decode zb_PK_adjustOther 34 = .ok (.iload_n 2, 1) := by decide +kernel
theorem zd_PK_adjustOther_35 : decode zb_PK_adjustOther 35 = .ok (.iadd, 1) := by decide +kernel
theorem zd_PK_adjustOther_36 : decode zb_PK_adjustOther 36 = .ok (.invokevirtual 58, 3) := by decide +kernel
theorem zd_PK_adjustOther_39 : decode zb_PK_adjustOther 39 = .ok (.goto 15, 3) := by decide +kernel
theorem zd_PK_adjustOther_42 : decode zb_PK_adjustOther 42 = .ok (.iload_n 3, 1) := by decide +kernel
theorem zd_PK_adjustOther_43 : decode zb_PK_adjustOther 43 = .ok (.iconst 1, 1) := by decide +kernel
theorem zd_PK_adjustOther_44 : decode zb_PK_adjustOther 44 = .ok (.if_icmp .ne 10, 3) := by decide +kernel
theorem zd_PK_adjustOther_47 : decode zb_PK_adjustOther 47 = .ok (.aload_n 0, 1) := by decide +kernel
theorem zd_PK_adjustOther_48 : decode zb_PK_adjustOther 48 = .ok (.bipush 25, 2) := by decide +kernel
theorem zd_PK_adjustOther_50 : decode zb_PK_adjustOther 50 = .ok (.iload_n 2, 1) := by decide +kernel
theorem zd_PK_adjustOther_51 : decode zb_PK_adjustOther 51 = .ok (.invokevirtual 58, 3) := by decide +kernel
theorem zd_PK_adjustOther_54 : decode zb_PK_adjustOther 54 = .ok (.return_, 1) := by decide +kernel
abbrev zb_PK_adjust : ByteArray := prog_4_method_18_code
def zy_PK_adjust : MethodName := ⟨"PortTranslator$Packet", "adjust", "(II)V"⟩
theorem zd_PK_adjust_0 : decode zb_PK_adjust 0 = .ok (.aload_n 0, 1) := by decide +kernel
theorem zd_PK_adjust_1 : decode zb_PK_adjust 1 = .ok (.getfield 11, 3) := by decide +kernel
theorem zd_PK_adjust_4 : decode zb_PK_adjust 4 = .ok (.iload_n 1, 1) := by decide +kernel
theorem zd_PK_adjust_5 : decode zb_PK_adjust 5 = .ok (.ldc 34, 2) := by decide +kernel
theorem zd_PK_adjust_7 : decode zb_PK_adjust 7 = .ok (.ldc 34, 2) := by decide +kernel
theorem zd_PK_adjust_9 : decode zb_PK_adjust 9 = .ok (.aload_n 0, 1) := by decide +kernel
theorem zd_PK_adjust_10 : decode zb_PK_adjust 10 = .ok (.getfield 11, 3) := by decide +kernel
theorem zd_PK_adjust_13 : decode zb_PK_adjust 13 = .ok (.iload_n 1, 1) := by decide +kernel
theorem zd_PK_adjust_14 : decode zb_PK_adjust 14 = .ok (.iaload, 1) := by decide +kernel
theorem zd_PK_adjust_15 : decode zb_PK_adjust 15 = .ok (.isub, 1) := by decide +kernel
theorem zd_PK_adjust_16 : decode zb_PK_adjust 16 = .ok (.iload_n 2, 1) := by decide +kernel
theorem zd_PK_adjust_17 : decode zb_PK_adjust 17 = .ok (.iadd, 1) := by decide +kernel
theorem zd_PK_adjust_18 : decode zb_PK_adjust 18 = .ok (.invokestatic 30, 3) := by decide +kernel
theorem zd_PK_adjust_21 : decode zb_PK_adjust 21 = .ok (.isub, 1) := by decide +kernel
theorem zd_PK_adjust_22 : decode zb_PK_adjust 22 = .ok (.iastore, 1) := by decide +kernel
theorem zd_PK_adjust_23 : decode zb_PK_adjust 23 = .ok (.return_, 1) := by decide +kernel
abbrev zb_PK_writeChecksums : ByteArray := prog_4_method_19_code
def zy_PK_writeChecksums : MethodName := ⟨"PortTranslator$Packet", "writeChecksums", "()V"⟩
theorem zd_PK_writeChecksums_0 : decode zb_PK_writeChecksums 0 = .ok (.aload_n 0, 1) := by decide +kernel
theorem zd_PK_writeChecksums_1 : decode zb_PK_writeChecksums 1 = .ok (.getfield 11, 3) := by decide +kernel
theorem zd_PK_writeChecksums_4 : decode zb_PK_writeChecksums 4 = .ok (.iconst 5, 1) := by decide +kernel
theorem zd_PK_writeChecksums_5 : decode zb_PK_writeChecksums 5 = .ok (.iconst 0, 1) := by decide +kernel
theorem zd_PK_writeChecksums_6 : decode zb_PK_writeChecksums 6 = .ok (.iastore, 1) := by decide +kernel
theorem zd_PK_writeChecksums_7 : decode zb_PK_writeChecksums 7 = .ok (.aload_n 0, 1) := by decide +kernel
theorem zd_PK_writeChecksums_8 : decode zb_PK_writeChecksums 8 = .ok (.getfield 11, 3) := by decide +kernel
theorem zd_PK_writeChecksums_11 : decode zb_PK_writeChecksums 11 = .ok (.iconst 5, 1) := by decide +kernel
theorem zd_PK_writeChecksums_12 : decode zb_PK_writeChecksums 12 = .ok (.ldc 34, 2) := by decide +kernel
theorem zd_PK_writeChecksums_14 : decode zb_PK_writeChecksums 14 = .ok (.aload_n 0, 1) := by decide +kernel
theorem zd_PK_writeChecksums_15 : decode zb_PK_writeChecksums 15 = .ok (.iconst 0, 1) := by decide +kernel
theorem zd_PK_writeChecksums_16 : decode zb_PK_writeChecksums 16 = .ok (.bipush 10, 2) := by decide +kernel
theorem zd_PK_writeChecksums_18 : decode zb_PK_writeChecksums 18 = .ok (.invokevirtual 26, 3) := by decide +kernel
theorem zd_PK_writeChecksums_21 : decode zb_PK_writeChecksums 21 = .ok (.invokestatic 30, 3) := by decide +kernel
theorem zd_PK_writeChecksums_24 : decode zb_PK_writeChecksums 24 = .ok (.isub, 1) := by decide +kernel
theorem zd_PK_writeChecksums_25 : decode zb_PK_writeChecksums 25 = .ok (.iastore, 1) := by decide +kernel
theorem zd_PK_writeChecksums_26 : decode zb_PK_writeChecksums 26 = .ok (.aload_n 0, 1) := by decide +kernel
theorem zd_PK_writeChecksums_27 : decode zb_PK_writeChecksums 27 = .ok (.iconst 0, 1) := by decide +kernel
theorem zd_PK_writeChecksums_28 : decode zb_PK_writeChecksums 28 = .ok (.invokevirtual 35, 3) := by decide +kernel
theorem zd_PK_writeChecksums_31 : decode zb_PK_writeChecksums 31 = .ok (.istore_n 1, 1) := by decide +kernel
theorem zd_PK_writeChecksums_32 : decode zb_PK_writeChecksums 32 = .ok (.iload_n 1, 1) := by decide +kernel
theorem zd_PK_writeChecksums_33 : decode zb_PK_writeChecksums 33 = .ok (.bipush 6, 2) := by decide +kernel
theorem zd_PK_writeChecksums_35 : decode zb_PK_writeChecksums 35 = .ok (.if_icmp .ne 12, 3) := by decide +kernel
theorem zd_PK_writeChecksums_38 : decode zb_PK_writeChecksums 38 = .ok (.aload_n 0, 1) := by decide +kernel
theorem zd_PK_writeChecksums_39 : decode zb_PK_writeChecksums 39 = .ok (.bipush 18, 2) := by decide +kernel
theorem zd_PK_writeChecksums_41 : decode zb_PK_writeChecksums 41 = .ok (.invokevirtual 62, 3) := by decide +kernel
theorem zd_PK_writeChecksums_44 : decode zb_PK_writeChecksums 44 = .ok (.goto 52, 3) := by decide +kernel
theorem zd_PK_writeChecksums_47 : decode zb_PK_writeChecksums 47 = .ok (.iload_n 1, 1) := by decide +kernel
theorem zd_PK_writeChecksums_48 : decode zb_PK_writeChecksums 48 = .ok (.iconst 1, 1) := by decide +kernel
theorem zd_PK_writeChecksums_49 : decode zb_PK_writeChecksums 49 = .ok (.if_icmp .ne 12, 3) := by decide +kernel
theorem zd_PK_writeChecksums_52 : decode zb_PK_writeChecksums 52 = .ok (.aload_n 0, 1) := by decide +kernel
theorem zd_PK_writeChecksums_53 : decode zb_PK_writeChecksums 53 = .ok (.bipush 11, 2) := by decide +kernel
theorem zd_PK_writeChecksums_55 : decode zb_PK_writeChecksums 55 = .ok (.invokevirtual 62, 3) := by decide +kernel
theorem zd_PK_writeChecksums_58 : decode zb_PK_writeChecksums 58 = .ok (.goto 38, 3) := by decide +kernel
theorem zd_PK_writeChecksums_61 : decode zb_PK_writeChecksums 61 = .ok (.aload_n 0, 1) := by decide +kernel
theorem zd_PK_writeChecksums_62 : decode zb_PK_writeChecksums 62 = .ok (.getfield 11, 3) := by decide +kernel
theorem zd_PK_writeChecksums_65 : decode zb_PK_writeChecksums 65 = .ok (.bipush 13, 2) := by decide +kernel
theorem zd_PK_writeChecksums_67 : decode zb_PK_writeChecksums 67 = .ok (.iaload, 1) := by decide +kernel
theorem zd_PK_writeChecksums_68 : decode zb_PK_writeChecksums 68 = .ok (.ifCond .eq 28, 3) := by decide +kernel
theorem zd_PK_writeChecksums_71 : decode zb_PK_writeChecksums 71 = .ok (.aload_n 0, 1) := by decide +kernel
theorem zd_PK_writeChecksums_72 : decode zb_PK_writeChecksums 72 = .ok (.bipush 13, 2) := by decide +kernel
theorem zd_PK_writeChecksums_74 : decode zb_PK_writeChecksums 74 = .ok (.invokevirtual 62, 3) := by decide +kernel
theorem zd_PK_writeChecksums_77 : decode zb_PK_writeChecksums 77 = .ok (.aload_n 0, 1) := by decide +kernel
theorem zd_PK_writeChecksums_78 : decode zb_PK_writeChecksums 78 = .ok (.getfield 11, 3) := by decide +kernel
theorem zd_PK_writeChecksums_81 : decode zb_PK_writeChecksums 81 = .ok (.bipush 13, 2) := by decide +kernel
theorem zd_PK_writeChecksums_83 : decode zb_PK_writeChecksums 83 = .ok (.iaload, 1) := by decide +kernel
theorem zd_PK_writeChecksums_84 : decode zb_PK_writeChecksums 84 = .ok (.ifCond .ne 12, 3) := by decide +kernel
theorem zd_PK_writeChecksums_87 : decode zb_PK_writeChecksums 87 = .ok (.aload_n 0, 1) := by decide +kernel
theorem zd_PK_writeChecksums_88 : decode zb_PK_writeChecksums 88 = .ok (.getfield 11, 3) := by decide +kernel
theorem zd_PK_writeChecksums_91 : decode zb_PK_writeChecksums 91 = .ok (.bipush 13, 2) := by decide +kernel
theorem zd_PK_writeChecksums_93 : decode zb_PK_writeChecksums 93 = .ok (.ldc 34, 2) := by decide +kernel
theorem zd_PK_writeChecksums_95 : decode zb_PK_writeChecksums 95 = .ok (.iastore, 1) := by decide +kernel
theorem zd_PK_writeChecksums_96 : decode zb_PK_writeChecksums 96 = .ok (.return_, 1) := by decide +kernel
abbrev zb_PK_writeBodyChecksum : ByteArray := prog_4_method_20_code
def zy_PK_writeBodyChecksum : MethodName := ⟨"PortTranslator$Packet", "writeBodyChecksum", "(I)V"⟩
theorem zd_PK_writeBodyChecksum_0 : decode zb_PK_writeBodyChecksum 0 = .ok (.aload_n 0, 1) := by decide +kernel
theorem zd_PK_writeBodyChecksum_1 : decode zb_PK_writeBodyChecksum 1 = .ok (.getfield 11, 3) := by decide +kernel
theorem zd_PK_writeBodyChecksum_4 : decode zb_PK_writeBodyChecksum 4 = .ok (.iload_n 1, 1) := by decide +kernel
theorem zd_PK_writeBodyChecksum_5 : decode zb_PK_writeBodyChecksum 5 = .ok (.iconst 0, 1) := by decide +kernel
theorem zd_PK_writeBodyChecksum_6 : decode zb_PK_writeBodyChecksum 6 = .ok (.iastore, 1) := by decide +kernel
theorem zd_PK_writeBodyChecksum_7 : decode zb_PK_writeBodyChecksum 7 = .ok (.aload_n 0, 1) := by decide +kernel
theorem zd_PK_writeBodyChecksum_8 : decode zb_PK_writeBodyChecksum 8 = .ok (.getfield 11, 3) := by decide +kernel
theorem zd_PK_writeBodyChecksum_11 : decode zb_PK_writeBodyChecksum 11 = .ok (.iload_n 1, 1) := by decide +kernel
theorem zd_PK_writeBodyChecksum_12 : decode zb_PK_writeBodyChecksum 12 = .ok (.ldc 34, 2) := by decide +kernel
theorem zd_PK_writeBodyChecksum_14 : decode zb_PK_writeBodyChecksum 14 = .ok (.aload_n 0, 1) := by decide +kernel
theorem zd_PK_writeBodyChecksum_15 : decode zb_PK_writeBodyChecksum 15 = .ok (.invokevirtual 66, 3) := by decide +kernel
theorem zd_PK_writeBodyChecksum_18 : decode zb_PK_writeBodyChecksum 18 = .ok (.invokestatic 30, 3) := by decide +kernel
theorem zd_PK_writeBodyChecksum_21 : decode zb_PK_writeBodyChecksum 21 = .ok (.isub, 1) := by decide +kernel
theorem zd_PK_writeBodyChecksum_22 : decode zb_PK_writeBodyChecksum 22 = .ok (.iastore, 1) := by decide +kernel
theorem zd_PK_writeBodyChecksum_23 : decode zb_PK_writeBodyChecksum 23 = .ok (.return_, 1) := by decide +kernel
abbrev zb_PK_bodyAgrees : ByteArray := prog_4_method_21_code
def zy_PK_bodyAgrees : MethodName := ⟨"PortTranslator$Packet", "bodyAgrees", "()Z"⟩
theorem zd_PK_bodyAgrees_0 : decode zb_PK_bodyAgrees 0 = .ok (.aload_n 0, 1) := by decide +kernel
theorem zd_PK_bodyAgrees_1 : decode zb_PK_bodyAgrees 1 = .ok (.invokevirtual 66, 3) := by decide +kernel
theorem zd_PK_bodyAgrees_4 : decode zb_PK_bodyAgrees 4 = .ok (.invokestatic 30, 3) := by decide +kernel
theorem zd_PK_bodyAgrees_7 : decode zb_PK_bodyAgrees 7 = .ok (.ldc 34, 2) := by decide +kernel
theorem zd_PK_bodyAgrees_9 : decode zb_PK_bodyAgrees 9 = .ok (.if_icmp .ne 7, 3) := by decide +kernel
theorem zd_PK_bodyAgrees_12 : decode zb_PK_bodyAgrees 12 = .ok (.iconst 1, 1) := by decide +kernel
theorem zd_PK_bodyAgrees_13 : decode zb_PK_bodyAgrees 13 = .ok (.goto 4, 3) := by decide +kernel
theorem zd_PK_bodyAgrees_16 : decode zb_PK_bodyAgrees 16 = .ok (.iconst 0, 1) := by decide +kernel
theorem zd_PK_bodyAgrees_17 : decode zb_PK_bodyAgrees 17 = .ok (.ireturn, 1) := by decide +kernel
abbrev zb_PK_bodyTotal : ByteArray := prog_4_method_22_code
def zy_PK_bodyTotal : MethodName := ⟨"PortTranslator$Packet", "bodyTotal", "()I"⟩
theorem zd_PK_bodyTotal_0 : decode zb_PK_bodyTotal 0 = .ok (.aload_n 0, 1) := by decide +kernel
theorem zd_PK_bodyTotal_1 : decode zb_PK_bodyTotal 1 = .ok (.iconst 0, 1) := by decide +kernel
theorem zd_PK_bodyTotal_2 : decode zb_PK_bodyTotal 2 = .ok (.invokevirtual 35, 3) := by decide +kernel
theorem zd_PK_bodyTotal_5 : decode zb_PK_bodyTotal 5 = .ok (.istore_n 1, 1) := by decide +kernel
theorem zd_PK_bodyTotal_6 : decode zb_PK_bodyTotal 6 = .ok (.iload_n 1, 1) := by decide +kernel
theorem zd_PK_bodyTotal_7 : decode zb_PK_bodyTotal 7 = .ok (.iconst 1, 1) := by decide +kernel
theorem zd_PK_bodyTotal_8 : decode zb_PK_bodyTotal 8 = .ok (.if_icmp .ne 14, 3) := by decide +kernel
theorem zd_PK_bodyTotal_11 : decode zb_PK_bodyTotal 11 = .ok (.aload_n 0, 1) := by decide +kernel
theorem zd_PK_bodyTotal_12 : decode zb_PK_bodyTotal 12 = .ok (.bipush 10, 2) := by decide +kernel
theorem zd_PK_bodyTotal_14 : decode zb_PK_bodyTotal 14 = .ok (.aload_n 0, 1) := by decide +kernel
theorem zd_PK_bodyTotal_15 : decode zb_PK_bodyTotal 15 = .ok (.getfield 15, 3) := by decide +kernel
theorem zd_PK_bodyTotal_18 : decode zb_PK_bodyTotal 18 = .ok (.invokevirtual 26, 3) := by decide +kernel
theorem zd_PK_bodyTotal_21 : decode zb_PK_bodyTotal 21 = .ok (.ireturn, 1) := by decide +kernel
theorem zd_PK_bodyTotal_22 : decode zb_PK_bodyTotal 22 = .ok (.aload_n 0, 1) := by decide +kernel
theorem zd_PK_bodyTotal_23 : decode zb_PK_bodyTotal 23 = .ok (.bipush 6, 2) := by decide +kernel
theorem zd_PK_bodyTotal_25 : decode zb_PK_bodyTotal 25 = .ok (.aload_n 0, 1) := by decide +kernel
theorem zd_PK_bodyTotal_26 : decode zb_PK_bodyTotal 26 = .ok (.getfield 15, 3) := by decide +kernel
theorem zd_PK_bodyTotal_29 : decode zb_PK_bodyTotal 29 = .ok (.invokevirtual 26, 3) := by decide +kernel
theorem zd_PK_bodyTotal_32 : decode zb_PK_bodyTotal 32 = .ok (.iload_n 1, 1) := by decide +kernel
theorem zd_PK_bodyTotal_33 : decode zb_PK_bodyTotal 33 = .ok (.iadd, 1) := by decide +kernel
theorem zd_PK_bodyTotal_34 : decode zb_PK_bodyTotal 34 = .ok (.iconst 2, 1) := by decide +kernel
theorem zd_PK_bodyTotal_35 : decode zb_PK_bodyTotal 35 = .ok (.aload_n 0, 1) := by decide +kernel
theorem zd_PK_bodyTotal_36 : decode zb_PK_bodyTotal 36 = .ok (.getfield 15, 3) := by decide +kernel
theorem zd_PK_bodyTotal_39 : decode zb_PK_bodyTotal 39 = .ok (.bipush 10, 2) := by decide +kernel
theorem zd_PK_bodyTotal_41 : decode zb_PK_bodyTotal 41 = .ok (.isub, 1) := by decide +kernel
theorem zd_PK_bodyTotal_42 : decode zb_PK_bodyTotal 42 = .ok (.imul, 1) := by decide +kernel
theorem zd_PK_bodyTotal_43 : decode zb_PK_bodyTotal 43 = .ok (.iadd, 1) := by decide +kernel
theorem zd_PK_bodyTotal_44 : decode zb_PK_bodyTotal 44 = .ok (.ireturn, 1) := by decide +kernel
abbrev zb_PK_total : ByteArray := prog_4_method_23_code
def zy_PK_total : MethodName := ⟨"PortTranslator$Packet", "total", "(II)I"⟩
theorem zd_PK_total_0 : decode zb_PK_total 0 = .ok (.iconst 0, 1) := by decide +kernel
theorem zd_PK_total_1 : decode zb_PK_total 1 = .ok (.istore_n 3, 1) := by decide +kernel
theorem zd_PK_total_2 : decode zb_PK_total 2 = .ok (.iload_n 1, 1) := by decide +kernel
theorem zd_PK_total_3 : decode zb_PK_total 3 = .ok (.istore 4, 2) := by decide +kernel
theorem zd_PK_total_5 : decode zb_PK_total 5 = .ok (.iload 4, 2) := by decide +kernel
theorem zd_PK_total_7 : decode zb_PK_total 7 = .ok (.iload_n 2, 1) := by decide +kernel
theorem zd_PK_total_8 : decode zb_PK_total 8 = .ok (.if_icmp .ge 19, 3) := by decide +kernel
theorem zd_PK_total_11 : decode zb_PK_total 11 = .ok (.iload_n 3, 1) := by decide +kernel
theorem zd_PK_total_12 : decode zb_PK_total 12 = .ok (.aload_n 0, 1) := by decide +kernel
theorem zd_PK_total_13 : decode zb_PK_total 13 = .ok (.getfield 11, 3) := by decide +kernel
theorem zd_PK_total_16 : decode zb_PK_total 16 = .ok (.iload 4, 2) := by decide +kernel
theorem zd_PK_total_18 : decode zb_PK_total 18 = .ok (.iaload, 1) := by decide +kernel
theorem zd_PK_total_19 : decode zb_PK_total 19 = .ok (.iadd, 1) := by decide +kernel
theorem zd_PK_total_20 : decode zb_PK_total 20 = .ok (.istore_n 3, 1) := by decide +kernel
theorem zd_PK_total_21 : decode zb_PK_total 21 = .ok (.iinc 4 1, 3) := by decide +kernel
theorem zd_PK_total_24 : decode zb_PK_total 24 = .ok (.goto (-19), 3) := by decide +kernel
theorem zd_PK_total_27 : decode zb_PK_total 27 = .ok (.iload_n 3, 1) := by decide +kernel
theorem zd_PK_total_28 : decode zb_PK_total 28 = .ok (.ireturn, 1) := by decide +kernel
abbrev zb_PK_sum : ByteArray := prog_4_method_24_code
def zy_PK_sum : MethodName := ⟨"PortTranslator$Packet", "sum", "(I)I"⟩
theorem zd_PK_sum_0 : decode zb_PK_sum 0 = .ok (.iload_n 0, 1) := by decide +kernel
theorem zd_PK_sum_1 : decode zb_PK_sum 1 = .ok (.ldc 34, 2) := by decide +kernel
theorem zd_PK_sum_3 : decode zb_PK_sum 3 = .ok (.iand, 1) := by decide +kernel
theorem zd_PK_sum_4 : decode zb_PK_sum 4 = .ok (.iload_n 0, 1) := by decide +kernel
theorem zd_PK_sum_5 : decode zb_PK_sum 5 = .ok (.bipush 16, 2) := by decide +kernel
theorem zd_PK_sum_7 : decode zb_PK_sum 7 = .ok (.iushr, 1) := by decide +kernel
theorem zd_PK_sum_8 : decode zb_PK_sum 8 = .ok (.iadd, 1) := by decide +kernel
theorem zd_PK_sum_9 : decode zb_PK_sum 9 = .ok (.istore_n 1, 1) := by decide +kernel
theorem zd_PK_sum_10 : decode zb_PK_sum 10 = .ok (.iload_n 1, 1) := by decide +kernel
theorem zd_PK_sum_11 : decode zb_PK_sum 11 = .ok (.ldc 34, 2) := by decide +kernel
theorem zd_PK_sum_13 : decode zb_PK_sum 13 = .ok (.iand, 1) := by decide +kernel
theorem zd_PK_sum_14 : decode zb_PK_sum 14 = .ok (.iload_n 1, 1) := by decide +kernel
theorem zd_PK_sum_15 : decode zb_PK_sum 15 = .ok (.bipush 16, 2) := by decide +kernel
theorem zd_PK_sum_17 : decode zb_PK_sum 17 = .ok (.iushr, 1) := by decide +kernel
theorem zd_PK_sum_18 : decode zb_PK_sum 18 = .ok (.iadd, 1) := by decide +kernel
theorem zd_PK_sum_19 : decode zb_PK_sum 19 = .ok (.ireturn, 1) := by decide +kernel
abbrev zb_RU_init : ByteArray := prog_5_method_1_code
def zy_RU_init : MethodName := ⟨"PortTranslator$Rule", "<init>", "()V"⟩
theorem zd_RU_init_0 : decode zb_RU_init 0 = .ok (.aload_n 0, 1) := by decide +kernel
theorem zd_RU_init_1 : decode zb_RU_init 1 = .ok (.invokespecial 1, 3) := by decide +kernel
theorem zd_RU_init_4 : decode zb_RU_init 4 = .ok (.return_, 1) := by decide +kernel
abbrev zb_RU_become : ByteArray := prog_5_method_2_code
def zy_RU_become : MethodName := ⟨"PortTranslator$Rule", "become", "(IIIZ)V"⟩
theorem zd_RU_become_0 : decode zb_RU_become 0 = .ok (.aload_n 0, 1) := by decide +kernel
theorem zd_RU_become_1 : decode zb_RU_become 1 = .ok (.iconst 1, 1) := by decide +kernel
theorem zd_RU_become_2 : decode zb_RU_become 2 = .ok (.putfield 7, 3) := by decide +kernel
theorem zd_RU_become_5 : decode zb_RU_become 5 = .ok (.aload_n 0, 1) := by decide +kernel
theorem zd_RU_become_6 : decode zb_RU_become 6 = .ok (.iload_n 1, 1) := by decide +kernel
theorem zd_RU_become_7 : decode zb_RU_become 7 = .ok (.putfield 13, 3) := by decide +kernel
theorem zd_RU_become_10 : decode zb_RU_become 10 = .ok (.aload_n 0, 1) := by decide +kernel
theorem zd_RU_become_11 : decode zb_RU_become 11 = .ok (.iload_n 2, 1) := by decide +kernel
theorem zd_RU_become_12 : decode zb_RU_become 12 = .ok (.putfield 17, 3) := by decide +kernel
theorem zd_RU_become_15 : decode zb_RU_become 15 = .ok (.aload_n 0, 1) := by decide +kernel
theorem zd_RU_become_16 : decode zb_RU_become 16 = .ok (.iload_n 3, 1) := by decide +kernel
theorem zd_RU_become_17 : decode zb_RU_become 17 = .ok (.putfield 20, 3) := by decide +kernel
theorem zd_RU_become_20 : decode zb_RU_become 20 = .ok (.aload_n 0, 1) := by decide +kernel
theorem zd_RU_become_21 : decode zb_RU_become 21 = .ok (.iload 4, 2) := by decide +kernel
theorem zd_RU_become_23 : decode zb_RU_become 23 = .ok (.putfield 23, 3) := by decide +kernel
theorem zd_RU_become_26 : decode zb_RU_become 26 = .ok (.return_, 1) := by decide +kernel
abbrev zb_RU_speaksOf : ByteArray := prog_5_method_3_code
def zy_RU_speaksOf : MethodName := ⟨"PortTranslator$Rule", "speaksOf", "(II)Z"⟩
theorem zd_RU_speaksOf_0 : decode zb_RU_speaksOf 0 = .ok (.aload_n 0, 1) := by decide +kernel
theorem zd_RU_speaksOf_1 : decode zb_RU_speaksOf 1 = .ok (.getfield 7, 3) := by decide +kernel
theorem zd_RU_speaksOf_4 : decode zb_RU_speaksOf 4 = .ok (.ifCond .eq 30, 3) := by decide +kernel
theorem zd_RU_speaksOf_7 : decode zb_RU_speaksOf 7 = .ok (.aload_n 0, 1) := by decide +kernel
theorem zd_RU_speaksOf_8 : decode zb_RU_speaksOf 8 = .ok (.getfield 13, 3) := by decide +kernel
theorem zd_RU_speaksOf_11 : decode zb_RU_speaksOf 11 = .ok (.ifCond .eq 11, 3) := by decide +kernel
theorem zd_RU_speaksOf_14 : decode zb_RU_speaksOf 14 = .ok (.aload_n 0, 1) := by decide +kernel
theorem zd_RU_speaksOf_15 : decode zb_RU_speaksOf 15 = .ok (.getfield 13, 3) := by decide +kernel
theorem zd_RU_speaksOf_18 : decode zb_RU_speaksOf 18 = .ok (.iload_n 1, 1) := by decide +kernel
theorem zd_RU_speaksOf_19 : decode zb_RU_speaksOf 19 = .ok (.if_icmp .ne 15, 3) := by decide +kernel
theorem zd_RU_speaksOf_22 : decode zb_RU_speaksOf 22 = .ok (.aload_n 0, 1) := by decide +kernel
theorem zd_RU_speaksOf_23 : decode zb_RU_speaksOf 23 = .ok (.iload_n 2, 1) := by decide +kernel
theorem zd_RU_speaksOf_24 : decode zb_RU_speaksOf 24 = .ok (.invokevirtual 26, 3) := by decide +kernel
theorem zd_RU_speaksOf_27 : decode zb_RU_speaksOf 27 = .ok (.ifCond .eq 7, 3) := by decide +kernel
theorem zd_RU_speaksOf_30 : decode zb_RU_speaksOf 30 = .ok (.iconst 1, 1) := by decide +kernel
theorem zd_RU_speaksOf_31 : decode zb_RU_speaksOf 31 = .ok (.goto 4, 3) := by decide +kernel
theorem zd_RU_speaksOf_34 : decode zb_RU_speaksOf 34 = .ok (.iconst 0, 1) := by decide +kernel
theorem zd_RU_speaksOf_35 : decode zb_RU_speaksOf 35 = .ok (.ireturn, 1) := by decide +kernel
abbrev zb_RU_holds : ByteArray := prog_5_method_4_code
def zy_RU_holds : MethodName := ⟨"PortTranslator$Rule", "holds", "(I)Z"⟩
theorem zd_RU_holds_0 : decode zb_RU_holds 0 = .ok (.aload_n 0, 1) := by decide +kernel
theorem zd_RU_holds_1 : decode zb_RU_holds 1 = .ok (.getfield 20, 3) := by decide +kernel
theorem zd_RU_holds_4 : decode zb_RU_holds 4 = .ok (.ifCond .eq 20, 3) := by decide +kernel
theorem zd_RU_holds_7 : decode zb_RU_holds 7 = .ok (.iload_n 1, 1) := by decide +kernel
theorem zd_RU_holds_8 : decode zb_RU_holds 8 = .ok (.aload_n 0, 1) := by decide +kernel
theorem zd_RU_holds_9 : decode zb_RU_holds 9 = .ok (.getfield 17, 3) := by decide +kernel
theorem zd_RU_holds_12 : decode zb_RU_holds 12 = .ok (.ixor, 1) := by decide +kernel
theorem zd_RU_holds_13 : decode zb_RU_holds 13 = .ok (.bipush 32, 2) := by decide +kernel
theorem zd_RU_holds_15 : decode zb_RU_holds 15 = .ok (.aload_n 0, 1) := by decide +kernel
theorem zd_RU_holds_16 : decode zb_RU_holds 16 = .ok (.getfield 20, 3) := by decide +kernel
theorem zd_RU_holds_19 : decode zb_RU_holds 19 = .ok (.isub, 1) := by decide +kernel
theorem zd_RU_holds_20 : decode zb_RU_holds 20 = .ok (.iushr, 1) := by decide +kernel
theorem zd_RU_holds_21 : decode zb_RU_holds 21 = .ok (.ifCond .ne 7, 3) := by decide +kernel
theorem zd_RU_holds_24 : decode zb_RU_holds 24 = .ok (.iconst 1, 1) := by decide +kernel
theorem zd_RU_holds_25 : decode zb_RU_holds 25 = .ok (.goto 4, 3) := by decide +kernel
theorem zd_RU_holds_28 : decode zb_RU_holds 28 = .ok (.iconst 0, 1) := by decide +kernel
theorem zd_RU_holds_29 : decode zb_RU_holds 29 = .ok (.ireturn, 1) := by decide +kernel
abbrev zb_RS_init : ByteArray := prog_6_method_1_code
def zy_RS_init : MethodName := ⟨"PortTranslator$RuleList", "<init>", "()V"⟩
theorem zd_RS_init_0 : decode zb_RS_init 0 = .ok (.aload_n 0, 1) := by decide +kernel
theorem zd_RS_init_1 : decode zb_RS_init 1 = .ok (.invokespecial 1, 3) := by decide +kernel
theorem zd_RS_init_4 : decode zb_RS_init 4 = .ok (.aload_n 0, 1) := by decide +kernel
theorem zd_RS_init_5 : decode zb_RS_init 5 = .ok (.iconst 4, 1) := by decide +kernel
theorem zd_RS_init_6 : decode zb_RS_init 6 = .ok (.anewarray 9, 3) := by decide +kernel
theorem zd_RS_init_9 : decode zb_RS_init 9 = .ok (.putfield 11, 3) := by decide +kernel
theorem zd_RS_init_12 : decode zb_RS_init 12 = .ok (.iconst 0, 1) := by decide +kernel
theorem zd_RS_init_13 : decode zb_RS_init 13 = .ok (.istore_n 1, 1) := by decide +kernel
theorem zd_RS_init_14 : decode zb_RS_init 14 = .ok (.iload_n 1, 1) := by decide +kernel
theorem zd_RS_init_15 : decode zb_RS_init 15 = .ok (.iconst 4, 1) := by decide +kernel
theorem zd_RS_init_16 : decode zb_RS_init 16 = .ok (.if_icmp .ge 22, 3) := by decide +kernel
theorem zd_RS_init_19 : decode zb_RS_init 19 = .ok (.aload_n 0, 1) := by decide +kernel
theorem zd_RS_init_20 : decode zb_RS_init 20 = .ok (.getfield 11, 3) := by decide +kernel
theorem zd_RS_init_23 : decode zb_RS_init 23 = .ok (.iload_n 1, 1) := by decide +kernel
theorem zd_RS_init_24 : decode zb_RS_init 24 = .ok (.new 9, 3) := by decide +kernel
theorem zd_RS_init_27 : decode zb_RS_init 27 = .ok (.dup, 1) := by decide +kernel
theorem zd_RS_init_28 : decode zb_RS_init 28 = .ok (.invokespecial 15, 3) := by decide +kernel
theorem zd_RS_init_31 : decode zb_RS_init 31 = .ok (.aastore, 1) := by decide +kernel
theorem zd_RS_init_32 : decode zb_RS_init 32 = .ok (.iinc 1 1, 3) := by decide +kernel
theorem zd_RS_init_35 : decode zb_RS_init 35 = .ok (.goto (-21), 3) := by decide +kernel
theorem zd_RS_init_38 : decode zb_RS_init 38 = .ok (.return_, 1) := by decide +kernel
abbrev zb_RS_isNumber : ByteArray := prog_6_method_2_code
def zy_RS_isNumber : MethodName := ⟨"PortTranslator$RuleList", "isNumber", "(I)Z"⟩
theorem zd_RS_isNumber_0 : decode zb_RS_isNumber 0 = .ok (.iload_n 0, 1) := by decide +kernel
theorem zd_RS_isNumber_1 : decode zb_RS_isNumber 1 = .ok (.ifCond .lt 12, 3) := by decide +kernel
theorem zd_RS_isNumber_4 : decode zb_RS_isNumber 4 = .ok (.iload_n 0, 1) := by decide +kernel
theorem zd_RS_isNumber_5 : decode zb_RS_isNumber 5 = .ok (.iconst 4, 1) := by decide +kernel
theorem zd_RS_isNumber_6 : decode zb_RS_isNumber 6 = .ok (.if_icmp .ge 7, 3) := by decide +kernel
theorem zd_RS_isNumber_9 : decode zb_RS_isNumber 9 = .ok (.iconst 1, 1) := by decide +kernel
theorem zd_RS_isNumber_10 : decode zb_RS_isNumber 10 = .ok (.goto 4, 3) := by decide +kernel
theorem zd_RS_isNumber_13 : decode zb_RS_isNumber 13 = .ok (.iconst 0, 1) := by decide +kernel
theorem zd_RS_isNumber_14 : decode zb_RS_isNumber 14 = .ok (.ireturn, 1) := by decide +kernel
abbrev zb_RS_count : ByteArray := prog_6_method_3_code
def zy_RS_count : MethodName := ⟨"PortTranslator$RuleList", "count", "()I"⟩
theorem zd_RS_count_0 : decode zb_RS_count 0 = .ok (.iconst 0, 1) := by decide +kernel
theorem zd_RS_count_1 : decode zb_RS_count 1 = .ok (.istore_n 1, 1) := by decide +kernel
theorem zd_RS_count_2 : decode zb_RS_count 2 = .ok (.iconst 0, 1) := by decide +kernel
theorem zd_RS_count_3 : decode zb_RS_count 3 = .ok (.istore_n 2, 1) := by decide +kernel
theorem zd_RS_count_4 : decode zb_RS_count 4 = .ok (.iload_n 2, 1) := by decide +kernel
theorem zd_RS_count_5 : decode zb_RS_count 5 = .ok (.iconst 4, 1) := by decide +kernel
theorem zd_RS_count_6 : decode zb_RS_count 6 = .ok (.if_icmp .ge 24, 3) := by decide +kernel
theorem zd_RS_count_9 : decode zb_RS_count 9 = .ok (.aload_n 0, 1) := by decide +kernel
theorem zd_RS_count_10 : decode zb_RS_count 10 = .ok (.getfield 11, 3) := by decide +kernel
theorem zd_RS_count_13 : decode zb_RS_count 13 = .ok (.iload_n 2, 1) := by decide +kernel
theorem zd_RS_count_14 : decode zb_RS_count 14 = .ok (.aaload, 1) := by decide +kernel
theorem zd_RS_count_15 : decode zb_RS_count 15 = .ok (.getfield 16, 3) := by decide +kernel
theorem zd_RS_count_18 : decode zb_RS_count 18 = .ok (.ifCond .eq 6, 3) := by decide +kernel
theorem zd_RS_count_21 : decode zb_RS_count 21 = .ok (.iinc 1 1, 3) := by decide +kernel
theorem zd_RS_count_24 : decode zb_RS_count 24 = .ok (.iinc 2 1, 3) := by decide +kernel
theorem zd_RS_count_27 : decode zb_RS_count 27 = .ok (.goto (-23), 3) := by decide +kernel
theorem zd_RS_count_30 : decode zb_RS_count 30 = .ok (.iload_n 1, 1) := by decide +kernel
theorem zd_RS_count_31 : decode zb_RS_count 31 = .ok (.ireturn, 1) := by decide +kernel
abbrev zb_RS_permit : ByteArray := prog_6_method_4_code
def zy_RS_permit : MethodName := ⟨"PortTranslator$RuleList", "permit", "(II)Z"⟩
theorem zd_RS_permit_0 : decode zb_RS_permit 0 = .ok (.iconst 0, 1) := by decide +kernel
theorem zd_RS_permit_1 : decode zb_RS_permit 1 = .ok (.istore_n 3, 1) := by decide +kernel
theorem zd_RS_permit_2 : decode zb_RS_permit 2 = .ok (.iload_n 3, 1) := by decide +kernel
theorem zd_RS_permit_3 : decode zb_RS_permit 3 = .ok (.iconst 4, 1) := by decide +kernel
theorem zd_RS_permit_4 : decode zb_RS_permit 4 = .ok (.if_icmp .ge 33, 3) := by decide +kernel
theorem zd_RS_permit_7 : decode zb_RS_permit 7 = .ok (.aload_n 0, 1) := by decide +kernel
theorem zd_RS_permit_8 : decode zb_RS_permit 8 = .ok (.getfield 11, 3) := by decide +kernel
theorem zd_RS_permit_11 : decode zb_RS_permit 11 = .ok (.iload_n 3, 1) := by decide +kernel
theorem zd_RS_permit_12 : decode zb_RS_permit 12 = .ok (.aaload, 1) := by decide +kernel
theorem zd_RS_permit_13 : decode zb_RS_permit 13 = .ok (.iload_n 1, 1) := by decide +kernel
theorem zd_RS_permit_14 : decode zb_RS_permit 14 = .ok (.iload_n 2, 1) := by decide +kernel
theorem zd_RS_permit_15 : decode zb_RS_permit 15 = .ok (.invokevirtual 20, 3) := by decide +kernel
theorem zd_RS_permit_18 : decode zb_RS_permit 18 = .ok (.ifCond .eq 13, 3) := by decide +kernel
theorem zd_RS_permit_21 : decode zb_RS_permit 21 = .ok (.aload_n 0, 1) := by decide +kernel
theorem zd_RS_permit_22 : decode zb_RS_permit 22 = .ok (.getfield 11, 3) := by decide +kernel
theorem zd_RS_permit_25 : decode zb_RS_permit 25 = .ok (.iload_n 3, 1) := by decide +kernel
theorem zd_RS_permit_26 : decode zb_RS_permit 26 = .ok (.aaload, 1) := by decide +kernel
theorem zd_RS_permit_27 : decode zb_RS_permit 27 = .ok (.getfield 24, 3) := by decide +kernel
theorem zd_RS_permit_30 : decode zb_RS_permit 30 = .ok (.ireturn, 1) := by decide +kernel
theorem zd_RS_permit_31 : decode zb_RS_permit 31 = .ok (.iinc 3 1, 3) := by decide +kernel
theorem zd_RS_permit_34 : decode zb_RS_permit 34 = .ok (.goto (-32), 3) := by decide +kernel
theorem zd_RS_permit_37 : decode zb_RS_permit 37 = .ok (.iconst 1, 1) := by decide +kernel
theorem zd_RS_permit_38 : decode zb_RS_permit 38 = .ok (.ireturn, 1) := by decide +kernel
abbrev zb_SU_init : ByteArray := prog_7_method_1_code
def zy_SU_init : MethodName := ⟨"PortTranslator$Subject", "<init>", "()V"⟩
theorem zd_SU_init_0 : decode zb_SU_init 0 = .ok (.aload_n 0, 1) := by decide +kernel
theorem zd_SU_init_1 : decode zb_SU_init 1 = .ok (.invokespecial 3, 3) := by decide +kernel
theorem zd_SU_init_4 : decode zb_SU_init 4 = .ok (.return_, 1) := by decide +kernel
abbrev zb_SU_read : ByteArray := prog_7_method_2_code
def zy_SU_read : MethodName := ⟨"PortTranslator$Subject", "read", "(LPortTranslator$Packet;Z)V"⟩
theorem zd_SU_read_0 : decode zb_SU_read 0 = .ok (.aload_n 1, 1) := by decide +kernel
theorem zd_SU_read_1 : decode zb_SU_read 1 = .ok (.invokevirtual 9, 3) := by decide +kernel
theorem zd_SU_read_4 : decode zb_SU_read 4 = .ok (.ifCond .eq 8, 3) := by decide +kernel
theorem zd_SU_read_7 : decode zb_SU_read 7 = .ok (.bipush 14, 2) := by decide +kernel
theorem zd_SU_read_9 : decode zb_SU_read 9 = .ok (.goto 4, 3) := by decide +kernel
theorem zd_SU_read_12 : decode zb_SU_read 12 = .ok (.iconst 0, 1) := by decide +kernel
theorem zd_SU_read_13 : decode zb_SU_read 13 = .ok (.istore_n 3, 1) := by decide +kernel
theorem zd_SU_read_14 : decode zb_SU_read 14 = .ok (.iload_n 2, 1) := by decide +kernel
theorem zd_SU_read_15 : decode zb_SU_read 15 = .ok (.aload_n 1, 1) := by decide +kernel
theorem zd_SU_read_16 : decode zb_SU_read 16 = .ok (.invokevirtual 9, 3) := by decide +kernel
theorem zd_SU_read_19 : decode zb_SU_read 19 = .ok (.if_icmp .eq 7, 3) := by decide +kernel
theorem zd_SU_read_22 : decode zb_SU_read 22 = .ok (.iconst 1, 1) := by decide +kernel
theorem zd_SU_read_23 : decode zb_SU_read 23 = .ok (.goto 4, 3) := by decide +kernel
theorem zd_SU_read_26 : decode zb_SU_read 26 = .ok (.iconst 0, 1) := by decide +kernel
theorem zd_SU_read_27 : decode zb_SU_read 27 = .ok (.istore 4, 2) := by decide +kernel
theorem zd_SU_read_29 : decode zb_SU_read 29 = .ok (.aload_n 0, 1) := by decide +kernel
theorem zd_SU_read_30 : decode zb_SU_read 30 = .ok (.aload_n 1, 1) := by decide +kernel
theorem zd_SU_read_31 : decode zb_SU_read 31 = .ok (.iload_n 3, 1) := by decide +kernel
theorem zd_SU_read_32 : decode zb_SU_read 32 = .ok (.invokevirtual 15, 3) := by decide +kernel
theorem zd_SU_read_35 : decode zb_SU_read 35 = .ok (.putfield 19, 3) := by decide +kernel
theorem zd_SU_read_38 : decode zb_SU_read 38 = .ok (.aload_n 0, 1) := by decide +kernel
theorem zd_SU_read_39 : decode zb_SU_read 39 = .ok (.iload_n 3, 1) := by decide +kernel
theorem zd_SU_read_40 : decode zb_SU_read 40 = .ok (.iload 4, 2) := by decide +kernel
theorem zd_SU_read_42 : decode zb_SU_read 42 = .ok (.ifCond .eq 8, 3) := by decide +kernel
theorem zd_SU_read_45 : decode zb_SU_read 45 = .ok (.bipush 6, 2) := by decide +kernel
theorem zd_SU_read_47 : decode zb_SU_read 47 = .ok (.goto 5, 3) := by decide +kernel
theorem zd_SU_read_50 : decode zb_SU_read 50 = .ok (.bipush 8, 2) := by decide +kernel
theorem zd_SU_read_52 : decode zb_SU_read 52 = .ok (.iadd, 1) := by decide +kernel
theorem zd_SU_read_53 : decode zb_SU_read 53 = .ok (.putfield 25, 3) := by decide +kernel
theorem zd_SU_read_56 : decode zb_SU_read 56 = .ok (.aload_n 0, 1) := by decide +kernel
theorem zd_SU_read_57 : decode zb_SU_read 57 = .ok (.aload_n 1, 1) := by decide +kernel
theorem zd_SU_read_58 : decode zb_SU_read 58 = .ok (.aload_n 0, 1) := by decide +kernel
theorem zd_SU_read_59 : decode zb_SU_read 59 = .ok (.getfield 25, 3) := by decide +kernel
theorem zd_SU_read_62 : decode zb_SU_read 62 = .ok (.invokevirtual 28, 3) := by decide +kernel
theorem zd_SU_read_65 : decode zb_SU_read 65 = .ok (.putfield 31, 3) := by decide +kernel
theorem zd_SU_read_68 : decode zb_SU_read 68 = .ok (.aload_n 0, 1) := by decide +kernel
theorem zd_SU_read_69 : decode zb_SU_read 69 = .ok (.aload_n 1, 1) := by decide +kernel
theorem zd_SU_read_70 : decode zb_SU_read 70 = .ok (.iload_n 3, 1) := by decide +kernel
theorem zd_SU_read_71 : decode zb_SU_read 71 = .ok (.iload 4, 2) := by decide +kernel
theorem zd_SU_read_73 : decode zb_SU_read 73 = .ok (.ifCond .eq 8, 3) := by decide +kernel
theorem zd_SU_read_76 : decode zb_SU_read 76 = .ok (.bipush 8, 2) := by decide +kernel
theorem zd_SU_read_78 : decode zb_SU_read 78 = .ok (.goto 5, 3) := by decide +kernel
theorem zd_SU_read_81 : decode zb_SU_read 81 = .ok (.bipush 6, 2) := by decide +kernel
theorem zd_SU_read_83 : decode zb_SU_read 83 = .ok (.iadd, 1) := by decide +kernel
theorem zd_SU_read_84 : decode zb_SU_read 84 = .ok (.invokevirtual 28, 3) := by decide +kernel
theorem zd_SU_read_87 : decode zb_SU_read 87 = .ok (.putfield 34, 3) := by decide +kernel
theorem zd_SU_read_90 : decode zb_SU_read 90 = .ok (.aload_n 0, 1) := by decide +kernel
theorem zd_SU_read_91 : decode zb_SU_read 91 = .ok (.getfield 19, 3) := by decide +kernel
theorem zd_SU_read_94 : decode zb_SU_read 94 = .ok (.iconst 1, 1) := by decide +kernel
theorem zd_SU_read_95 : decode zb_SU_read 95 = .ok (.if_icmp .ne 19, 3) := by decide +kernel
theorem zd_SU_read_98 : decode zb_SU_read 98 = .ok (.aload_n 0, 1) := by decide +kernel
theorem zd_SU_read_99 : decode zb_SU_read 99 = .ok (.iload_n 3, 1) := by decide +kernel
theorem zd_SU_read_100 : decode zb_SU_read 100 = .ok (.bipush 12, 2) := by decide +kernel
theorem zd_SU_read_102 : decode zb_SU_read 102 = .ok (.iadd, 1) := by decide +kernel
theorem zd_SU_read_103 : decode zb_SU_read 103 = .ok (.putfield 37, 3) := by decide +kernel
theorem zd_SU_read_106 : decode zb_SU_read 106 = .ok (.aload_n 0, 1) := by decide +kernel
theorem zd_SU_read_107 : decode zb_SU_read 107 = .ok (.iconst 0, 1) := by decide +kernel
theorem zd_SU_read_108 : decode zb_SU_read 108 = .ok (.putfield 40, 3) := by decide +kernel
theorem zd_SU_read_111 : decode zb_SU_read 111 = .ok (.goto 44, 3) := by decide +kernel
theorem zd_SU_read_114 : decode zb_SU_read 114 = .ok (.aload_n 0, 1) := by decide +kernel
theorem zd_SU_read_115 : decode zb_SU_read 115 = .ok (.iload_n 3, 1) := by decide +kernel
theorem zd_SU_read_116 : decode zb_SU_read 116 = .ok (.iload 4, 2) := by decide +kernel
theorem zd_SU_read_118 : decode zb_SU_read 118 = .ok (.ifCond .eq 8, 3) := by decide +kernel
theorem zd_SU_read_121 : decode zb_SU_read 121 = .ok (.bipush 10, 2) := by decide +kernel
theorem zd_SU_read_123 : decode zb_SU_read 123 = .ok (.goto 5, 3) := by decide +kernel
theorem zd_SU_read_126 : decode zb_SU_read 126 = .ok (.bipush 11, 2) := by decide +kernel
theorem zd_SU_read_128 : decode zb_SU_read 128 = .ok (.iadd, 1) := by decide +kernel
theorem zd_SU_read_129 : decode zb_SU_read 129 = .ok (.putfield 37, 3) := by decide +kernel
theorem zd_SU_read_132 : decode zb_SU_read 132 = .ok (.aload_n 0, 1) := by decide +kernel
theorem zd_SU_read_133 : decode zb_SU_read 133 = .ok (.aload_n 1, 1) := by decide +kernel
theorem zd_SU_read_134 : decode zb_SU_read 134 = .ok (.getfield 43, 3) := by decide +kernel
theorem zd_SU_read_137 : decode zb_SU_read 137 = .ok (.iload_n 3, 1) := by decide +kernel
theorem zd_SU_read_138 : decode zb_SU_read 138 = .ok (.iload 4, 2) := by decide +kernel
theorem zd_SU_read_140 : decode zb_SU_read 140 = .ok (.ifCond .eq 8, 3) := by decide +kernel
theorem zd_SU_read_143 : decode zb_SU_read 143 = .ok (.bipush 11, 2) := by decide +kernel
theorem zd_SU_read_145 : decode zb_SU_read 145 = .ok (.goto 5, 3) := by decide +kernel
theorem zd_SU_read_148 : decode zb_SU_read 148 = .ok (.bipush 10, 2) := by decide +kernel
theorem zd_SU_read_150 : decode zb_SU_read 150 = .ok (.iadd, 1) := by decide +kernel
theorem zd_SU_read_151 : decode zb_SU_read 151 = .ok (.iaload, 1) := by decide +kernel
theorem zd_SU_read_152 : decode zb_SU_read 152 = .ok (.putfield 40, 3) := by decide +kernel
theorem zd_SU_read_155 : decode zb_SU_read 155 = .ok (.aload_n 0, 1) := by decide +kernel
theorem zd_SU_read_156 : decode zb_SU_read 156 = .ok (.aload_n 1, 1) := by decide +kernel
theorem zd_SU_read_157 : decode zb_SU_read 157 = .ok (.getfield 43, 3) := by decide +kernel
theorem zd_SU_read_160 : decode zb_SU_read 160 = .ok (.aload_n 0, 1) := by decide +kernel
theorem zd_SU_read_161 : decode zb_SU_read 161 = .ok (.getfield 37, 3) := by decide +kernel
theorem zd_SU_read_164 : decode zb_SU_read 164 = .ok (.iaload, 1) := by decide +kernel
theorem zd_SU_read_165 : decode zb_SU_read 165 = .ok (.putfield 47, 3) := by decide +kernel
theorem zd_SU_read_168 : decode zb_SU_read 168 = .ok (.return_, 1) := by decide +kernel
abbrev zb_SU_write : ByteArray := prog_7_method_3_code
def zy_SU_write : MethodName := ⟨"PortTranslator$Subject", "write", "(LPortTranslator$Packet;II)V"⟩
theorem zd_SU_write_0 : decode zb_SU_write 0 = .ok (.aload_n 1, 1) := by decide +kernel
theorem zd_SU_write_1 : decode zb_SU_write 1 = .ok (.invokevirtual 9, 3) := by decide +kernel
theorem zd_SU_write_4 : decode zb_SU_write 4 = .ok (.ifCond .eq 48, 3) := by decide +kernel
theorem zd_SU_write_7 : decode zb_SU_write 7 = .ok (.aload_n 0, 1) := by decide +kernel
theorem zd_SU_write_8 : decode zb_SU_write 8 = .ok (.getfield 31, 3) := by decide +kernel
theorem zd_SU_write_11 : decode zb_SU_write 11 = .ok (.bipush 16, 2) := by decide +kernel
theorem zd_SU_write_13 : decode zb_SU_write 13 = .ok (.iushr, 1) := by decide +kernel
theorem zd_SU_write_14 : decode zb_SU_write 14 = .ok (.iload_n 2, 1) := by decide +kernel
theorem zd_SU_write_15 : decode zb_SU_write 15 = .ok (.bipush 16, 2) := by decide +kernel
theorem zd_SU_write_17 : decode zb_SU_write 17 = .ok (.iushr, 1) := by decide +kernel
theorem zd_SU_write_18 : decode zb_SU_write 18 = .ok (.invokestatic 50, 3) := by decide +kernel
theorem zd_SU_write_21 : decode zb_SU_write 21 = .ok (.aload_n 0, 1) := by decide +kernel
theorem zd_SU_write_22 : decode zb_SU_write 22 = .ok (.getfield 31, 3) := by decide +kernel
theorem zd_SU_write_25 : decode zb_SU_write 25 = .ok (.ldc 54, 2) := by decide +kernel
theorem zd_SU_write_27 : decode zb_SU_write 27 = .ok (.iand, 1) := by decide +kernel
theorem zd_SU_write_28 : decode zb_SU_write 28 = .ok (.iload_n 2, 1) := by decide +kernel
theorem zd_SU_write_29 : decode zb_SU_write 29 = .ok (.ldc 54, 2) := by decide +kernel
theorem zd_SU_write_31 : decode zb_SU_write 31 = .ok (.iand, 1) := by decide +kernel
theorem zd_SU_write_32 : decode zb_SU_write 32 = .ok (.invokestatic 50, 3) := by decide +kernel
theorem zd_SU_write_35 : decode zb_SU_write 35 = .ok (.iadd, 1) := by decide +kernel
theorem zd_SU_write_36 : decode zb_SU_write 36 = .ok (.istore 4, 2) := by decide +kernel
theorem zd_SU_write_38 : decode zb_SU_write 38 = .ok (.aload_n 1, 1) := by decide +kernel
theorem zd_SU_write_39 : decode zb_SU_write 39 = .ok (.iload 4, 2) := by decide +kernel
theorem zd_SU_write_41 : decode zb_SU_write 41 = .ok (.aload_n 0, 1) := by decide +kernel
theorem zd_SU_write_42 : decode zb_SU_write 42 = .ok (.getfield 47, 3) := by decide +kernel
theorem zd_SU_write_45 : decode zb_SU_write 45 = .ok (.iload_n 3, 1) := by decide +kernel
theorem zd_SU_write_46 : decode zb_SU_write 46 = .ok (.invokestatic 50, 3) := by decide +kernel
theorem zd_SU_write_49 : decode zb_SU_write 49 = .ok (.invokevirtual 55, 3) := by decide +kernel
theorem zd_SU_write_52 : decode zb_SU_write 52 = .ok (.aload_n 1, 1) := by decide +kernel
theorem zd_SU_write_53 : decode zb_SU_write 53 = .ok (.aload_n 0, 1) := by decide +kernel
theorem zd_SU_write_54 : decode zb_SU_write 54 = .ok (.getfield 25, 3) := by decide +kernel
theorem zd_SU_write_57 : decode zb_SU_write 57 = .ok (.iload_n 2, 1) := by decide +kernel
theorem zd_SU_write_58 : decode zb_SU_write 58 = .ok (.invokevirtual 59, 3) := by decide +kernel
theorem zd_SU_write_61 : decode zb_SU_write 61 = .ok (.aload_n 1, 1) := by decide +kernel
theorem zd_SU_write_62 : decode zb_SU_write 62 = .ok (.getfield 43, 3) := by decide +kernel
theorem zd_SU_write_65 : decode zb_SU_write 65 = .ok (.aload_n 0, 1) := by decide +kernel
theorem zd_SU_write_66 : decode zb_SU_write 66 = .ok (.getfield 37, 3) := by decide +kernel
theorem zd_SU_write_69 : decode zb_SU_write 69 = .ok (.iload_n 3, 1) := by decide +kernel
theorem zd_SU_write_70 : decode zb_SU_write 70 = .ok (.iastore, 1) := by decide +kernel
theorem zd_SU_write_71 : decode zb_SU_write 71 = .ok (.return_, 1) := by decide +kernel
abbrev zb_SU_change : ByteArray := prog_7_method_4_code
def zy_SU_change : MethodName := ⟨"PortTranslator$Subject", "change", "(II)I"⟩
theorem zd_SU_change_0 : decode zb_SU_change 0 = .ok (.ldc 54, 2) := by decide +kernel
theorem zd_SU_change_2 : decode zb_SU_change 2 = .ok (.iload_n 0, 1) := by decide +kernel
theorem zd_SU_change_3 : decode zb_SU_change 3 = .ok (.isub, 1) := by decide +kernel
theorem zd_SU_change_4 : decode zb_SU_change 4 = .ok (.iload_n 1, 1) := by decide +kernel
theorem zd_SU_change_5 : decode zb_SU_change 5 = .ok (.iadd, 1) := by decide +kernel
theorem zd_SU_change_6 : decode zb_SU_change 6 = .ok (.ireturn, 1) := by decide +kernel
