theorem zs_isn_ok {i : Nat} (hi : i < 4) : zs_isn (nI i) = 1 := by
  rw [zs_isn, if_neg (nI_pos (by omega)), if_neg (show ¬ (4 : Int32) ≤ nI i from nI_ge (b := 4) hi (by decide))]

set_option maxRecDepth 20000 in
theorem zc_PT_at {l : Launch} {G : zz_G} {F : Nat → va_E} {v : Nat → Int32} {sz : Int32} {lv : Nat → Int32} {su : Nat → Int32} {pm : Nat → Nat} {cn : Int32} {fl : Nat → Nat → Int32} {ru : Nat → Nat → Int32} {n i : Nat} (hi : i < n) (hn : n ≤ 48) : zz_M l zy_PT_at zb_PT_at 2 (some .int) 1 40 G [.ref (G.2.2 0), .int (nI i)] (zz_K G F v sz lv (nI n) su pm cn fl ru) (some (.int (lv i))) (zz_K G F v sz lv (nI n) su pm cn fl ru) := by
  refine zz_M.of (by decide) (Nat.le_of_ble_eq_true rfl) ?_
  intro X hX h hr
  subst hX
  have h : zz_C X G (zz_A G.2.2) 2 zb_PT_at "PortTranslator" 1 40 0 0 := h
  refine zi_iload_n (pc := 0) h (i := 1) zd_PT_at_0 rfl 1 rfl ?_
  refine zi_if_lt_f (pc := 1) h (tgt := 15) zd_PT_at_1 rfl (nI_pos (by omega)) ?_
  refine zi_iload_n (pc := 4) h (i := 1) zd_PT_at_4 rfl 1 rfl ?_
  refine zi_aload_n (pc := 5) h (i := 0) zd_PT_at_5 rfl 0 rfl ?_
  refine zi_get (pc := 6) h zx_PT 0 1 zq_k0 rfl zq_j_1_5 zw_175 rfl zd_PT_at_6 ?_
  refine zi_get (pc := 9) h zx_PK 3 1 zq_k3 rfl zq_j_1_2 zw_33 rfl zd_PT_at_9 ?_
  refine zi_icmp_lt_t (pc := 12) h (tgt := 23) zd_PT_at_12 rfl (nI_lt hi (by omega)) ?_
  refine zi_aload_n (pc := 23) h (i := 0) zd_PT_at_23 rfl 0 rfl ?_
  refine zi_get (pc := 24) h zx_PT 0 1 zq_k0 rfl zq_j_1_5 zw_175 rfl zd_PT_at_24 ?_
  refine zi_get (pc := 27) h zx_PK 3 0 zq_k3 rfl zq_j_0_2 zw_31 rfl zd_PT_at_27 ?_
  refine zi_iload_n (pc := 30) h (i := 1) zd_PT_at_30 rfl 1 rfl ?_
  refine zi_iald (pc := 31) h 4 zq_k4 rfl (zz_ixN (j := i) (by omega)) zd_PT_at_31 ?_
  exact zi_ireturn (pc := 32) h hr zd_PT_at_32 rfl rfl

set_option maxRecDepth 20000 in
theorem zc_PT_tick {l : Launch} {G : zz_G} {F : Nat → va_E} {v : Nat → Int32} {sz : Int32} {lv : Nat → Int32} {lz : Int32} {su : Nat → Int32} {pm : Nat → Nat} {fl : Nat → Nat → Int32} {ru : Nat → Nat → Int32} {c : Nat} {t : Int32} (hpm : ∀ i, pm i < 12) (hc : c ≤ 12) (h1 : ¬ t < 1) (h2 : t ≤ 100) : zz_M l zy_PT_tick zb_PT_tick 2 (some .int) 3 63 G [.ref (G.2.2 0), .int t] (zz_K G F v sz lv lz su pm (nI c) fl ru) (some (.int (nI c - nI (zs_grw t c pm fl c).2.2))) (zz_K G F v sz lv lz su (zs_grw t c pm fl c).1 (nI (zs_grw t c pm fl c).2.2) (zs_grw t c pm fl c).2.1 ru) := by
  refine zz_M.of (by decide) (Nat.le_of_ble_eq_true rfl) ?_
  intro X hX h hr
  subst hX
  have h : zz_C X G (zz_A G.2.2) 2 zb_PT_tick "PortTranslator" 3 63 0 0 := h
  refine zi_iload_n (pc := 0) h (i := 1) zd_PT_tick_0 rfl 1 rfl ?_
  refine zi_iconst (pc := 1) h zd_PT_tick_1 zq_ic_1 ?_
  refine zi_icmp_lt_f (pc := 2) h (tgt := 11) zd_PT_tick_2 rfl h1 ?_
  refine zi_iload_n (pc := 5) h (i := 1) zd_PT_tick_5 rfl 1 rfl ?_
  refine zi_bipush (pc := 6) h zd_PT_tick_6 zq_bi_100 ?_
  refine zi_icmp_le_t (pc := 8) h (tgt := 19) zd_PT_tick_8 rfl h2 ?_
  refine zi_aload_n (pc := 19) h (i := 0) zd_PT_tick_19 rfl 0 rfl ?_
  refine zi_get (pc := 20) h zx_PT 0 3 zq_k0 rfl zq_j_3_5 zw_177 rfl zd_PT_tick_20 ?_
  refine zi_iload_n (pc := 23) h (i := 1) zd_PT_tick_23 rfl 1 rfl ?_
  refine zi_callV (pc := 24) h (st := []) (zc_FT_grow hpm hc) zm_FT_grow zw_529 zx_FT zq_k6 rfl ⟨by decide, by decide⟩ zd_PT_tick_24 (Nat.le_of_ble_eq_true rfl) rfl ?_
  exact zi_ireturn (pc := 27) h hr zd_PT_tick_27 rfl rfl

set_option maxRecDepth 20000 in
theorem zc_PT_rule_ok0 {l : Launch} {G : zz_G} {F : Nat → va_E} {v : Nat → Int32} {sz : Int32} {lv : Nat → Int32} {lz : Int32} {su : Nat → Int32} {pm : Nat → Nat} {cn : Int32} {fl : Nat → Nat → Int32} {ru : Nat → Nat → Int32} {i : Nat} {k w b p : Int32} (hi : i < 4) (hk : k = 0) (hb1 : ¬ b < 0) (hb2 : b ≤ 32) (hp : p = 0 ∨ p = 1) : zz_M l zy_PT_rule zb_PT_rule 6 (some .int) 1 40 G [.ref (G.2.2 0), .int (nI i), .int k, .int w, .int b, .int p] (zz_K G F v sz lv lz su pm cn fl ru) (some (.int (zs_rc (va_up ru i (zs_bec (ru i) k w b p)) 0 4 0))) (zz_K G F v sz lv lz su pm cn fl (va_up ru i (zs_bec (ru i) k w b p))) := by
  refine zz_M.of (by decide) (Nat.le_of_ble_eq_true rfl) ?_
  intro X hX h hr
  subst hX
  have h : zz_C X G (zz_A G.2.2) 6 zb_PT_rule "PortTranslator" 1 40 0 0 := h
  refine zi_iload_n (pc := 0) h (i := 1) zd_PT_rule_0 rfl 1 rfl ?_
  refine zi_callS (pc := 1) h (st := []) (zc_RS_isNumber) zm_RS_isNumber zw_548 ⟨by decide, by decide⟩ zd_PT_rule_1 (Nat.le_of_ble_eq_true rfl) rfl ?_
  refine zi_topv (1) (zs_isn_ok hi) ?_
  refine zi_if_eq_f (pc := 4) h (tgt := 30) zd_PT_rule_4 rfl (by decide) ?_
  refine zi_iload_n (pc := 7) h (i := 2) zd_PT_rule_7 rfl 2 rfl ?_
  refine zi_if_eq_t (pc := 8) h (tgt := 18) zd_PT_rule_8 rfl hk ?_
  refine zi_iload (pc := 18) h (i := 4) zd_PT_rule_18 4 rfl ?_
  refine zi_if_lt_f (pc := 20) h (tgt := 30) zd_PT_rule_20 rfl hb1 ?_
  refine zi_iload (pc := 23) h (i := 4) zd_PT_rule_23 4 rfl ?_
  refine zi_bipush (pc := 25) h zd_PT_rule_25 zq_bi_32 ?_
  refine zi_icmp_le_t (pc := 27) h (tgt := 38) zd_PT_rule_27 rfl hb2 ?_
  refine zi_aload_n (pc := 38) h (i := 0) zd_PT_rule_38 rfl 0 rfl ?_
  refine zi_get (pc := 39) h zx_PT 0 4 zq_k0 rfl zq_j_4_5 zw_178 rfl zd_PT_rule_39 ?_
  refine zi_get (pc := 42) h zx_RS 8 0 zq_k8 rfl zq_j_0_1 zw_170 rfl zd_PT_rule_42 ?_
  refine zi_iload_n (pc := 45) h (i := 1) zd_PT_rule_45 rfl 1 rfl ?_
  refine zi_aaldR (pc := 46) h 9 zq_k9 rfl (zz_ixN (j := i) hi) rfl zd_PT_rule_46 ?_
  refine zi_iload_n (pc := 47) h (i := 2) zd_PT_rule_47 rfl 2 rfl ?_
  refine zi_iload_n (pc := 48) h (i := 3) zd_PT_rule_48 rfl 3 rfl ?_
  refine zi_iload (pc := 49) h (i := 4) zd_PT_rule_49 4 rfl ?_
  refine zi_iload (pc := 51) h (i := 5) zd_PT_rule_51 5 rfl ?_
  refine zi_callVv (pc := 53) h (st := []) (zc_RU_become (j := i) hi hp) zm_RU_become zw_552 zx_RU (zq_ru hi) (zk_at_ru _ hi) ⟨by decide, by decide⟩ zd_PT_rule_53 (Nat.le_of_ble_eq_true rfl) rfl ?_
  refine zi_aload_n (pc := 56) h (i := 0) zd_PT_rule_56 rfl 0 rfl ?_
  refine zi_get (pc := 57) h zx_PT 0 4 zq_k0 rfl zq_j_4_5 zw_178 rfl zd_PT_rule_57 ?_
  refine zi_callV (pc := 60) h (st := []) (zc_RS_count) zm_RS_count zw_556 zx_RS zq_k8 rfl ⟨by decide, by decide⟩ zd_PT_rule_60 (Nat.le_of_ble_eq_true rfl) rfl ?_
  exact zi_ireturn (pc := 63) h hr zd_PT_rule_63 rfl rfl

set_option maxRecDepth 20000 in
theorem zc_PT_rule_ok1 {l : Launch} {G : zz_G} {F : Nat → va_E} {v : Nat → Int32} {sz : Int32} {lv : Nat → Int32} {lz : Int32} {su : Nat → Int32} {pm : Nat → Nat} {cn : Int32} {fl : Nat → Nat → Int32} {ru : Nat → Nat → Int32} {i : Nat} {k w b p : Int32} (hi : i < 4) (hk : ¬ k = 0) (hk2 : ¬ zs_isk k = 0) (hb1 : ¬ b < 0) (hb2 : b ≤ 32) (hp : p = 0 ∨ p = 1) : zz_M l zy_PT_rule zb_PT_rule 6 (some .int) 1 40 G [.ref (G.2.2 0), .int (nI i), .int k, .int w, .int b, .int p] (zz_K G F v sz lv lz su pm cn fl ru) (some (.int (zs_rc (va_up ru i (zs_bec (ru i) k w b p)) 0 4 0))) (zz_K G F v sz lv lz su pm cn fl (va_up ru i (zs_bec (ru i) k w b p))) := by
  refine zz_M.of (by decide) (Nat.le_of_ble_eq_true rfl) ?_
  intro X hX h hr
  subst hX
  have h : zz_C X G (zz_A G.2.2) 6 zb_PT_rule "PortTranslator" 1 40 0 0 := h
  refine zi_iload_n (pc := 0) h (i := 1) zd_PT_rule_0 rfl 1 rfl ?_
  refine zi_callS (pc := 1) h (st := []) (zc_RS_isNumber) zm_RS_isNumber zw_548 ⟨by decide, by decide⟩ zd_PT_rule_1 (Nat.le_of_ble_eq_true rfl) rfl ?_
  refine zi_topv (1) (zs_isn_ok hi) ?_
  refine zi_if_eq_f (pc := 4) h (tgt := 30) zd_PT_rule_4 rfl (by decide) ?_
  refine zi_iload_n (pc := 7) h (i := 2) zd_PT_rule_7 rfl 2 rfl ?_
  refine zi_if_eq_f (pc := 8) h (tgt := 18) zd_PT_rule_8 rfl hk ?_
  refine zi_iload_n (pc := 11) h (i := 2) zd_PT_rule_11 rfl 2 rfl ?_
  refine zi_callS (pc := 12) h (st := []) (zc_PT_isKind) zm_PT_isKind zw_551 ⟨by decide, by decide⟩ zd_PT_rule_12 (Nat.le_of_ble_eq_true rfl) rfl ?_
  refine zi_if_eq_f (pc := 15) h (tgt := 30) zd_PT_rule_15 rfl hk2 ?_
  refine zi_iload (pc := 18) h (i := 4) zd_PT_rule_18 4 rfl ?_
  refine zi_if_lt_f (pc := 20) h (tgt := 30) zd_PT_rule_20 rfl hb1 ?_
  refine zi_iload (pc := 23) h (i := 4) zd_PT_rule_23 4 rfl ?_
  refine zi_bipush (pc := 25) h zd_PT_rule_25 zq_bi_32 ?_
  refine zi_icmp_le_t (pc := 27) h (tgt := 38) zd_PT_rule_27 rfl hb2 ?_
  refine zi_aload_n (pc := 38) h (i := 0) zd_PT_rule_38 rfl 0 rfl ?_
  refine zi_get (pc := 39) h zx_PT 0 4 zq_k0 rfl zq_j_4_5 zw_178 rfl zd_PT_rule_39 ?_
  refine zi_get (pc := 42) h zx_RS 8 0 zq_k8 rfl zq_j_0_1 zw_170 rfl zd_PT_rule_42 ?_
  refine zi_iload_n (pc := 45) h (i := 1) zd_PT_rule_45 rfl 1 rfl ?_
  refine zi_aaldR (pc := 46) h 9 zq_k9 rfl (zz_ixN (j := i) hi) rfl zd_PT_rule_46 ?_
  refine zi_iload_n (pc := 47) h (i := 2) zd_PT_rule_47 rfl 2 rfl ?_
  refine zi_iload_n (pc := 48) h (i := 3) zd_PT_rule_48 rfl 3 rfl ?_
  refine zi_iload (pc := 49) h (i := 4) zd_PT_rule_49 4 rfl ?_
  refine zi_iload (pc := 51) h (i := 5) zd_PT_rule_51 5 rfl ?_
  refine zi_callVv (pc := 53) h (st := []) (zc_RU_become (j := i) hi hp) zm_RU_become zw_552 zx_RU (zq_ru hi) (zk_at_ru _ hi) ⟨by decide, by decide⟩ zd_PT_rule_53 (Nat.le_of_ble_eq_true rfl) rfl ?_
  refine zi_aload_n (pc := 56) h (i := 0) zd_PT_rule_56 rfl 0 rfl ?_
  refine zi_get (pc := 57) h zx_PT 0 4 zq_k0 rfl zq_j_4_5 zw_178 rfl zd_PT_rule_57 ?_
  refine zi_callV (pc := 60) h (st := []) (zc_RS_count) zm_RS_count zw_556 zx_RS zq_k8 rfl ⟨by decide, by decide⟩ zd_PT_rule_60 (Nat.le_of_ble_eq_true rfl) rfl ?_
  exact zi_ireturn (pc := 63) h hr zd_PT_rule_63 rfl rfl

set_option maxRecDepth 20000 in
theorem zc_PT_forget_ok {l : Launch} {G : zz_G} {F : Nat → va_E} {v : Nat → Int32} {sz : Int32} {lv : Nat → Int32} {lz : Int32} {su : Nat → Int32} {pm : Nat → Nat} {cn : Int32} {fl : Nat → Nat → Int32} {ru : Nat → Nat → Int32} {i : Nat} (hi : i < 4) (hk : ¬ ru i 0 = 0) : zz_M l zy_PT_forget zb_PT_forget 2 (some .int) 1 40 G [.ref (G.2.2 0), .int (nI i)] (zz_K G F v sz lv lz su pm cn fl ru) (some (.int (zs_rc (va_up ru i (va_up (ru i) 0 0)) 0 4 0))) (zz_K G F v sz lv lz su pm cn fl (va_up ru i (va_up (ru i) 0 0))) := by
  refine zz_M.of (by decide) (Nat.le_of_ble_eq_true rfl) ?_
  intro X hX h hr
  subst hX
  have h : zz_C X G (zz_A G.2.2) 2 zb_PT_forget "PortTranslator" 1 40 0 0 := h
  refine zi_iload_n (pc := 0) h (i := 1) zd_PT_forget_0 rfl 1 rfl ?_
  refine zi_callS (pc := 1) h (st := []) (zc_RS_isNumber) zm_RS_isNumber zw_548 ⟨by decide, by decide⟩ zd_PT_forget_1 (Nat.le_of_ble_eq_true rfl) rfl ?_
  refine zi_topv (1) (zs_isn_ok hi) ?_
  refine zi_if_eq_f (pc := 4) h (tgt := 22) zd_PT_forget_4 rfl (by decide) ?_
  refine zi_aload_n (pc := 7) h (i := 0) zd_PT_forget_7 rfl 0 rfl ?_
  refine zi_get (pc := 8) h zx_PT 0 4 zq_k0 rfl zq_j_4_5 zw_178 rfl zd_PT_forget_8 ?_
  refine zi_get (pc := 11) h zx_RS 8 0 zq_k8 rfl zq_j_0_1 zw_170 rfl zd_PT_forget_11 ?_
  refine zi_iload_n (pc := 14) h (i := 1) zd_PT_forget_14 rfl 1 rfl ?_
  refine zi_aaldR (pc := 15) h 9 zq_k9 rfl (zz_ixN (j := i) hi) rfl zd_PT_forget_15 ?_
  refine zi_get (pc := 16) h zx_RU _ 0 (zq_ru hi) (zk_at_ru _ hi) zq_j_0_5 zw_152 rfl zd_PT_forget_16 ?_
  refine zi_if_ne_t (pc := 19) h (tgt := 30) zd_PT_forget_19 rfl hk ?_
  refine zi_aload_n (pc := 30) h (i := 0) zd_PT_forget_30 rfl 0 rfl ?_
  refine zi_get (pc := 31) h zx_PT 0 4 zq_k0 rfl zq_j_4_5 zw_178 rfl zd_PT_forget_31 ?_
  refine zi_get (pc := 34) h zx_RS 8 0 zq_k8 rfl zq_j_0_1 zw_170 rfl zd_PT_forget_34 ?_
  refine zi_iload_n (pc := 37) h (i := 1) zd_PT_forget_37 rfl 1 rfl ?_
  refine zi_aaldR (pc := 38) h 9 zq_k9 rfl (zz_ixN (j := i) hi) rfl zd_PT_forget_38 ?_
  refine zi_iconst (pc := 39) h zd_PT_forget_39 zq_ic_0 ?_
  refine zi_put (pc := 40) h zx_RU _ 0 (zq_ru hi) (zk_at_ru _ hi) zq_j_0_5 zw_152 rfl rfl rfl (Nat.le_of_ble_eq_true rfl) zd_PT_forget_40 (zk_s_ru _ hi 0 (by decide)) ?_
  refine zi_aload_n (pc := 43) h (i := 0) zd_PT_forget_43 rfl 0 rfl ?_
  refine zi_get (pc := 44) h zx_PT 0 4 zq_k0 rfl zq_j_4_5 zw_178 rfl zd_PT_forget_44 ?_
  refine zi_callV (pc := 47) h (st := []) (zc_RS_count) zm_RS_count zw_556 zx_RS zq_k8 rfl ⟨by decide, by decide⟩ zd_PT_forget_47 (Nat.le_of_ble_eq_true rfl) rfl ?_
  exact zi_ireturn (pc := 50) h hr zd_PT_forget_50 rfl rfl

set_option maxRecDepth 20000 in
theorem zc_PT_flow_0 {l : Launch} {G : zz_G} {F : Nat → va_E} {v : Nat → Int32} {sz : Int32} {lv : Nat → Int32} {lz : Int32} {su : Nat → Int32} {pm : Nat → Nat} {fl : Nat → Nat → Int32} {ru : Nat → Nat → Int32} {c i : Nat} (hpm : ∀ i, pm i < 12) (hc : c ≤ 12) (hi : i < c) : zz_M l zy_PT_flow zb_PT_flow 3 (some .int) 1 40 G [.ref (G.2.2 0), .int (nI i), .int 0] (zz_K G F v sz lv lz su pm (nI c) fl ru) (some (.int (fl (pm i) 0))) (zz_K G F v sz lv lz su pm (nI c) fl ru) := by
  refine zz_M.of (by decide) (Nat.le_of_ble_eq_true rfl) ?_
  intro X hX h hr
  subst hX
  have h : zz_C X G (zz_A G.2.2) 3 zb_PT_flow "PortTranslator" 1 40 0 0 := h
  refine zi_iload_n (pc := 0) h (i := 1) zd_PT_flow_0 rfl 1 rfl ?_
  refine zi_if_lt_f (pc := 1) h (tgt := 15) zd_PT_flow_1 rfl (nI_pos (by omega)) ?_
  refine zi_iload_n (pc := 4) h (i := 1) zd_PT_flow_4 rfl 1 rfl ?_
  refine zi_aload_n (pc := 5) h (i := 0) zd_PT_flow_5 rfl 0 rfl ?_
  refine zi_get (pc := 6) h zx_PT 0 3 zq_k0 rfl zq_j_3_5 zw_177 rfl zd_PT_flow_6 ?_
  refine zi_get (pc := 9) h zx_FT 6 1 zq_k6 rfl zq_j_1_2 zw_131 rfl zd_PT_flow_9 ?_
  refine zi_icmp_lt_t (pc := 12) h (tgt := 23) zd_PT_flow_12 rfl (nI_lt hi (by omega)) ?_
  refine zi_iload_n (pc := 23) h (i := 2) zd_PT_flow_23 rfl 2 rfl ?_
  refine zi_if_lt_f (pc := 24) h (tgt := 33) zd_PT_flow_24 rfl (by decide) ?_
  refine zi_iload_n (pc := 27) h (i := 2) zd_PT_flow_27 rfl 2 rfl ?_
  refine zi_bipush (pc := 28) h zd_PT_flow_28 zq_bi_7 ?_
  refine zi_icmp_le_t (pc := 30) h (tgt := 41) zd_PT_flow_30 rfl (by decide) ?_
  refine zi_aload_n (pc := 41) h (i := 0) zd_PT_flow_41 rfl 0 rfl ?_
  refine zi_get (pc := 42) h zx_PT 0 3 zq_k0 rfl zq_j_3_5 zw_177 rfl zd_PT_flow_42 ?_
  refine zi_get (pc := 45) h zx_FT 6 0 zq_k6 rfl zq_j_0_2 zw_129 rfl zd_PT_flow_45 ?_
  refine zi_iload_n (pc := 48) h (i := 1) zd_PT_flow_48 rfl 1 rfl ?_
  refine zi_aaldF (pc := 49) h 7 zq_k7 rfl (zz_ixN (j := i) (by omega)) rfl zd_PT_flow_49 ?_
  refine zi_iload_n (pc := 50) h (i := 2) zd_PT_flow_50 rfl 2 rfl ?_
  refine zi_callV (pc := 51) h (st := []) (zc_FL_detail_0 (hpm i)) zm_FL_detail zw_574 zx_FL (zq_fl (hpm _)) (zk_at_fl _ (hpm _)) ⟨by decide, by decide⟩ zd_PT_flow_51 (Nat.le_of_ble_eq_true rfl) rfl ?_
  exact zi_ireturn (pc := 54) h hr zd_PT_flow_54 rfl rfl

set_option maxRecDepth 20000 in
theorem zc_PT_flow_1 {l : Launch} {G : zz_G} {F : Nat → va_E} {v : Nat → Int32} {sz : Int32} {lv : Nat → Int32} {lz : Int32} {su : Nat → Int32} {pm : Nat → Nat} {fl : Nat → Nat → Int32} {ru : Nat → Nat → Int32} {c i : Nat} (hpm : ∀ i, pm i < 12) (hc : c ≤ 12) (hi : i < c) : zz_M l zy_PT_flow zb_PT_flow 3 (some .int) 1 40 G [.ref (G.2.2 0), .int (nI i), .int 1] (zz_K G F v sz lv lz su pm (nI c) fl ru) (some (.int (fl (pm i) 1))) (zz_K G F v sz lv lz su pm (nI c) fl ru) := by
  refine zz_M.of (by decide) (Nat.le_of_ble_eq_true rfl) ?_
  intro X hX h hr
  subst hX
  have h : zz_C X G (zz_A G.2.2) 3 zb_PT_flow "PortTranslator" 1 40 0 0 := h
  refine zi_iload_n (pc := 0) h (i := 1) zd_PT_flow_0 rfl 1 rfl ?_
  refine zi_if_lt_f (pc := 1) h (tgt := 15) zd_PT_flow_1 rfl (nI_pos (by omega)) ?_
  refine zi_iload_n (pc := 4) h (i := 1) zd_PT_flow_4 rfl 1 rfl ?_
  refine zi_aload_n (pc := 5) h (i := 0) zd_PT_flow_5 rfl 0 rfl ?_
  refine zi_get (pc := 6) h zx_PT 0 3 zq_k0 rfl zq_j_3_5 zw_177 rfl zd_PT_flow_6 ?_
  refine zi_get (pc := 9) h zx_FT 6 1 zq_k6 rfl zq_j_1_2 zw_131 rfl zd_PT_flow_9 ?_
  refine zi_icmp_lt_t (pc := 12) h (tgt := 23) zd_PT_flow_12 rfl (nI_lt hi (by omega)) ?_
  refine zi_iload_n (pc := 23) h (i := 2) zd_PT_flow_23 rfl 2 rfl ?_
  refine zi_if_lt_f (pc := 24) h (tgt := 33) zd_PT_flow_24 rfl (by decide) ?_
  refine zi_iload_n (pc := 27) h (i := 2) zd_PT_flow_27 rfl 2 rfl ?_
  refine zi_bipush (pc := 28) h zd_PT_flow_28 zq_bi_7 ?_
  refine zi_icmp_le_t (pc := 30) h (tgt := 41) zd_PT_flow_30 rfl (by decide) ?_
  refine zi_aload_n (pc := 41) h (i := 0) zd_PT_flow_41 rfl 0 rfl ?_
  refine zi_get (pc := 42) h zx_PT 0 3 zq_k0 rfl zq_j_3_5 zw_177 rfl zd_PT_flow_42 ?_
  refine zi_get (pc := 45) h zx_FT 6 0 zq_k6 rfl zq_j_0_2 zw_129 rfl zd_PT_flow_45 ?_
  refine zi_iload_n (pc := 48) h (i := 1) zd_PT_flow_48 rfl 1 rfl ?_
  refine zi_aaldF (pc := 49) h 7 zq_k7 rfl (zz_ixN (j := i) (by omega)) rfl zd_PT_flow_49 ?_
  refine zi_iload_n (pc := 50) h (i := 2) zd_PT_flow_50 rfl 2 rfl ?_
  refine zi_callV (pc := 51) h (st := []) (zc_FL_detail_1 (hpm i)) zm_FL_detail zw_574 zx_FL (zq_fl (hpm _)) (zk_at_fl _ (hpm _)) ⟨by decide, by decide⟩ zd_PT_flow_51 (Nat.le_of_ble_eq_true rfl) rfl ?_
  exact zi_ireturn (pc := 54) h hr zd_PT_flow_54 rfl rfl

set_option maxRecDepth 20000 in
theorem zc_PT_flow_2 {l : Launch} {G : zz_G} {F : Nat → va_E} {v : Nat → Int32} {sz : Int32} {lv : Nat → Int32} {lz : Int32} {su : Nat → Int32} {pm : Nat → Nat} {fl : Nat → Nat → Int32} {ru : Nat → Nat → Int32} {c i : Nat} (hpm : ∀ i, pm i < 12) (hc : c ≤ 12) (hi : i < c) : zz_M l zy_PT_flow zb_PT_flow 3 (some .int) 1 40 G [.ref (G.2.2 0), .int (nI i), .int 2] (zz_K G F v sz lv lz su pm (nI c) fl ru) (some (.int (fl (pm i) 2))) (zz_K G F v sz lv lz su pm (nI c) fl ru) := by
  refine zz_M.of (by decide) (Nat.le_of_ble_eq_true rfl) ?_
  intro X hX h hr
  subst hX
  have h : zz_C X G (zz_A G.2.2) 3 zb_PT_flow "PortTranslator" 1 40 0 0 := h
  refine zi_iload_n (pc := 0) h (i := 1) zd_PT_flow_0 rfl 1 rfl ?_
  refine zi_if_lt_f (pc := 1) h (tgt := 15) zd_PT_flow_1 rfl (nI_pos (by omega)) ?_
  refine zi_iload_n (pc := 4) h (i := 1) zd_PT_flow_4 rfl 1 rfl ?_
  refine zi_aload_n (pc := 5) h (i := 0) zd_PT_flow_5 rfl 0 rfl ?_
  refine zi_get (pc := 6) h zx_PT 0 3 zq_k0 rfl zq_j_3_5 zw_177 rfl zd_PT_flow_6 ?_
  refine zi_get (pc := 9) h zx_FT 6 1 zq_k6 rfl zq_j_1_2 zw_131 rfl zd_PT_flow_9 ?_
  refine zi_icmp_lt_t (pc := 12) h (tgt := 23) zd_PT_flow_12 rfl (nI_lt hi (by omega)) ?_
  refine zi_iload_n (pc := 23) h (i := 2) zd_PT_flow_23 rfl 2 rfl ?_
  refine zi_if_lt_f (pc := 24) h (tgt := 33) zd_PT_flow_24 rfl (by decide) ?_
  refine zi_iload_n (pc := 27) h (i := 2) zd_PT_flow_27 rfl 2 rfl ?_
  refine zi_bipush (pc := 28) h zd_PT_flow_28 zq_bi_7 ?_
  refine zi_icmp_le_t (pc := 30) h (tgt := 41) zd_PT_flow_30 rfl (by decide) ?_
  refine zi_aload_n (pc := 41) h (i := 0) zd_PT_flow_41 rfl 0 rfl ?_
  refine zi_get (pc := 42) h zx_PT 0 3 zq_k0 rfl zq_j_3_5 zw_177 rfl zd_PT_flow_42 ?_
  refine zi_get (pc := 45) h zx_FT 6 0 zq_k6 rfl zq_j_0_2 zw_129 rfl zd_PT_flow_45 ?_
  refine zi_iload_n (pc := 48) h (i := 1) zd_PT_flow_48 rfl 1 rfl ?_
  refine zi_aaldF (pc := 49) h 7 zq_k7 rfl (zz_ixN (j := i) (by omega)) rfl zd_PT_flow_49 ?_
  refine zi_iload_n (pc := 50) h (i := 2) zd_PT_flow_50 rfl 2 rfl ?_
  refine zi_callV (pc := 51) h (st := []) (zc_FL_detail_2 (hpm i)) zm_FL_detail zw_574 zx_FL (zq_fl (hpm _)) (zk_at_fl _ (hpm _)) ⟨by decide, by decide⟩ zd_PT_flow_51 (Nat.le_of_ble_eq_true rfl) rfl ?_
  exact zi_ireturn (pc := 54) h hr zd_PT_flow_54 rfl rfl

set_option maxRecDepth 20000 in
theorem zc_PT_flow_3 {l : Launch} {G : zz_G} {F : Nat → va_E} {v : Nat → Int32} {sz : Int32} {lv : Nat → Int32} {lz : Int32} {su : Nat → Int32} {pm : Nat → Nat} {fl : Nat → Nat → Int32} {ru : Nat → Nat → Int32} {c i : Nat} (hpm : ∀ i, pm i < 12) (hc : c ≤ 12) (hi : i < c) : zz_M l zy_PT_flow zb_PT_flow 3 (some .int) 1 40 G [.ref (G.2.2 0), .int (nI i), .int 3] (zz_K G F v sz lv lz su pm (nI c) fl ru) (some (.int (fl (pm i) 3))) (zz_K G F v sz lv lz su pm (nI c) fl ru) := by
  refine zz_M.of (by decide) (Nat.le_of_ble_eq_true rfl) ?_
  intro X hX h hr
  subst hX
  have h : zz_C X G (zz_A G.2.2) 3 zb_PT_flow "PortTranslator" 1 40 0 0 := h
  refine zi_iload_n (pc := 0) h (i := 1) zd_PT_flow_0 rfl 1 rfl ?_
  refine zi_if_lt_f (pc := 1) h (tgt := 15) zd_PT_flow_1 rfl (nI_pos (by omega)) ?_
  refine zi_iload_n (pc := 4) h (i := 1) zd_PT_flow_4 rfl 1 rfl ?_
  refine zi_aload_n (pc := 5) h (i := 0) zd_PT_flow_5 rfl 0 rfl ?_
  refine zi_get (pc := 6) h zx_PT 0 3 zq_k0 rfl zq_j_3_5 zw_177 rfl zd_PT_flow_6 ?_
  refine zi_get (pc := 9) h zx_FT 6 1 zq_k6 rfl zq_j_1_2 zw_131 rfl zd_PT_flow_9 ?_
  refine zi_icmp_lt_t (pc := 12) h (tgt := 23) zd_PT_flow_12 rfl (nI_lt hi (by omega)) ?_
  refine zi_iload_n (pc := 23) h (i := 2) zd_PT_flow_23 rfl 2 rfl ?_
  refine zi_if_lt_f (pc := 24) h (tgt := 33) zd_PT_flow_24 rfl (by decide) ?_
  refine zi_iload_n (pc := 27) h (i := 2) zd_PT_flow_27 rfl 2 rfl ?_
  refine zi_bipush (pc := 28) h zd_PT_flow_28 zq_bi_7 ?_
  refine zi_icmp_le_t (pc := 30) h (tgt := 41) zd_PT_flow_30 rfl (by decide) ?_
  refine zi_aload_n (pc := 41) h (i := 0) zd_PT_flow_41 rfl 0 rfl ?_
  refine zi_get (pc := 42) h zx_PT 0 3 zq_k0 rfl zq_j_3_5 zw_177 rfl zd_PT_flow_42 ?_
  refine zi_get (pc := 45) h zx_FT 6 0 zq_k6 rfl zq_j_0_2 zw_129 rfl zd_PT_flow_45 ?_
  refine zi_iload_n (pc := 48) h (i := 1) zd_PT_flow_48 rfl 1 rfl ?_
  refine zi_aaldF (pc := 49) h 7 zq_k7 rfl (zz_ixN (j := i) (by omega)) rfl zd_PT_flow_49 ?_
  refine zi_iload_n (pc := 50) h (i := 2) zd_PT_flow_50 rfl 2 rfl ?_
  refine zi_callV (pc := 51) h (st := []) (zc_FL_detail_3 (hpm i)) zm_FL_detail zw_574 zx_FL (zq_fl (hpm _)) (zk_at_fl _ (hpm _)) ⟨by decide, by decide⟩ zd_PT_flow_51 (Nat.le_of_ble_eq_true rfl) rfl ?_
  exact zi_ireturn (pc := 54) h hr zd_PT_flow_54 rfl rfl

set_option maxRecDepth 20000 in
theorem zc_PT_flow_4 {l : Launch} {G : zz_G} {F : Nat → va_E} {v : Nat → Int32} {sz : Int32} {lv : Nat → Int32} {lz : Int32} {su : Nat → Int32} {pm : Nat → Nat} {fl : Nat → Nat → Int32} {ru : Nat → Nat → Int32} {c i : Nat} (hpm : ∀ i, pm i < 12) (hc : c ≤ 12) (hi : i < c) : zz_M l zy_PT_flow zb_PT_flow 3 (some .int) 1 40 G [.ref (G.2.2 0), .int (nI i), .int 4] (zz_K G F v sz lv lz su pm (nI c) fl ru) (some (.int (fl (pm i) 4))) (zz_K G F v sz lv lz su pm (nI c) fl ru) := by
  refine zz_M.of (by decide) (Nat.le_of_ble_eq_true rfl) ?_
  intro X hX h hr
  subst hX
  have h : zz_C X G (zz_A G.2.2) 3 zb_PT_flow "PortTranslator" 1 40 0 0 := h
  refine zi_iload_n (pc := 0) h (i := 1) zd_PT_flow_0 rfl 1 rfl ?_
  refine zi_if_lt_f (pc := 1) h (tgt := 15) zd_PT_flow_1 rfl (nI_pos (by omega)) ?_
  refine zi_iload_n (pc := 4) h (i := 1) zd_PT_flow_4 rfl 1 rfl ?_
  refine zi_aload_n (pc := 5) h (i := 0) zd_PT_flow_5 rfl 0 rfl ?_
  refine zi_get (pc := 6) h zx_PT 0 3 zq_k0 rfl zq_j_3_5 zw_177 rfl zd_PT_flow_6 ?_
  refine zi_get (pc := 9) h zx_FT 6 1 zq_k6 rfl zq_j_1_2 zw_131 rfl zd_PT_flow_9 ?_
  refine zi_icmp_lt_t (pc := 12) h (tgt := 23) zd_PT_flow_12 rfl (nI_lt hi (by omega)) ?_
  refine zi_iload_n (pc := 23) h (i := 2) zd_PT_flow_23 rfl 2 rfl ?_
  refine zi_if_lt_f (pc := 24) h (tgt := 33) zd_PT_flow_24 rfl (by decide) ?_
  refine zi_iload_n (pc := 27) h (i := 2) zd_PT_flow_27 rfl 2 rfl ?_
  refine zi_bipush (pc := 28) h zd_PT_flow_28 zq_bi_7 ?_
  refine zi_icmp_le_t (pc := 30) h (tgt := 41) zd_PT_flow_30 rfl (by decide) ?_
  refine zi_aload_n (pc := 41) h (i := 0) zd_PT_flow_41 rfl 0 rfl ?_
  refine zi_get (pc := 42) h zx_PT 0 3 zq_k0 rfl zq_j_3_5 zw_177 rfl zd_PT_flow_42 ?_
  refine zi_get (pc := 45) h zx_FT 6 0 zq_k6 rfl zq_j_0_2 zw_129 rfl zd_PT_flow_45 ?_
  refine zi_iload_n (pc := 48) h (i := 1) zd_PT_flow_48 rfl 1 rfl ?_
  refine zi_aaldF (pc := 49) h 7 zq_k7 rfl (zz_ixN (j := i) (by omega)) rfl zd_PT_flow_49 ?_
  refine zi_iload_n (pc := 50) h (i := 2) zd_PT_flow_50 rfl 2 rfl ?_
  refine zi_callV (pc := 51) h (st := []) (zc_FL_detail_4 (hpm i)) zm_FL_detail zw_574 zx_FL (zq_fl (hpm _)) (zk_at_fl _ (hpm _)) ⟨by decide, by decide⟩ zd_PT_flow_51 (Nat.le_of_ble_eq_true rfl) rfl ?_
  exact zi_ireturn (pc := 54) h hr zd_PT_flow_54 rfl rfl

set_option maxRecDepth 20000 in
theorem zc_PT_flow_5 {l : Launch} {G : zz_G} {F : Nat → va_E} {v : Nat → Int32} {sz : Int32} {lv : Nat → Int32} {lz : Int32} {su : Nat → Int32} {pm : Nat → Nat} {fl : Nat → Nat → Int32} {ru : Nat → Nat → Int32} {c i : Nat} (hpm : ∀ i, pm i < 12) (hc : c ≤ 12) (hi : i < c) : zz_M l zy_PT_flow zb_PT_flow 3 (some .int) 1 40 G [.ref (G.2.2 0), .int (nI i), .int 5] (zz_K G F v sz lv lz su pm (nI c) fl ru) (some (.int (fl (pm i) 5))) (zz_K G F v sz lv lz su pm (nI c) fl ru) := by
  refine zz_M.of (by decide) (Nat.le_of_ble_eq_true rfl) ?_
  intro X hX h hr
  subst hX
  have h : zz_C X G (zz_A G.2.2) 3 zb_PT_flow "PortTranslator" 1 40 0 0 := h
  refine zi_iload_n (pc := 0) h (i := 1) zd_PT_flow_0 rfl 1 rfl ?_
  refine zi_if_lt_f (pc := 1) h (tgt := 15) zd_PT_flow_1 rfl (nI_pos (by omega)) ?_
  refine zi_iload_n (pc := 4) h (i := 1) zd_PT_flow_4 rfl 1 rfl ?_
  refine zi_aload_n (pc := 5) h (i := 0) zd_PT_flow_5 rfl 0 rfl ?_
  refine zi_get (pc := 6) h zx_PT 0 3 zq_k0 rfl zq_j_3_5 zw_177 rfl zd_PT_flow_6 ?_
  refine zi_get (pc := 9) h zx_FT 6 1 zq_k6 rfl zq_j_1_2 zw_131 rfl zd_PT_flow_9 ?_
  refine zi_icmp_lt_t (pc := 12) h (tgt := 23) zd_PT_flow_12 rfl (nI_lt hi (by omega)) ?_
  refine zi_iload_n (pc := 23) h (i := 2) zd_PT_flow_23 rfl 2 rfl ?_
  refine zi_if_lt_f (pc := 24) h (tgt := 33) zd_PT_flow_24 rfl (by decide) ?_
  refine zi_iload_n (pc := 27) h (i := 2) zd_PT_flow_27 rfl 2 rfl ?_
  refine zi_bipush (pc := 28) h zd_PT_flow_28 zq_bi_7 ?_
  refine zi_icmp_le_t (pc := 30) h (tgt := 41) zd_PT_flow_30 rfl (by decide) ?_
  refine zi_aload_n (pc := 41) h (i := 0) zd_PT_flow_41 rfl 0 rfl ?_
  refine zi_get (pc := 42) h zx_PT 0 3 zq_k0 rfl zq_j_3_5 zw_177 rfl zd_PT_flow_42 ?_
  refine zi_get (pc := 45) h zx_FT 6 0 zq_k6 rfl zq_j_0_2 zw_129 rfl zd_PT_flow_45 ?_
  refine zi_iload_n (pc := 48) h (i := 1) zd_PT_flow_48 rfl 1 rfl ?_
  refine zi_aaldF (pc := 49) h 7 zq_k7 rfl (zz_ixN (j := i) (by omega)) rfl zd_PT_flow_49 ?_
  refine zi_iload_n (pc := 50) h (i := 2) zd_PT_flow_50 rfl 2 rfl ?_
  refine zi_callV (pc := 51) h (st := []) (zc_FL_detail_5 (hpm i)) zm_FL_detail zw_574 zx_FL (zq_fl (hpm _)) (zk_at_fl _ (hpm _)) ⟨by decide, by decide⟩ zd_PT_flow_51 (Nat.le_of_ble_eq_true rfl) rfl ?_
  exact zi_ireturn (pc := 54) h hr zd_PT_flow_54 rfl rfl

set_option maxRecDepth 20000 in
theorem zc_PT_flow_6 {l : Launch} {G : zz_G} {F : Nat → va_E} {v : Nat → Int32} {sz : Int32} {lv : Nat → Int32} {lz : Int32} {su : Nat → Int32} {pm : Nat → Nat} {fl : Nat → Nat → Int32} {ru : Nat → Nat → Int32} {c i : Nat} (hpm : ∀ i, pm i < 12) (hc : c ≤ 12) (hi : i < c) : zz_M l zy_PT_flow zb_PT_flow 3 (some .int) 1 40 G [.ref (G.2.2 0), .int (nI i), .int 6] (zz_K G F v sz lv lz su pm (nI c) fl ru) (some (.int (fl (pm i) 6))) (zz_K G F v sz lv lz su pm (nI c) fl ru) := by
  refine zz_M.of (by decide) (Nat.le_of_ble_eq_true rfl) ?_
  intro X hX h hr
  subst hX
  have h : zz_C X G (zz_A G.2.2) 3 zb_PT_flow "PortTranslator" 1 40 0 0 := h
  refine zi_iload_n (pc := 0) h (i := 1) zd_PT_flow_0 rfl 1 rfl ?_
  refine zi_if_lt_f (pc := 1) h (tgt := 15) zd_PT_flow_1 rfl (nI_pos (by omega)) ?_
  refine zi_iload_n (pc := 4) h (i := 1) zd_PT_flow_4 rfl 1 rfl ?_
  refine zi_aload_n (pc := 5) h (i := 0) zd_PT_flow_5 rfl 0 rfl ?_
  refine zi_get (pc := 6) h zx_PT 0 3 zq_k0 rfl zq_j_3_5 zw_177 rfl zd_PT_flow_6 ?_
  refine zi_get (pc := 9) h zx_FT 6 1 zq_k6 rfl zq_j_1_2 zw_131 rfl zd_PT_flow_9 ?_
  refine zi_icmp_lt_t (pc := 12) h (tgt := 23) zd_PT_flow_12 rfl (nI_lt hi (by omega)) ?_
  refine zi_iload_n (pc := 23) h (i := 2) zd_PT_flow_23 rfl 2 rfl ?_
  refine zi_if_lt_f (pc := 24) h (tgt := 33) zd_PT_flow_24 rfl (by decide) ?_
  refine zi_iload_n (pc := 27) h (i := 2) zd_PT_flow_27 rfl 2 rfl ?_
  refine zi_bipush (pc := 28) h zd_PT_flow_28 zq_bi_7 ?_
  refine zi_icmp_le_t (pc := 30) h (tgt := 41) zd_PT_flow_30 rfl (by decide) ?_
  refine zi_aload_n (pc := 41) h (i := 0) zd_PT_flow_41 rfl 0 rfl ?_
  refine zi_get (pc := 42) h zx_PT 0 3 zq_k0 rfl zq_j_3_5 zw_177 rfl zd_PT_flow_42 ?_
  refine zi_get (pc := 45) h zx_FT 6 0 zq_k6 rfl zq_j_0_2 zw_129 rfl zd_PT_flow_45 ?_
  refine zi_iload_n (pc := 48) h (i := 1) zd_PT_flow_48 rfl 1 rfl ?_
  refine zi_aaldF (pc := 49) h 7 zq_k7 rfl (zz_ixN (j := i) (by omega)) rfl zd_PT_flow_49 ?_
  refine zi_iload_n (pc := 50) h (i := 2) zd_PT_flow_50 rfl 2 rfl ?_
  refine zi_callV (pc := 51) h (st := []) (zc_FL_detail_6 (hpm i)) zm_FL_detail zw_574 zx_FL (zq_fl (hpm _)) (zk_at_fl _ (hpm _)) ⟨by decide, by decide⟩ zd_PT_flow_51 (Nat.le_of_ble_eq_true rfl) rfl ?_
  exact zi_ireturn (pc := 54) h hr zd_PT_flow_54 rfl rfl

set_option maxRecDepth 20000 in
theorem zc_PT_flow_7 {l : Launch} {G : zz_G} {F : Nat → va_E} {v : Nat → Int32} {sz : Int32} {lv : Nat → Int32} {lz : Int32} {su : Nat → Int32} {pm : Nat → Nat} {fl : Nat → Nat → Int32} {ru : Nat → Nat → Int32} {c i : Nat} (hpm : ∀ i, pm i < 12) (hc : c ≤ 12) (hi : i < c) : zz_M l zy_PT_flow zb_PT_flow 3 (some .int) 1 40 G [.ref (G.2.2 0), .int (nI i), .int 7] (zz_K G F v sz lv lz su pm (nI c) fl ru) (some (.int (zs_flg (fl (pm i))))) (zz_K G F v sz lv lz su pm (nI c) fl ru) := by
  refine zz_M.of (by decide) (Nat.le_of_ble_eq_true rfl) ?_
  intro X hX h hr
  subst hX
  have h : zz_C X G (zz_A G.2.2) 3 zb_PT_flow "PortTranslator" 1 40 0 0 := h
  refine zi_iload_n (pc := 0) h (i := 1) zd_PT_flow_0 rfl 1 rfl ?_
  refine zi_if_lt_f (pc := 1) h (tgt := 15) zd_PT_flow_1 rfl (nI_pos (by omega)) ?_
  refine zi_iload_n (pc := 4) h (i := 1) zd_PT_flow_4 rfl 1 rfl ?_
  refine zi_aload_n (pc := 5) h (i := 0) zd_PT_flow_5 rfl 0 rfl ?_
  refine zi_get (pc := 6) h zx_PT 0 3 zq_k0 rfl zq_j_3_5 zw_177 rfl zd_PT_flow_6 ?_
  refine zi_get (pc := 9) h zx_FT 6 1 zq_k6 rfl zq_j_1_2 zw_131 rfl zd_PT_flow_9 ?_
  refine zi_icmp_lt_t (pc := 12) h (tgt := 23) zd_PT_flow_12 rfl (nI_lt hi (by omega)) ?_
  refine zi_iload_n (pc := 23) h (i := 2) zd_PT_flow_23 rfl 2 rfl ?_
  refine zi_if_lt_f (pc := 24) h (tgt := 33) zd_PT_flow_24 rfl (by decide) ?_
  refine zi_iload_n (pc := 27) h (i := 2) zd_PT_flow_27 rfl 2 rfl ?_
  refine zi_bipush (pc := 28) h zd_PT_flow_28 zq_bi_7 ?_
  refine zi_icmp_le_t (pc := 30) h (tgt := 41) zd_PT_flow_30 rfl (by decide) ?_
  refine zi_aload_n (pc := 41) h (i := 0) zd_PT_flow_41 rfl 0 rfl ?_
  refine zi_get (pc := 42) h zx_PT 0 3 zq_k0 rfl zq_j_3_5 zw_177 rfl zd_PT_flow_42 ?_
  refine zi_get (pc := 45) h zx_FT 6 0 zq_k6 rfl zq_j_0_2 zw_129 rfl zd_PT_flow_45 ?_
  refine zi_iload_n (pc := 48) h (i := 1) zd_PT_flow_48 rfl 1 rfl ?_
  refine zi_aaldF (pc := 49) h 7 zq_k7 rfl (zz_ixN (j := i) (by omega)) rfl zd_PT_flow_49 ?_
  refine zi_iload_n (pc := 50) h (i := 2) zd_PT_flow_50 rfl 2 rfl ?_
  refine zi_callV (pc := 51) h (st := []) (zc_FL_detail_7 (hpm i)) zm_FL_detail zw_574 zx_FL (zq_fl (hpm _)) (zk_at_fl _ (hpm _)) ⟨by decide, by decide⟩ zd_PT_flow_51 (Nat.le_of_ble_eq_true rfl) rfl ?_
  exact zi_ireturn (pc := 54) h hr zd_PT_flow_54 rfl rfl
