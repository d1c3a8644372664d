set_option maxRecDepth 20000 in
theorem zp_PT_isKind {l : Launch} {k : Int32} : zz_M0 l zy_PT_isKind zb_PT_isKind 1 (some .boolean) 0 0 [.int k] (some (.int (zs_isk k))) := by
  refine zz_M0.of (by decide) (Nat.le_of_ble_eq_true rfl) ?_
  intro X hX h hr
  have h : zz_B X 1 zb_PT_isKind "PortTranslator" 0 0 True := h
  refine zu_iload_n (pc := 0) h (i := 0) zd_PT_isKind_0 rfl 0 rfl ?_
  refine zu_iconst (pc := 1) h zd_PT_isKind_1 zq_ic_1 ?_
  refine zu_icmp_eq (pc := 2) h (tgt := 17) zd_PT_isKind_2 rfl ?_ ?_
  · intro b2
    refine zu_iconst (pc := 17) h zd_PT_isKind_17 zq_ic_1 ?_
    refine zu_goto (pc := 18) h (tgt := 22) zd_PT_isKind_18 rfl ?_
    exact zu_zreturn (pc := 22) h hr rfl zd_PT_isKind_22 (by rw [zs_isk, if_pos b2]) trivial
  · intro b2
    refine zu_iload_n (pc := 5) h (i := 0) zd_PT_isKind_5 rfl 0 rfl ?_
    refine zu_bipush (pc := 6) h zd_PT_isKind_6 zq_bi_6 ?_
    refine zu_icmp_eq (pc := 8) h (tgt := 17) zd_PT_isKind_8 rfl ?_ ?_
    · intro b8
      refine zu_iconst (pc := 17) h zd_PT_isKind_17 zq_ic_1 ?_
      refine zu_goto (pc := 18) h (tgt := 22) zd_PT_isKind_18 rfl ?_
      exact zu_zreturn (pc := 22) h hr rfl zd_PT_isKind_22 (by rw [zs_isk, if_neg b2, if_pos b8]) trivial
    · intro b8
      refine zu_iload_n (pc := 11) h (i := 0) zd_PT_isKind_11 rfl 0 rfl ?_
      refine zu_bipush (pc := 12) h zd_PT_isKind_12 zq_bi_17 ?_
      refine zu_icmp_ne (pc := 14) h (tgt := 21) zd_PT_isKind_14 rfl ?_ ?_
      · intro b14
        refine zu_iconst (pc := 21) h zd_PT_isKind_21 zq_ic_0 ?_
        exact zu_zreturn (pc := 22) h hr rfl zd_PT_isKind_22 (by rw [zs_isk, if_neg b2, if_neg b8, if_neg b14]) trivial
      · intro b14
        refine zu_iconst (pc := 17) h zd_PT_isKind_17 zq_ic_1 ?_
        refine zu_goto (pc := 18) h (tgt := 22) zd_PT_isKind_18 rfl ?_
        exact zu_zreturn (pc := 22) h hr rfl zd_PT_isKind_22 (by rw [zs_isk, if_neg b2, if_neg b8, if_pos b14]) trivial

set_option maxRecDepth 20000 in
theorem zp_RS_isNumber {l : Launch} {k : Int32} : zz_M0 l zy_RS_isNumber zb_RS_isNumber 1 (some .boolean) 0 0 [.int k] (some (.int (zs_isn k))) := by
  refine zz_M0.of (by decide) (Nat.le_of_ble_eq_true rfl) ?_
  intro X hX h hr
  have h : zz_B X 1 zb_RS_isNumber "PortTranslator$RuleList" 0 0 True := h
  refine zu_iload_n (pc := 0) h (i := 0) zd_RS_isNumber_0 rfl 0 rfl ?_
  refine zu_if_lt (pc := 1) h (tgt := 13) zd_RS_isNumber_1 rfl ?_ ?_
  · intro b1
    refine zu_iconst (pc := 13) h zd_RS_isNumber_13 zq_ic_0 ?_
    exact zu_zreturn (pc := 14) h hr rfl zd_RS_isNumber_14 (by rw [zs_isn, if_pos b1]) trivial
  · intro b1
    refine zu_iload_n (pc := 4) h (i := 0) zd_RS_isNumber_4 rfl 0 rfl ?_
    refine zu_iconst (pc := 5) h zd_RS_isNumber_5 zq_ic_4 ?_
    refine zu_icmp_ge (pc := 6) h (tgt := 13) zd_RS_isNumber_6 rfl ?_ ?_
    · intro b6
      refine zu_iconst (pc := 13) h zd_RS_isNumber_13 zq_ic_0 ?_
      exact zu_zreturn (pc := 14) h hr rfl zd_RS_isNumber_14 (by rw [zs_isn, if_neg b1, if_pos b6]) trivial
    · intro b6
      refine zu_iconst (pc := 9) h zd_RS_isNumber_9 zq_ic_1 ?_
      refine zu_goto (pc := 10) h (tgt := 14) zd_RS_isNumber_10 rfl ?_
      exact zu_zreturn (pc := 14) h hr rfl zd_RS_isNumber_14 (by rw [zs_isn, if_neg b1, if_neg b6]) trivial

set_option maxRecDepth 20000 in
theorem zt_PT_at_lo {l : Launch} (hfl : l.flags = pinnedFlags ++ [noTraceFlag]) {G : zz_G} {F : Nat → va_E} {v : Nat → Int32} {sz : Int32} {lv : Nat → Int32} {su : Nat → Int32} {pm : Nat → Nat} {cn : Int32} {fl : Nat → Nat → Int32} {ru : Nat → Nat → Int32} {n : Nat} {x : Int32} (hx : x < 0) : zz_T l zy_PT_at zb_PT_at 2 (some .int) 6 90 G [.ref (G.2.2 0), .int x] (zz_K G F v sz lv (nI n) su pm cn fl ru) "java/lang/IndexOutOfBoundsException" := by
  refine zz_T.of (by decide) (Nat.le_of_ble_eq_true rfl) ?_
  intro X hX h hc hex hJ hZ
  subst hX
  have h : zz_B X 2 zb_PT_at "PortTranslator" 6 90 (zz_H X G (zz_K G F v sz lv (nI n) su pm cn fl ru)) := h
  refine zu_iload_n (pc := 0) h (i := 1) zd_PT_at_0 rfl 1 rfl ?_
  refine zu_if_lt_t (pc := 1) h (tgt := 15) zd_PT_at_1 rfl hx ?_
  exact zu_throw h hfl zw_444 zw_445 zw_13 (zz_own1 h.wd hJ hZ) (by decide) hex (by decide) (by decide) hc zd_PT_at_15 zd_PT_at_18 zd_PT_at_19 zd_PT_at_22

set_option maxRecDepth 20000 in
theorem zt_PT_at_hi {l : Launch} (hfl : l.flags = pinnedFlags ++ [noTraceFlag]) {G : zz_G} {F : Nat → va_E} {v : Nat → Int32} {sz : Int32} {lv : Nat → Int32} {su : Nat → Int32} {pm : Nat → Nat} {cn : Int32} {fl : Nat → Nat → Int32} {ru : Nat → Nat → Int32} {n : Nat} {x : Int32} (hx : ¬ x < 0) (hx2 : ¬ x < nI n) : zz_T l zy_PT_at zb_PT_at 2 (some .int) 6 90 G [.ref (G.2.2 0), .int x] (zz_K G F v sz lv (nI n) su pm cn fl ru) "java/lang/IndexOutOfBoundsException" := by
  refine zz_T.of (by decide) (Nat.le_of_ble_eq_true rfl) ?_
  intro X hX h hc hex hJ hZ
  subst hX
  have h : zz_B X 2 zb_PT_at "PortTranslator" 6 90 (zz_H X G (zz_K G F v sz lv (nI n) su pm cn fl ru)) := h
  refine zu_iload_n (pc := 0) h (i := 1) zd_PT_at_0 rfl 1 rfl ?_
  refine zu_if_lt_f (pc := 1) h (tgt := 15) zd_PT_at_1 rfl hx ?_
  refine zu_iload_n (pc := 4) h (i := 1) zd_PT_at_4 rfl 1 rfl ?_
  refine zu_aload_n (pc := 5) h (i := 0) zd_PT_at_5 rfl 0 rfl ?_
  refine zu_get (pc := 6) h zx_PT 0 1 zq_k0 rfl zq_j_1_5 zw_175 rfl zd_PT_at_6 ?_
  refine zu_get (pc := 9) h zx_PK 3 1 zq_k3 rfl zq_j_1_2 zw_33 rfl zd_PT_at_9 ?_
  refine zu_icmp_lt_f (pc := 12) h (tgt := 23) zd_PT_at_12 rfl hx2 ?_
  exact zu_throw h hfl zw_444 zw_445 zw_13 (zz_own1 h.wd hJ hZ) (by decide) hex (by decide) (by decide) hc zd_PT_at_15 zd_PT_at_18 zd_PT_at_19 zd_PT_at_22

set_option maxRecDepth 20000 in
theorem zt_PT_tick_lo {l : Launch} (hfl : l.flags = pinnedFlags ++ [noTraceFlag]) {G : zz_G} {F : Nat → va_E} {v : Nat → Int32} {sz : Int32} {lv : Nat → Int32} {lz : Int32} {su : Nat → Int32} {pm : Nat → Nat} {fl : Nat → Nat → Int32} {ru : Nat → Nat → Int32} {c : Nat} {t : Int32} (h1 : t < 1) : zz_T l zy_PT_tick zb_PT_tick 2 (some .int) 6 90 G [.ref (G.2.2 0), .int t] (zz_K G F v sz lv lz su pm (nI c) fl ru) "java/lang/IllegalArgumentException" := by
  refine zz_T.of (by decide) (Nat.le_of_ble_eq_true rfl) ?_
  intro X hX h hc hex hJ hZ
  subst hX
  have h : zz_B X 2 zb_PT_tick "PortTranslator" 6 90 (zz_H X G (zz_K G F v sz lv lz su pm (nI c) fl ru)) := h
  refine zu_iload_n (pc := 0) h (i := 1) zd_PT_tick_0 rfl 1 rfl ?_
  refine zu_iconst (pc := 1) h zd_PT_tick_1 zq_ic_1 ?_
  refine zu_icmp_lt_t (pc := 2) h (tgt := 11) zd_PT_tick_2 rfl h1 ?_
  exact zu_throw h hfl zw_514 zw_515 zw_14 (zz_own2 h.wd hJ hZ) (by decide) hex (by decide) (by decide) hc zd_PT_tick_11 zd_PT_tick_14 zd_PT_tick_15 zd_PT_tick_18

set_option maxRecDepth 20000 in
theorem zt_PT_tick_hi {l : Launch} (hfl : l.flags = pinnedFlags ++ [noTraceFlag]) {G : zz_G} {F : Nat → va_E} {v : Nat → Int32} {sz : Int32} {lv : Nat → Int32} {lz : Int32} {su : Nat → Int32} {pm : Nat → Nat} {fl : Nat → Nat → Int32} {ru : Nat → Nat → Int32} {c : Nat} {t : Int32} (h1 : ¬ t < 1) (h2 : ¬ t ≤ 100) : zz_T l zy_PT_tick zb_PT_tick 2 (some .int) 6 90 G [.ref (G.2.2 0), .int t] (zz_K G F v sz lv lz su pm (nI c) fl ru) "java/lang/IllegalArgumentException" := by
  refine zz_T.of (by decide) (Nat.le_of_ble_eq_true rfl) ?_
  intro X hX h hc hex hJ hZ
  subst hX
  have h : zz_B X 2 zb_PT_tick "PortTranslator" 6 90 (zz_H X G (zz_K G F v sz lv lz su pm (nI c) fl ru)) := h
  refine zu_iload_n (pc := 0) h (i := 1) zd_PT_tick_0 rfl 1 rfl ?_
  refine zu_iconst (pc := 1) h zd_PT_tick_1 zq_ic_1 ?_
  refine zu_icmp_lt_f (pc := 2) h (tgt := 11) zd_PT_tick_2 rfl h1 ?_
  refine zu_iload_n (pc := 5) h (i := 1) zd_PT_tick_5 rfl 1 rfl ?_
  refine zu_bipush (pc := 6) h zd_PT_tick_6 zq_bi_100 ?_
  refine zu_icmp_le_f (pc := 8) h (tgt := 19) zd_PT_tick_8 rfl h2 ?_
  exact zu_throw h hfl zw_514 zw_515 zw_14 (zz_own2 h.wd hJ hZ) (by decide) hex (by decide) (by decide) hc zd_PT_tick_11 zd_PT_tick_14 zd_PT_tick_15 zd_PT_tick_18

set_option maxRecDepth 20000 in
theorem zt_PT_rule_a {l : Launch} (hfl : l.flags = pinnedFlags ++ [noTraceFlag]) {G : zz_G} {F : Nat → va_E} {v : Nat → Int32} {sz : Int32} {lv : Nat → Int32} {lz : Int32} {su : Nat → Int32} {pm : Nat → Nat} {cn : Int32} {fl : Nat → Nat → Int32} {ru : Nat → Nat → Int32} {x k w b p : Int32} (h0 : zs_isn x = 0) : zz_T l zy_PT_rule zb_PT_rule 6 (some .int) 6 90 G [.ref (G.2.2 0), .int x, .int k, .int w, .int b, .int p] (zz_K G F v sz lv lz su pm cn fl ru) "java/lang/IllegalArgumentException" := by
  refine zz_T.of (by decide) (Nat.le_of_ble_eq_true rfl) ?_
  intro X hX h hc hex hJ hZ
  subst hX
  have h : zz_B X 6 zb_PT_rule "PortTranslator" 6 90 (zz_H X G (zz_K G F v sz lv lz su pm cn fl ru)) := h
  refine zu_iload_n (pc := 0) h (i := 1) zd_PT_rule_0 rfl 1 rfl ?_
  refine zu_callS (pc := 1) h (st := []) zp_RS_isNumber zm_RS_isNumber zw_548 ⟨by decide, by decide⟩ zd_PT_rule_1 (Nat.le_of_ble_eq_true rfl) rfl ?_
  refine zu_if_eq_t (pc := 4) h (tgt := 30) zd_PT_rule_4 rfl h0 ?_
  exact zu_throw h hfl zw_514 zw_515 zw_14 (zz_own2 h.wd hJ hZ) (by decide) hex (by decide) (by decide) hc zd_PT_rule_30 zd_PT_rule_33 zd_PT_rule_34 zd_PT_rule_37

set_option maxRecDepth 20000 in
theorem zt_PT_rule_c {l : Launch} (hfl : l.flags = pinnedFlags ++ [noTraceFlag]) {G : zz_G} {F : Nat → va_E} {v : Nat → Int32} {sz : Int32} {lv : Nat → Int32} {lz : Int32} {su : Nat → Int32} {pm : Nat → Nat} {cn : Int32} {fl : Nat → Nat → Int32} {ru : Nat → Nat → Int32} {x k w b p : Int32} (h0 : ¬ zs_isn x = 0) (h1 : ¬ k = 0) (h2 : zs_isk k = 0) : zz_T l zy_PT_rule zb_PT_rule 6 (some .int) 6 90 G [.ref (G.2.2 0), .int x, .int k, .int w, .int b, .int p] (zz_K G F v sz lv lz su pm cn fl ru) "java/lang/IllegalArgumentException" := by
  refine zz_T.of (by decide) (Nat.le_of_ble_eq_true rfl) ?_
  intro X hX h hc hex hJ hZ
  subst hX
  have h : zz_B X 6 zb_PT_rule "PortTranslator" 6 90 (zz_H X G (zz_K G F v sz lv lz su pm cn fl ru)) := h
  refine zu_iload_n (pc := 0) h (i := 1) zd_PT_rule_0 rfl 1 rfl ?_
  refine zu_callS (pc := 1) h (st := []) zp_RS_isNumber zm_RS_isNumber zw_548 ⟨by decide, by decide⟩ zd_PT_rule_1 (Nat.le_of_ble_eq_true rfl) rfl ?_
  refine zu_if_eq_f (pc := 4) h (tgt := 30) zd_PT_rule_4 rfl h0 ?_
  refine zu_iload_n (pc := 7) h (i := 2) zd_PT_rule_7 rfl 2 rfl ?_
  refine zu_if_eq_f (pc := 8) h (tgt := 18) zd_PT_rule_8 rfl h1 ?_
  refine zu_iload_n (pc := 11) h (i := 2) zd_PT_rule_11 rfl 2 rfl ?_
  refine zu_callS (pc := 12) h (st := []) zp_PT_isKind zm_PT_isKind zw_551 ⟨by decide, by decide⟩ zd_PT_rule_12 (Nat.le_of_ble_eq_true rfl) rfl ?_
  refine zu_if_eq_t (pc := 15) h (tgt := 30) zd_PT_rule_15 rfl h2 ?_
  exact zu_throw h hfl zw_514 zw_515 zw_14 (zz_own2 h.wd hJ hZ) (by decide) hex (by decide) (by decide) hc zd_PT_rule_30 zd_PT_rule_33 zd_PT_rule_34 zd_PT_rule_37

set_option maxRecDepth 20000 in
theorem zt_PT_rule_d0 {l : Launch} (hfl : l.flags = pinnedFlags ++ [noTraceFlag]) {G : zz_G} {F : Nat → va_E} {v : Nat → Int32} {sz : Int32} {lv : Nat → Int32} {lz : Int32} {su : Nat → Int32} {pm : Nat → Nat} {cn : Int32} {fl : Nat → Nat → Int32} {ru : Nat → Nat → Int32} {x k w b p : Int32} (h0 : ¬ zs_isn x = 0) (hk : k = 0) (h1 : b < 0) : zz_T l zy_PT_rule zb_PT_rule 6 (some .int) 6 90 G [.ref (G.2.2 0), .int x, .int k, .int w, .int b, .int p] (zz_K G F v sz lv lz su pm cn fl ru) "java/lang/IllegalArgumentException" := by
  refine zz_T.of (by decide) (Nat.le_of_ble_eq_true rfl) ?_
  intro X hX h hc hex hJ hZ
  subst hX
  have h : zz_B X 6 zb_PT_rule "PortTranslator" 6 90 (zz_H X G (zz_K G F v sz lv lz su pm cn fl ru)) := h
  refine zu_iload_n (pc := 0) h (i := 1) zd_PT_rule_0 rfl 1 rfl ?_
  refine zu_callS (pc := 1) h (st := []) zp_RS_isNumber zm_RS_isNumber zw_548 ⟨by decide, by decide⟩ zd_PT_rule_1 (Nat.le_of_ble_eq_true rfl) rfl ?_
  refine zu_if_eq_f (pc := 4) h (tgt := 30) zd_PT_rule_4 rfl h0 ?_
  refine zu_iload_n (pc := 7) h (i := 2) zd_PT_rule_7 rfl 2 rfl ?_
  refine zu_if_eq_t (pc := 8) h (tgt := 18) zd_PT_rule_8 rfl hk ?_
  refine zu_iload (pc := 18) h (i := 4) zd_PT_rule_18 4 rfl ?_
  refine zu_if_lt_t (pc := 20) h (tgt := 30) zd_PT_rule_20 rfl h1 ?_
  exact zu_throw h hfl zw_514 zw_515 zw_14 (zz_own2 h.wd hJ hZ) (by decide) hex (by decide) (by decide) hc zd_PT_rule_30 zd_PT_rule_33 zd_PT_rule_34 zd_PT_rule_37

set_option maxRecDepth 20000 in
theorem zt_PT_rule_e0 {l : Launch} (hfl : l.flags = pinnedFlags ++ [noTraceFlag]) {G : zz_G} {F : Nat → va_E} {v : Nat → Int32} {sz : Int32} {lv : Nat → Int32} {lz : Int32} {su : Nat → Int32} {pm : Nat → Nat} {cn : Int32} {fl : Nat → Nat → Int32} {ru : Nat → Nat → Int32} {x k w b p : Int32} (h0 : ¬ zs_isn x = 0) (hk : k = 0) (h1 : ¬ b < 0) (h2 : ¬ b ≤ 32) : zz_T l zy_PT_rule zb_PT_rule 6 (some .int) 6 90 G [.ref (G.2.2 0), .int x, .int k, .int w, .int b, .int p] (zz_K G F v sz lv lz su pm cn fl ru) "java/lang/IllegalArgumentException" := by
  refine zz_T.of (by decide) (Nat.le_of_ble_eq_true rfl) ?_
  intro X hX h hc hex hJ hZ
  subst hX
  have h : zz_B X 6 zb_PT_rule "PortTranslator" 6 90 (zz_H X G (zz_K G F v sz lv lz su pm cn fl ru)) := h
  refine zu_iload_n (pc := 0) h (i := 1) zd_PT_rule_0 rfl 1 rfl ?_
  refine zu_callS (pc := 1) h (st := []) zp_RS_isNumber zm_RS_isNumber zw_548 ⟨by decide, by decide⟩ zd_PT_rule_1 (Nat.le_of_ble_eq_true rfl) rfl ?_
  refine zu_if_eq_f (pc := 4) h (tgt := 30) zd_PT_rule_4 rfl h0 ?_
  refine zu_iload_n (pc := 7) h (i := 2) zd_PT_rule_7 rfl 2 rfl ?_
  refine zu_if_eq_t (pc := 8) h (tgt := 18) zd_PT_rule_8 rfl hk ?_
  refine zu_iload (pc := 18) h (i := 4) zd_PT_rule_18 4 rfl ?_
  refine zu_if_lt_f (pc := 20) h (tgt := 30) zd_PT_rule_20 rfl h1 ?_
  refine zu_iload (pc := 23) h (i := 4) zd_PT_rule_23 4 rfl ?_
  refine zu_bipush (pc := 25) h zd_PT_rule_25 zq_bi_32 ?_
  refine zu_icmp_le_f (pc := 27) h (tgt := 38) zd_PT_rule_27 rfl h2 ?_
  exact zu_throw h hfl zw_514 zw_515 zw_14 (zz_own2 h.wd hJ hZ) (by decide) hex (by decide) (by decide) hc zd_PT_rule_30 zd_PT_rule_33 zd_PT_rule_34 zd_PT_rule_37

set_option maxRecDepth 20000 in
theorem zt_PT_rule_d1 {l : Launch} (hfl : l.flags = pinnedFlags ++ [noTraceFlag]) {G : zz_G} {F : Nat → va_E} {v : Nat → Int32} {sz : Int32} {lv : Nat → Int32} {lz : Int32} {su : Nat → Int32} {pm : Nat → Nat} {cn : Int32} {fl : Nat → Nat → Int32} {ru : Nat → Nat → Int32} {x k w b p : Int32} (h0 : ¬ zs_isn x = 0) (hk : ¬ k = 0) (hk2 : ¬ zs_isk k = 0) (h1 : b < 0) : zz_T l zy_PT_rule zb_PT_rule 6 (some .int) 6 90 G [.ref (G.2.2 0), .int x, .int k, .int w, .int b, .int p] (zz_K G F v sz lv lz su pm cn fl ru) "java/lang/IllegalArgumentException" := by
  refine zz_T.of (by decide) (Nat.le_of_ble_eq_true rfl) ?_
  intro X hX h hc hex hJ hZ
  subst hX
  have h : zz_B X 6 zb_PT_rule "PortTranslator" 6 90 (zz_H X G (zz_K G F v sz lv lz su pm cn fl ru)) := h
  refine zu_iload_n (pc := 0) h (i := 1) zd_PT_rule_0 rfl 1 rfl ?_
  refine zu_callS (pc := 1) h (st := []) zp_RS_isNumber zm_RS_isNumber zw_548 ⟨by decide, by decide⟩ zd_PT_rule_1 (Nat.le_of_ble_eq_true rfl) rfl ?_
  refine zu_if_eq_f (pc := 4) h (tgt := 30) zd_PT_rule_4 rfl h0 ?_
  refine zu_iload_n (pc := 7) h (i := 2) zd_PT_rule_7 rfl 2 rfl ?_
  refine zu_if_eq_f (pc := 8) h (tgt := 18) zd_PT_rule_8 rfl hk ?_
  refine zu_iload_n (pc := 11) h (i := 2) zd_PT_rule_11 rfl 2 rfl ?_
  refine zu_callS (pc := 12) h (st := []) zp_PT_isKind zm_PT_isKind zw_551 ⟨by decide, by decide⟩ zd_PT_rule_12 (Nat.le_of_ble_eq_true rfl) rfl ?_
  refine zu_if_eq_f (pc := 15) h (tgt := 30) zd_PT_rule_15 rfl hk2 ?_
  refine zu_iload (pc := 18) h (i := 4) zd_PT_rule_18 4 rfl ?_
  refine zu_if_lt_t (pc := 20) h (tgt := 30) zd_PT_rule_20 rfl h1 ?_
  exact zu_throw h hfl zw_514 zw_515 zw_14 (zz_own2 h.wd hJ hZ) (by decide) hex (by decide) (by decide) hc zd_PT_rule_30 zd_PT_rule_33 zd_PT_rule_34 zd_PT_rule_37

set_option maxRecDepth 20000 in
theorem zt_PT_rule_e1 {l : Launch} (hfl : l.flags = pinnedFlags ++ [noTraceFlag]) {G : zz_G} {F : Nat → va_E} {v : Nat → Int32} {sz : Int32} {lv : Nat → Int32} {lz : Int32} {su : Nat → Int32} {pm : Nat → Nat} {cn : Int32} {fl : Nat → Nat → Int32} {ru : Nat → Nat → Int32} {x k w b p : Int32} (h0 : ¬ zs_isn x = 0) (hk : ¬ k = 0) (hk2 : ¬ zs_isk k = 0) (h1 : ¬ b < 0) (h2 : ¬ b ≤ 32) : zz_T l zy_PT_rule zb_PT_rule 6 (some .int) 6 90 G [.ref (G.2.2 0), .int x, .int k, .int w, .int b, .int p] (zz_K G F v sz lv lz su pm cn fl ru) "java/lang/IllegalArgumentException" := by
  refine zz_T.of (by decide) (Nat.le_of_ble_eq_true rfl) ?_
  intro X hX h hc hex hJ hZ
  subst hX
  have h : zz_B X 6 zb_PT_rule "PortTranslator" 6 90 (zz_H X G (zz_K G F v sz lv lz su pm cn fl ru)) := h
  refine zu_iload_n (pc := 0) h (i := 1) zd_PT_rule_0 rfl 1 rfl ?_
  refine zu_callS (pc := 1) h (st := []) zp_RS_isNumber zm_RS_isNumber zw_548 ⟨by decide, by decide⟩ zd_PT_rule_1 (Nat.le_of_ble_eq_true rfl) rfl ?_
  refine zu_if_eq_f (pc := 4) h (tgt := 30) zd_PT_rule_4 rfl h0 ?_
  refine zu_iload_n (pc := 7) h (i := 2) zd_PT_rule_7 rfl 2 rfl ?_
  refine zu_if_eq_f (pc := 8) h (tgt := 18) zd_PT_rule_8 rfl hk ?_
  refine zu_iload_n (pc := 11) h (i := 2) zd_PT_rule_11 rfl 2 rfl ?_
  refine zu_callS (pc := 12) h (st := []) zp_PT_isKind zm_PT_isKind zw_551 ⟨by decide, by decide⟩ zd_PT_rule_12 (Nat.le_of_ble_eq_true rfl) rfl ?_
  refine zu_if_eq_f (pc := 15) h (tgt := 30) zd_PT_rule_15 rfl hk2 ?_
  refine zu_iload (pc := 18) h (i := 4) zd_PT_rule_18 4 rfl ?_
  refine zu_if_lt_f (pc := 20) h (tgt := 30) zd_PT_rule_20 rfl h1 ?_
  refine zu_iload (pc := 23) h (i := 4) zd_PT_rule_23 4 rfl ?_
  refine zu_bipush (pc := 25) h zd_PT_rule_25 zq_bi_32 ?_
  refine zu_icmp_le_f (pc := 27) h (tgt := 38) zd_PT_rule_27 rfl h2 ?_
  exact zu_throw h hfl zw_514 zw_515 zw_14 (zz_own2 h.wd hJ hZ) (by decide) hex (by decide) (by decide) hc zd_PT_rule_30 zd_PT_rule_33 zd_PT_rule_34 zd_PT_rule_37

set_option maxRecDepth 20000 in
theorem zt_PT_forget_a {l : Launch} (hfl : l.flags = pinnedFlags ++ [noTraceFlag]) {G : zz_G} {F : Nat → va_E} {v : Nat → Int32} {sz : Int32} {lv : Nat → Int32} {lz : Int32} {su : Nat → Int32} {pm : Nat → Nat} {cn : Int32} {fl : Nat → Nat → Int32} {ru : Nat → Nat → Int32} {x : Int32} (h0 : zs_isn x = 0) : zz_T l zy_PT_forget zb_PT_forget 2 (some .int) 6 90 G [.ref (G.2.2 0), .int x] (zz_K G F v sz lv lz su pm cn fl ru) "java/lang/IllegalArgumentException" := by
  refine zz_T.of (by decide) (Nat.le_of_ble_eq_true rfl) ?_
  intro X hX h hc hex hJ hZ
  subst hX
  have h : zz_B X 2 zb_PT_forget "PortTranslator" 6 90 (zz_H X G (zz_K G F v sz lv lz su pm cn fl ru)) := h
  refine zu_iload_n (pc := 0) h (i := 1) zd_PT_forget_0 rfl 1 rfl ?_
  refine zu_callS (pc := 1) h (st := []) zp_RS_isNumber zm_RS_isNumber zw_548 ⟨by decide, by decide⟩ zd_PT_forget_1 (Nat.le_of_ble_eq_true rfl) rfl ?_
  refine zu_if_eq_t (pc := 4) h (tgt := 22) zd_PT_forget_4 rfl h0 ?_
  exact zu_throw h hfl zw_514 zw_515 zw_14 (zz_own2 h.wd hJ hZ) (by decide) hex (by decide) (by decide) hc zd_PT_forget_22 zd_PT_forget_25 zd_PT_forget_26 zd_PT_forget_29

set_option maxRecDepth 20000 in
theorem zt_PT_forget_c {l : Launch} (hfl : l.flags = pinnedFlags ++ [noTraceFlag]) {G : zz_G} {F : Nat → va_E} {v : Nat → Int32} {sz : Int32} {lv : Nat → Int32} {lz : Int32} {su : Nat → Int32} {pm : Nat → Nat} {cn : Int32} {fl : Nat → Nat → Int32} {ru : Nat → Nat → Int32} {i : Nat} (hi : i < 4) (hk : ru i 0 = 0) : zz_T l zy_PT_forget zb_PT_forget 2 (some .int) 6 90 G [.ref (G.2.2 0), .int (nI i)] (zz_K G F v sz lv lz su pm cn fl ru) "java/lang/IllegalArgumentException" := by
  refine zz_T.of (by decide) (Nat.le_of_ble_eq_true rfl) ?_
  intro X hX h hc hex hJ hZ
  subst hX
  have h : zz_B X 2 zb_PT_forget "PortTranslator" 6 90 (zz_H X G (zz_K G F v sz lv lz su pm cn fl ru)) := h
  refine zu_iload_n (pc := 0) h (i := 1) zd_PT_forget_0 rfl 1 rfl ?_
  refine zu_callS (pc := 1) h (st := []) zp_RS_isNumber zm_RS_isNumber zw_548 ⟨by decide, by decide⟩ zd_PT_forget_1 (Nat.le_of_ble_eq_true rfl) rfl ?_
  refine zu_topv (1) (zs_isn_ok hi) ?_
  refine zu_if_eq_f (pc := 4) h (tgt := 22) zd_PT_forget_4 rfl (by decide) ?_
  refine zu_aload_n (pc := 7) h (i := 0) zd_PT_forget_7 rfl 0 rfl ?_
  refine zu_get (pc := 8) h zx_PT 0 4 zq_k0 rfl zq_j_4_5 zw_178 rfl zd_PT_forget_8 ?_
  refine zu_get (pc := 11) h zx_RS 8 0 zq_k8 rfl zq_j_0_1 zw_170 rfl zd_PT_forget_11 ?_
  refine zu_iload_n (pc := 14) h (i := 1) zd_PT_forget_14 rfl 1 rfl ?_
  refine zu_aaldR (pc := 15) h 9 zq_k9 rfl (zz_ixN (j := i) hi) rfl zd_PT_forget_15 ?_
  refine zu_get (pc := 16) h zx_RU _ 0 (zq_ru hi) (zk_at_ru _ hi) zq_j_0_5 zw_152 rfl zd_PT_forget_16 ?_
  refine zu_if_ne_f (pc := 19) h (tgt := 30) zd_PT_forget_19 rfl hk ?_
  exact zu_throw h hfl zw_514 zw_515 zw_14 (zz_own2 h.wd hJ hZ) (by decide) hex (by decide) (by decide) hc zd_PT_forget_22 zd_PT_forget_25 zd_PT_forget_26 zd_PT_forget_29

set_option maxRecDepth 20000 in
theorem zt_PT_flow_a {l : Launch} (hfl : l.flags = pinnedFlags ++ [noTraceFlag]) {G : zz_G} {F : Nat → va_E} {v : Nat → Int32} {sz : Int32} {lv : Nat → Int32} {lz : Int32} {su : Nat → Int32} {pm : Nat → Nat} {fl : Nat → Nat → Int32} {ru : Nat → Nat → Int32} {c : Nat} {x y : Int32} (hx : x < 0) : zz_T l zy_PT_flow zb_PT_flow 3 (some .int) 6 90 G [.ref (G.2.2 0), .int x, .int y] (zz_K G F v sz lv lz su pm (nI c) fl ru) "java/lang/IndexOutOfBoundsException" := by
  refine zz_T.of (by decide) (Nat.le_of_ble_eq_true rfl) ?_
  intro X hX h hc hex hJ hZ
  subst hX
  have h : zz_B X 3 zb_PT_flow "PortTranslator" 6 90 (zz_H X G (zz_K G F v sz lv lz su pm (nI c) fl ru)) := h
  refine zu_iload_n (pc := 0) h (i := 1) zd_PT_flow_0 rfl 1 rfl ?_
  refine zu_if_lt_t (pc := 1) h (tgt := 15) zd_PT_flow_1 rfl hx ?_
  exact zu_throw h hfl zw_444 zw_445 zw_13 (zz_own1 h.wd hJ hZ) (by decide) hex (by decide) (by decide) hc zd_PT_flow_15 zd_PT_flow_18 zd_PT_flow_19 zd_PT_flow_22

set_option maxRecDepth 20000 in
theorem zt_PT_flow_b {l : Launch} (hfl : l.flags = pinnedFlags ++ [noTraceFlag]) {G : zz_G} {F : Nat → va_E} {v : Nat → Int32} {sz : Int32} {lv : Nat → Int32} {lz : Int32} {su : Nat → Int32} {pm : Nat → Nat} {fl : Nat → Nat → Int32} {ru : Nat → Nat → Int32} {c : Nat} {x y : Int32} (hx : ¬ x < 0) (hx2 : ¬ x < nI c) : zz_T l zy_PT_flow zb_PT_flow 3 (some .int) 6 90 G [.ref (G.2.2 0), .int x, .int y] (zz_K G F v sz lv lz su pm (nI c) fl ru) "java/lang/IndexOutOfBoundsException" := by
  refine zz_T.of (by decide) (Nat.le_of_ble_eq_true rfl) ?_
  intro X hX h hc hex hJ hZ
  subst hX
  have h : zz_B X 3 zb_PT_flow "PortTranslator" 6 90 (zz_H X G (zz_K G F v sz lv lz su pm (nI c) fl ru)) := h
  refine zu_iload_n (pc := 0) h (i := 1) zd_PT_flow_0 rfl 1 rfl ?_
  refine zu_if_lt_f (pc := 1) h (tgt := 15) zd_PT_flow_1 rfl hx ?_
  refine zu_iload_n (pc := 4) h (i := 1) zd_PT_flow_4 rfl 1 rfl ?_
  refine zu_aload_n (pc := 5) h (i := 0) zd_PT_flow_5 rfl 0 rfl ?_
  refine zu_get (pc := 6) h zx_PT 0 3 zq_k0 rfl zq_j_3_5 zw_177 rfl zd_PT_flow_6 ?_
  refine zu_get (pc := 9) h zx_FT 6 1 zq_k6 rfl zq_j_1_2 zw_131 rfl zd_PT_flow_9 ?_
  refine zu_icmp_lt_f (pc := 12) h (tgt := 23) zd_PT_flow_12 rfl hx2 ?_
  exact zu_throw h hfl zw_444 zw_445 zw_13 (zz_own1 h.wd hJ hZ) (by decide) hex (by decide) (by decide) hc zd_PT_flow_15 zd_PT_flow_18 zd_PT_flow_19 zd_PT_flow_22

set_option maxRecDepth 20000 in
theorem zt_PT_flow_c {l : Launch} (hfl : l.flags = pinnedFlags ++ [noTraceFlag]) {G : zz_G} {F : Nat → va_E} {v : Nat → Int32} {sz : Int32} {lv : Nat → Int32} {lz : Int32} {su : Nat → Int32} {pm : Nat → Nat} {fl : Nat → Nat → Int32} {ru : Nat → Nat → Int32} {c : Nat} {x y : Int32} (hx : ¬ x < 0) (hx2 : x < nI c) (hy : y < 0) : zz_T l zy_PT_flow zb_PT_flow 3 (some .int) 6 90 G [.ref (G.2.2 0), .int x, .int y] (zz_K G F v sz lv lz su pm (nI c) fl ru) "java/lang/IllegalArgumentException" := by
  refine zz_T.of (by decide) (Nat.le_of_ble_eq_true rfl) ?_
  intro X hX h hc hex hJ hZ
  subst hX
  have h : zz_B X 3 zb_PT_flow "PortTranslator" 6 90 (zz_H X G (zz_K G F v sz lv lz su pm (nI c) fl ru)) := h
  refine zu_iload_n (pc := 0) h (i := 1) zd_PT_flow_0 rfl 1 rfl ?_
  refine zu_if_lt_f (pc := 1) h (tgt := 15) zd_PT_flow_1 rfl hx ?_
  refine zu_iload_n (pc := 4) h (i := 1) zd_PT_flow_4 rfl 1 rfl ?_
  refine zu_aload_n (pc := 5) h (i := 0) zd_PT_flow_5 rfl 0 rfl ?_
  refine zu_get (pc := 6) h zx_PT 0 3 zq_k0 rfl zq_j_3_5 zw_177 rfl zd_PT_flow_6 ?_
  refine zu_get (pc := 9) h zx_FT 6 1 zq_k6 rfl zq_j_1_2 zw_131 rfl zd_PT_flow_9 ?_
  refine zu_icmp_lt_t (pc := 12) h (tgt := 23) zd_PT_flow_12 rfl hx2 ?_
  refine zu_iload_n (pc := 23) h (i := 2) zd_PT_flow_23 rfl 2 rfl ?_
  refine zu_if_lt_t (pc := 24) h (tgt := 33) zd_PT_flow_24 rfl hy ?_
  exact zu_throw h hfl zw_514 zw_515 zw_14 (zz_own2 h.wd hJ hZ) (by decide) hex (by decide) (by decide) hc zd_PT_flow_33 zd_PT_flow_36 zd_PT_flow_37 zd_PT_flow_40

set_option maxRecDepth 20000 in
theorem zt_PT_flow_d {l : Launch} (hfl : l.flags = pinnedFlags ++ [noTraceFlag]) {G : zz_G} {F : Nat → va_E} {v : Nat → Int32} {sz : Int32} {lv : Nat → Int32} {lz : Int32} {su : Nat → Int32} {pm : Nat → Nat} {fl : Nat → Nat → Int32} {ru : Nat → Nat → Int32} {c : Nat} {x y : Int32} (hx : ¬ x < 0) (hx2 : x < nI c) (hy : ¬ y < 0) (hy2 : ¬ y ≤ 7) : zz_T l zy_PT_flow zb_PT_flow 3 (some .int) 6 90 G [.ref (G.2.2 0), .int x, .int y] (zz_K G F v sz lv lz su pm (nI c) fl ru) "java/lang/IllegalArgumentException" := by
  refine zz_T.of (by decide) (Nat.le_of_ble_eq_true rfl) ?_
  intro X hX h hc hex hJ hZ
  subst hX
  have h : zz_B X 3 zb_PT_flow "PortTranslator" 6 90 (zz_H X G (zz_K G F v sz lv lz su pm (nI c) fl ru)) := h
  refine zu_iload_n (pc := 0) h (i := 1) zd_PT_flow_0 rfl 1 rfl ?_
  refine zu_if_lt_f (pc := 1) h (tgt := 15) zd_PT_flow_1 rfl hx ?_
  refine zu_iload_n (pc := 4) h (i := 1) zd_PT_flow_4 rfl 1 rfl ?_
  refine zu_aload_n (pc := 5) h (i := 0) zd_PT_flow_5 rfl 0 rfl ?_
  refine zu_get (pc := 6) h zx_PT 0 3 zq_k0 rfl zq_j_3_5 zw_177 rfl zd_PT_flow_6 ?_
  refine zu_get (pc := 9) h zx_FT 6 1 zq_k6 rfl zq_j_1_2 zw_131 rfl zd_PT_flow_9 ?_
  refine zu_icmp_lt_t (pc := 12) h (tgt := 23) zd_PT_flow_12 rfl hx2 ?_
  refine zu_iload_n (pc := 23) h (i := 2) zd_PT_flow_23 rfl 2 rfl ?_
  refine zu_if_lt_f (pc := 24) h (tgt := 33) zd_PT_flow_24 rfl hy ?_
  refine zu_iload_n (pc := 27) h (i := 2) zd_PT_flow_27 rfl 2 rfl ?_
  refine zu_bipush (pc := 28) h zd_PT_flow_28 zq_bi_7 ?_
  refine zu_icmp_le_f (pc := 30) h (tgt := 41) zd_PT_flow_30 rfl hy2 ?_
  exact zu_throw h hfl zw_514 zw_515 zw_14 (zz_own2 h.wd hJ hZ) (by decide) hex (by decide) (by decide) hc zd_PT_flow_33 zd_PT_flow_36 zd_PT_flow_37 zd_PT_flow_40
