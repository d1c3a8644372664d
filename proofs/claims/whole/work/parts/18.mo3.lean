def zv_wd (x : Int64) (y : Int32) : Int32 := ((x >>> ((16 * y).toInt64 &&& 63)) &&& 65535).toInt32
def zv_pw (x : Int64) : Nat → (Nat → Int32) → Nat → (Nat → Int32)
  | 0, w, _ => w
  | l + 1, w, n => zv_pw x l (upd w n (zv_wd x (nI l))) (n + 1)
def zv_rul (ra : Nat → Nat → Int32) (i : Nat) (k w b p : Int32) : Nat → Nat → Int32 := va_up (va_up (va_up (va_up ra 0 (upd (ra 0) i k)) 1 (upd (ra 1) i w)) 2 (upd (ra 2) i b)) 3 (upd (ra 3) i (vp_nar .boolean p))
def zv_i1 (fa : Nat → Nat → Int32) (k : Int32) (f g : Nat) (t : Int32) : Int32 := if t = 0 then 0 else if fa 0 g = k then (if fa 5 g = fa 5 f then 0 else 1) else 1
def zv_is (fa : Nat → Nat → Int32) (k : Int32) (f : Nat) : Nat → Nat → Int32 → Int32
  | _, 0, t => t
  | g, n + 1, t => zv_is fa k f (g + 1) n (zv_i1 fa k f g t)
def zv_bnd (fa : Nat → Nat → Int32) (k : Int32) : Nat → Nat → Int32 → Int32
  | _, 0, e => e
  | f, n + 1, e => zv_bnd fa k (f + 1) n (if zv_is fa k f 0 f (if fa 0 f = k then 1 else 0) = 0 then e else e + 1)
def zv_st (w : Nat → Int32) : Int32 := if w 16 &&& 2 = 0 then 0 else if w 16 &&& 20 = 0 then 1 else 0
def zv_may (w : Nat → Int32) (ra : Nat → Nat → Int32) (k o : Int32) : Int32 := if k = 1 then (if w 10 = 0 then 0 else if k = 6 then (if zv_st w = 0 then 0 else zv_per ra k o 0 4) else zv_per ra k o 0 4) else if k = 6 then (if zv_st w = 0 then 0 else zv_per ra k o 0 4) else zv_per ra k o 0 4

set_option maxRecDepth 20000 in
theorem zc_MO_put_lo {l : Launch} {G : zz_G} {F : Nat → va_E} {w : Nat → Int32} {la : Nat → Int32} {lz : Int32} {ra : Nat → Nat → Int32} {fn : Int32} {fa : Nat → Nat → Int32} {cd : Int32} {n : Nat} {k : Int32} {x : Int64} (hk : k < 1) : zz_M l zy_MO_put zb_MO_put 5 (some .boolean) 0 0 G [.ref (G.2.2 26), .int k, .long x] (zz_N G F w (nI n) la lz ra fn fa cd) (some (.int 0)) (zz_N G F w (nI n) la lz ra fn fa 0) := by
  refine zz_M.of (by decide) (Nat.le_of_ble_eq_true rfl) ?_
  intro X hX h hr
  subst hX
  have h : zz_C X G (zz_A G.2.2) 5 zb_MO_put "PortTranslatorModel" 0 0 0 0 := h
  refine zi_aload_n (pc := 0) h (i := 0) zd_MO_put_0 rfl 0 rfl ?_
  refine zi_iconst (pc := 1) h zd_MO_put_1 zq_ic_0 ?_
  refine zi_put (pc := 2) h zx_MO 26 17 zq_k26 rfl zq_j_17_18 zw_601 rfl rfl rfl (Nat.le_of_ble_eq_true rfl) zd_MO_put_2 zn_u_cd ?_
  refine zi_iload_n (pc := 5) h (i := 1) zd_MO_put_5 rfl 1 rfl ?_
  refine zi_iconst (pc := 6) h zd_MO_put_6 zq_ic_1 ?_
  refine zi_icmp_lt_t (pc := 7) h (tgt := 26) zd_MO_put_7 rfl hk ?_
  refine zi_iconst (pc := 26) h zd_MO_put_26 zq_ic_0 ?_
  exact zi_zreturn (pc := 27) h hr rfl zd_MO_put_27 rfl rfl

set_option maxRecDepth 20000 in
theorem zc_MO_put_hi {l : Launch} {G : zz_G} {F : Nat → va_E} {w : Nat → Int32} {la : Nat → Int32} {lz : Int32} {ra : Nat → Nat → Int32} {fn : Int32} {fa : Nat → Nat → Int32} {cd : Int32} {n : Nat} {k : Int32} {x : Int64} (hk : 4 < k) : zz_M l zy_MO_put zb_MO_put 5 (some .boolean) 0 0 G [.ref (G.2.2 26), .int k, .long x] (zz_N G F w (nI n) la lz ra fn fa cd) (some (.int 0)) (zz_N G F w (nI n) la lz ra fn fa 0) := by
  refine zz_M.of (by decide) (Nat.le_of_ble_eq_true rfl) ?_
  intro X hX h hr
  subst hX
  have h : zz_C X G (zz_A G.2.2) 5 zb_MO_put "PortTranslatorModel" 0 0 0 0 := h
  refine zi_aload_n (pc := 0) h (i := 0) zd_MO_put_0 rfl 0 rfl ?_
  refine zi_iconst (pc := 1) h zd_MO_put_1 zq_ic_0 ?_
  refine zi_put (pc := 2) h zx_MO 26 17 zq_k26 rfl zq_j_17_18 zw_601 rfl rfl rfl (Nat.le_of_ble_eq_true rfl) zd_MO_put_2 zn_u_cd ?_
  refine zi_iload_n (pc := 5) h (i := 1) zd_MO_put_5 rfl 1 rfl ?_
  refine zi_iconst (pc := 6) h zd_MO_put_6 zq_ic_1 ?_
  refine zi_icmp_lt (pc := 7) h (tgt := 26) zd_MO_put_7 rfl ?_ ?_
  · intro b7
    refine zi_iconst (pc := 26) h zd_MO_put_26 zq_ic_0 ?_
    exact zi_zreturn (pc := 27) h hr rfl zd_MO_put_27 rfl rfl
  · intro b7
    refine zi_iload_n (pc := 10) h (i := 1) zd_MO_put_10 rfl 1 rfl ?_
    refine zi_iconst (pc := 11) h zd_MO_put_11 zq_ic_4 ?_
    refine zi_icmp_gt_t (pc := 12) h (tgt := 26) zd_MO_put_12 rfl hk ?_
    refine zi_iconst (pc := 26) h zd_MO_put_26 zq_ic_0 ?_
    exact zi_zreturn (pc := 27) h hr rfl zd_MO_put_27 rfl rfl

set_option maxRecDepth 20000 in
theorem zc_MO_put_full {l : Launch} {G : zz_G} {F : Nat → va_E} {w : Nat → Int32} {la : Nat → Int32} {lz : Int32} {ra : Nat → Nat → Int32} {fn : Int32} {fa : Nat → Nat → Int32} {cd : Int32} {n : Nat} {k : Int32} {x : Int64} (hk : ¬ nI n + k ≤ 48) : zz_M l zy_MO_put zb_MO_put 5 (some .boolean) 0 0 G [.ref (G.2.2 26), .int k, .long x] (zz_N G F w (nI n) la lz ra fn fa cd) (some (.int 0)) (zz_N G F w (nI n) la lz ra fn fa 0) := by
  refine zz_M.of (by decide) (Nat.le_of_ble_eq_true rfl) ?_
  intro X hX h hr
  subst hX
  have h : zz_C X G (zz_A G.2.2) 5 zb_MO_put "PortTranslatorModel" 0 0 0 0 := h
  refine zi_aload_n (pc := 0) h (i := 0) zd_MO_put_0 rfl 0 rfl ?_
  refine zi_iconst (pc := 1) h zd_MO_put_1 zq_ic_0 ?_
  refine zi_put (pc := 2) h zx_MO 26 17 zq_k26 rfl zq_j_17_18 zw_601 rfl rfl rfl (Nat.le_of_ble_eq_true rfl) zd_MO_put_2 zn_u_cd ?_
  refine zi_iload_n (pc := 5) h (i := 1) zd_MO_put_5 rfl 1 rfl ?_
  refine zi_iconst (pc := 6) h zd_MO_put_6 zq_ic_1 ?_
  refine zi_icmp_lt (pc := 7) h (tgt := 26) zd_MO_put_7 rfl ?_ ?_
  · intro b7
    refine zi_iconst (pc := 26) h zd_MO_put_26 zq_ic_0 ?_
    exact zi_zreturn (pc := 27) h hr rfl zd_MO_put_27 rfl rfl
  · intro b7
    refine zi_iload_n (pc := 10) h (i := 1) zd_MO_put_10 rfl 1 rfl ?_
    refine zi_iconst (pc := 11) h zd_MO_put_11 zq_ic_4 ?_
    refine zi_icmp_gt (pc := 12) h (tgt := 26) zd_MO_put_12 rfl ?_ ?_
    · intro b12
      refine zi_iconst (pc := 26) h zd_MO_put_26 zq_ic_0 ?_
      exact zi_zreturn (pc := 27) h hr rfl zd_MO_put_27 rfl rfl
    · intro b12
      refine zi_aload_n (pc := 15) h (i := 0) zd_MO_put_15 rfl 0 rfl ?_
      refine zi_get (pc := 16) h zx_MO 26 1 zq_k26 rfl zq_j_1_18 zw_585 rfl zd_MO_put_16 ?_
      refine zi_iload_n (pc := 19) h (i := 1) zd_MO_put_19 rfl 1 rfl ?_
      refine zi_iadd (pc := 20) h zd_MO_put_20 ?_
      refine zi_bipush (pc := 21) h zd_MO_put_21 zq_bi_48 ?_
      refine zi_icmp_le_f (pc := 23) h (tgt := 28) zd_MO_put_23 rfl hk ?_
      refine zi_iconst (pc := 26) h zd_MO_put_26 zq_ic_0 ?_
      exact zi_zreturn (pc := 27) h hr rfl zd_MO_put_27 rfl rfl

set_option maxRecDepth 20000 in
theorem zl_MO_put {X : zz_X} {r : Option Value} {F' : Nat → va_E} {G : zz_G} {F : Nat → va_E} {la : Nat → Int32} {lz : Int32} {ra : Nat → Nat → Int32} {fn : Int32} {fa : Nat → Nat → Int32} {cd : Int32} {k : Int32} {x : Int64}  (h : zz_C X G (zz_A G.2.2) 5 zb_MO_put "PortTranslatorModel" 0 0 0 0) (hr : X.2.2.2.2.2.2.2.2.1.sig.returnType = (some .boolean)) : ∀ (l : Nat) (w : Nat → Int32) (n : Nat) (y : Int32), n + l ≤ 48 → y = nI l - 1 → r = some (.int 1) → (zz_N G F (zv_pw x l w n) (nI (n + l)) la lz ra fn fa cd) = F' → zz_W X G (zz_A G.2.2) 5 0 0 (zz_E X G r F') (zz_N G F w (nI n) la lz ra fn fa cd) 33 [(4, .int y), (0, .ref (G.2.2 26)), (1, .int k), (2, .long x)] [] := by
  intro l
  induction l with
  | zero =>
    intro w n y hn hy he hF
    subst hy
    refine zi_iload (pc := 33) h (i := 4) zd_MO_put_33 0 rfl ?_
    refine zi_if_lt_t (pc := 35) h (tgt := 75) zd_MO_put_35 rfl (by decide) ?_
    refine zi_iconst (pc := 75) h zd_MO_put_75 zq_ic_1 ?_
    exact zi_zreturn (pc := 76) h hr rfl zd_MO_put_76 he.symm hF
  | succ l ih =>
    intro w n y hn hy he hF
    obtain rfl : y = nI l := hy.trans (nI_pred l)
    refine zi_iload (pc := 33) h (i := 4) zd_MO_put_33 0 rfl ?_
    refine zi_if_lt_f (pc := 35) h (tgt := 75) zd_MO_put_35 rfl (nI_pos (by omega)) ?_
    refine zi_aload_n (pc := 38) h (i := 0) zd_MO_put_38 rfl 1 rfl ?_
    refine zi_get (pc := 39) h zx_MO 26 0 zq_k26 rfl zq_j_0_18 zw_584 rfl zd_MO_put_39 ?_
    refine zi_aload_n (pc := 42) h (i := 0) zd_MO_put_42 rfl 1 rfl ?_
    refine zi_get (pc := 43) h zx_MO 26 1 zq_k26 rfl zq_j_1_18 zw_585 rfl zd_MO_put_43 ?_
    refine zi_lload_n (pc := 46) h (i := 2) zd_MO_put_46 rfl 3 rfl ?_
    refine zi_bipush (pc := 47) h zd_MO_put_47 zq_bi_16 ?_
    refine zi_iload (pc := 49) h (i := 4) zd_MO_put_49 0 rfl ?_
    refine zi_imul (pc := 51) h zd_MO_put_51 ?_
    refine zi_lshr (pc := 52) h zd_MO_put_52 rfl ?_
    refine zi_ldc2_w (pc := 53) h zw_648 zd_MO_put_53 ?_
    refine zi_land (pc := 56) h zd_MO_put_56 ?_
    refine zi_l2i (pc := 57) h zd_MO_put_57 ?_
    refine zi_iast (pc := 58) h 27 zq_k27 rfl (zz_ixN (j := n) (by omega)) zd_MO_put_58 zn_u_w ?_
    refine zi_aload_n (pc := 59) h (i := 0) zd_MO_put_59 rfl 1 rfl ?_
    refine zi_dup (pc := 60) h zd_MO_put_60 rfl ?_
    refine zi_get (pc := 61) h zx_MO 26 1 zq_k26 rfl zq_j_1_18 zw_585 rfl zd_MO_put_61 ?_
    refine zi_iconst (pc := 64) h zd_MO_put_64 zq_ic_1 ?_
    refine zi_iadd (pc := 65) h zd_MO_put_65 ?_
    refine zi_topv (nI (n + 1)) (nI_1 n) ?_
    refine zi_put (pc := 66) h zx_MO 26 1 zq_k26 rfl zq_j_1_18 zw_585 rfl rfl rfl (Nat.le_of_ble_eq_true rfl) zd_MO_put_66 zn_u_sz ?_
    refine zi_iinc (pc := 69) h (i := 4) (L' := [(4, _), (0, _), (1, _), (2, _)]) zd_MO_put_69 0 rfl (zq_dec l) (by decide) rfl ?_
    refine zi_goto (pc := 72) h (tgt := 33) zd_MO_put_72 rfl ?_
    rw [show n + (l + 1) = n + 1 + l by omega] at hF
    exact ih _ (n + 1) _ (by omega) rfl he hF

set_option maxRecDepth 20000 in
theorem zc_MO_put {l : Launch} {G : zz_G} {F : Nat → va_E} {w : Nat → Int32} {la : Nat → Int32} {lz : Int32} {ra : Nat → Nat → Int32} {fn : Int32} {fa : Nat → Nat → Int32} {cd : Int32} {n a : Nat} {x : Int64} (h1 : 1 ≤ a) (h4 : a ≤ 4) (hn : n + a ≤ 48) : zz_M l zy_MO_put zb_MO_put 5 (some .boolean) 0 0 G [.ref (G.2.2 26), .int (nI a), .long x] (zz_N G F w (nI n) la lz ra fn fa cd) (some (.int 1)) (zz_N G F (zv_pw x a w n) (nI (n + a)) la lz ra fn fa 0) := by
  refine zz_M.of (by decide) (Nat.le_of_ble_eq_true rfl) ?_
  intro X hX h hr
  subst hX
  have h : zz_C X G (zz_A G.2.2) 5 zb_MO_put "PortTranslatorModel" 0 0 0 0 := h
  refine zi_aload_n (pc := 0) h (i := 0) zd_MO_put_0 rfl 0 rfl ?_
  refine zi_iconst (pc := 1) h zd_MO_put_1 zq_ic_0 ?_
  refine zi_put (pc := 2) h zx_MO 26 17 zq_k26 rfl zq_j_17_18 zw_601 rfl rfl rfl (Nat.le_of_ble_eq_true rfl) zd_MO_put_2 zn_u_cd ?_
  refine zi_iload_n (pc := 5) h (i := 1) zd_MO_put_5 rfl 1 rfl ?_
  refine zi_iconst (pc := 6) h zd_MO_put_6 zq_ic_1 ?_
  refine zi_icmp_lt_f (pc := 7) h (tgt := 26) zd_MO_put_7 rfl (nI_nlt (b := 1) h1 (by omega)) ?_
  refine zi_iload_n (pc := 10) h (i := 1) zd_MO_put_10 rfl 1 rfl ?_
  refine zi_iconst (pc := 11) h zd_MO_put_11 zq_ic_4 ?_
  refine zi_icmp_gt_f (pc := 12) h (tgt := 26) zd_MO_put_12 rfl (nI_nlt (a := 4) h4 (by decide)) ?_
  refine zi_aload_n (pc := 15) h (i := 0) zd_MO_put_15 rfl 0 rfl ?_
  refine zi_get (pc := 16) h zx_MO 26 1 zq_k26 rfl zq_j_1_18 zw_585 rfl zd_MO_put_16 ?_
  refine zi_iload_n (pc := 19) h (i := 1) zd_MO_put_19 rfl 1 rfl ?_
  refine zi_iadd (pc := 20) h zd_MO_put_20 ?_
  refine zi_bipush (pc := 21) h zd_MO_put_21 zq_bi_48 ?_
  refine zi_icmp_le_t (pc := 23) h (tgt := 28) zd_MO_put_23 rfl (by rw [nI_add]; exact nI_le (b := 48) hn (by decide)) ?_
  refine zi_iload_n (pc := 28) h (i := 1) zd_MO_put_28 rfl 1 rfl ?_
  refine zi_iconst (pc := 29) h zd_MO_put_29 zq_ic_1 ?_
  refine zi_isub (pc := 30) h zd_MO_put_30 ?_
  refine zi_istore (pc := 31) h (i := 4) (L' := [(4, _), (0, _), (1, _), (2, _)]) zd_MO_put_31 (by decide) rfl ?_
  exact zl_MO_put h hr a w n _ hn rfl rfl rfl

set_option maxRecDepth 20000 in
theorem zc_MO_rule_a {l : Launch} {G : zz_G} {F : Nat → va_E} {w : Nat → Int32} {sz : Int32} {la : Nat → Int32} {lz : Int32} {ra : Nat → Nat → Int32} {fn : Int32} {fa : Nat → Nat → Int32} {cd : Int32} {x k w2 b p : Int32} (h1 : x < 0) : zz_M l zy_MO_rule zb_MO_rule 6 (some .int) 1 22 G [.ref (G.2.2 26), .int x, .int k, .int w2, .int b, .int p] (zz_N G F w sz la lz ra fn fa cd) (some (.int 0)) (zz_N G F w sz la lz ra fn fa 1) := by
  refine zz_M.of (by decide) (Nat.le_of_ble_eq_true rfl) ?_
  intro X hX h hr
  subst hX
  have h : zz_C X G (zz_A G.2.2) 6 zb_MO_rule "PortTranslatorModel" 1 22 0 0 := h
  refine zi_aload_n (pc := 0) h (i := 0) zd_MO_rule_0 rfl 0 rfl ?_
  refine zi_iload_n (pc := 1) h (i := 1) zd_MO_rule_1 rfl 1 rfl ?_
  refine zi_if_lt_t (pc := 2) h (tgt := 33) zd_MO_rule_2 rfl h1 ?_
  refine zi_iconst (pc := 33) h zd_MO_rule_33 zq_ic_1 ?_
  refine zi_goto (pc := 34) h (tgt := 38) zd_MO_rule_34 rfl ?_
  refine zi_put (pc := 38) h zx_MO 26 17 zq_k26 rfl zq_j_17_18 zw_601 rfl rfl rfl (Nat.le_of_ble_eq_true rfl) zd_MO_rule_38 zn_u_cd ?_
  refine zi_aload_n (pc := 41) h (i := 0) zd_MO_rule_41 rfl 0 rfl ?_
  refine zi_get (pc := 42) h zx_MO 26 17 zq_k26 rfl zq_j_17_18 zw_601 rfl zd_MO_rule_42 ?_
  refine zi_topv (1) rfl ?_
  refine zi_if_le_f (pc := 45) h (tgt := 50) zd_MO_rule_45 rfl (by decide) ?_
  refine zi_iconst (pc := 48) h zd_MO_rule_48 zq_ic_0 ?_
  exact zi_ireturn (pc := 49) h hr zd_MO_rule_49 rfl rfl

set_option maxRecDepth 20000 in
theorem zc_MO_rule_b {l : Launch} {G : zz_G} {F : Nat → va_E} {w : Nat → Int32} {sz : Int32} {la : Nat → Int32} {lz : Int32} {ra : Nat → Nat → Int32} {fn : Int32} {fa : Nat → Nat → Int32} {cd : Int32} {x k w2 b p : Int32} (h1 : 3 < x) : zz_M l zy_MO_rule zb_MO_rule 6 (some .int) 1 22 G [.ref (G.2.2 26), .int x, .int k, .int w2, .int b, .int p] (zz_N G F w sz la lz ra fn fa cd) (some (.int 0)) (zz_N G F w sz la lz ra fn fa 1) := by
  refine zz_M.of (by decide) (Nat.le_of_ble_eq_true rfl) ?_
  intro X hX h hr
  subst hX
  have h : zz_C X G (zz_A G.2.2) 6 zb_MO_rule "PortTranslatorModel" 1 22 0 0 := h
  refine zi_aload_n (pc := 0) h (i := 0) zd_MO_rule_0 rfl 0 rfl ?_
  refine zi_iload_n (pc := 1) h (i := 1) zd_MO_rule_1 rfl 1 rfl ?_
  refine zi_if_lt (pc := 2) h (tgt := 33) zd_MO_rule_2 rfl ?_ ?_
  · intro b2
    refine zi_iconst (pc := 33) h zd_MO_rule_33 zq_ic_1 ?_
    refine zi_goto (pc := 34) h (tgt := 38) zd_MO_rule_34 rfl ?_
    refine zi_put (pc := 38) h zx_MO 26 17 zq_k26 rfl zq_j_17_18 zw_601 rfl rfl rfl (Nat.le_of_ble_eq_true rfl) zd_MO_rule_38 zn_u_cd ?_
    refine zi_aload_n (pc := 41) h (i := 0) zd_MO_rule_41 rfl 0 rfl ?_
    refine zi_get (pc := 42) h zx_MO 26 17 zq_k26 rfl zq_j_17_18 zw_601 rfl zd_MO_rule_42 ?_
    refine zi_topv (1) rfl ?_
    refine zi_if_le_f (pc := 45) h (tgt := 50) zd_MO_rule_45 rfl (by decide) ?_
    refine zi_iconst (pc := 48) h zd_MO_rule_48 zq_ic_0 ?_
    exact zi_ireturn (pc := 49) h hr zd_MO_rule_49 rfl rfl
  · intro b2
    refine zi_iload_n (pc := 5) h (i := 1) zd_MO_rule_5 rfl 1 rfl ?_
    refine zi_iconst (pc := 6) h zd_MO_rule_6 zq_ic_3 ?_
    refine zi_icmp_gt_t (pc := 7) h (tgt := 33) zd_MO_rule_7 rfl h1 ?_
    refine zi_iconst (pc := 33) h zd_MO_rule_33 zq_ic_1 ?_
    refine zi_goto (pc := 34) h (tgt := 38) zd_MO_rule_34 rfl ?_
    refine zi_put (pc := 38) h zx_MO 26 17 zq_k26 rfl zq_j_17_18 zw_601 rfl rfl rfl (Nat.le_of_ble_eq_true rfl) zd_MO_rule_38 zn_u_cd ?_
    refine zi_aload_n (pc := 41) h (i := 0) zd_MO_rule_41 rfl 0 rfl ?_
    refine zi_get (pc := 42) h zx_MO 26 17 zq_k26 rfl zq_j_17_18 zw_601 rfl zd_MO_rule_42 ?_
    refine zi_topv (1) rfl ?_
    refine zi_if_le_f (pc := 45) h (tgt := 50) zd_MO_rule_45 rfl (by decide) ?_
    refine zi_iconst (pc := 48) h zd_MO_rule_48 zq_ic_0 ?_
    exact zi_ireturn (pc := 49) h hr zd_MO_rule_49 rfl rfl

set_option maxRecDepth 20000 in
theorem zc_MO_rule_c {l : Launch} {G : zz_G} {F : Nat → va_E} {w : Nat → Int32} {sz : Int32} {la : Nat → Int32} {lz : Int32} {ra : Nat → Nat → Int32} {fn : Int32} {fa : Nat → Nat → Int32} {cd : Int32} {x k w2 b p : Int32} (h1 : ¬ k = 0) (h2 : zv_isk k = 0) : zz_M l zy_MO_rule zb_MO_rule 6 (some .int) 1 22 G [.ref (G.2.2 26), .int x, .int k, .int w2, .int b, .int p] (zz_N G F w sz la lz ra fn fa cd) (some (.int 0)) (zz_N G F w sz la lz ra fn fa 1) := by
  refine zz_M.of (by decide) (Nat.le_of_ble_eq_true rfl) ?_
  intro X hX h hr
  subst hX
  have h : zz_C X G (zz_A G.2.2) 6 zb_MO_rule "PortTranslatorModel" 1 22 0 0 := h
  refine zi_aload_n (pc := 0) h (i := 0) zd_MO_rule_0 rfl 0 rfl ?_
  refine zi_iload_n (pc := 1) h (i := 1) zd_MO_rule_1 rfl 1 rfl ?_
  refine zi_if_lt (pc := 2) h (tgt := 33) zd_MO_rule_2 rfl ?_ ?_
  · intro b2
    refine zi_iconst (pc := 33) h zd_MO_rule_33 zq_ic_1 ?_
    refine zi_goto (pc := 34) h (tgt := 38) zd_MO_rule_34 rfl ?_
    refine zi_put (pc := 38) h zx_MO 26 17 zq_k26 rfl zq_j_17_18 zw_601 rfl rfl rfl (Nat.le_of_ble_eq_true rfl) zd_MO_rule_38 zn_u_cd ?_
    refine zi_aload_n (pc := 41) h (i := 0) zd_MO_rule_41 rfl 0 rfl ?_
    refine zi_get (pc := 42) h zx_MO 26 17 zq_k26 rfl zq_j_17_18 zw_601 rfl zd_MO_rule_42 ?_
    refine zi_topv (1) rfl ?_
    refine zi_if_le_f (pc := 45) h (tgt := 50) zd_MO_rule_45 rfl (by decide) ?_
    refine zi_iconst (pc := 48) h zd_MO_rule_48 zq_ic_0 ?_
    exact zi_ireturn (pc := 49) h hr zd_MO_rule_49 rfl rfl
  · intro b2
    refine zi_iload_n (pc := 5) h (i := 1) zd_MO_rule_5 rfl 1 rfl ?_
    refine zi_iconst (pc := 6) h zd_MO_rule_6 zq_ic_3 ?_
    refine zi_icmp_gt (pc := 7) h (tgt := 33) zd_MO_rule_7 rfl ?_ ?_
    · intro b7
      refine zi_iconst (pc := 33) h zd_MO_rule_33 zq_ic_1 ?_
      refine zi_goto (pc := 34) h (tgt := 38) zd_MO_rule_34 rfl ?_
      refine zi_put (pc := 38) h zx_MO 26 17 zq_k26 rfl zq_j_17_18 zw_601 rfl rfl rfl (Nat.le_of_ble_eq_true rfl) zd_MO_rule_38 zn_u_cd ?_
      refine zi_aload_n (pc := 41) h (i := 0) zd_MO_rule_41 rfl 0 rfl ?_
      refine zi_get (pc := 42) h zx_MO 26 17 zq_k26 rfl zq_j_17_18 zw_601 rfl zd_MO_rule_42 ?_
      refine zi_topv (1) rfl ?_
      refine zi_if_le_f (pc := 45) h (tgt := 50) zd_MO_rule_45 rfl (by decide) ?_
      refine zi_iconst (pc := 48) h zd_MO_rule_48 zq_ic_0 ?_
      exact zi_ireturn (pc := 49) h hr zd_MO_rule_49 rfl rfl
    · intro b7
      refine zi_iload_n (pc := 10) h (i := 2) zd_MO_rule_10 rfl 2 rfl ?_
      refine zi_if_eq_f (pc := 11) h (tgt := 21) zd_MO_rule_11 rfl h1 ?_
      refine zi_iload_n (pc := 14) h (i := 2) zd_MO_rule_14 rfl 2 rfl ?_
      refine zi_callS (pc := 15) h (st := [_]) (zc_MO_isKind) zm_MO_isKind zw_671 ⟨by decide, by decide⟩ zd_MO_rule_15 (Nat.le_of_ble_eq_true rfl) rfl ?_
      refine zi_if_eq_t (pc := 18) h (tgt := 33) zd_MO_rule_18 rfl h2 ?_
      refine zi_iconst (pc := 33) h zd_MO_rule_33 zq_ic_1 ?_
      refine zi_goto (pc := 34) h (tgt := 38) zd_MO_rule_34 rfl ?_
      refine zi_put (pc := 38) h zx_MO 26 17 zq_k26 rfl zq_j_17_18 zw_601 rfl rfl rfl (Nat.le_of_ble_eq_true rfl) zd_MO_rule_38 zn_u_cd ?_
      refine zi_aload_n (pc := 41) h (i := 0) zd_MO_rule_41 rfl 0 rfl ?_
      refine zi_get (pc := 42) h zx_MO 26 17 zq_k26 rfl zq_j_17_18 zw_601 rfl zd_MO_rule_42 ?_
      refine zi_topv (1) rfl ?_
      refine zi_if_le_f (pc := 45) h (tgt := 50) zd_MO_rule_45 rfl (by decide) ?_
      refine zi_iconst (pc := 48) h zd_MO_rule_48 zq_ic_0 ?_
      exact zi_ireturn (pc := 49) h hr zd_MO_rule_49 rfl rfl

set_option maxRecDepth 20000 in
theorem zc_MO_rule_d {l : Launch} {G : zz_G} {F : Nat → va_E} {w : Nat → Int32} {sz : Int32} {la : Nat → Int32} {lz : Int32} {ra : Nat → Nat → Int32} {fn : Int32} {fa : Nat → Nat → Int32} {cd : Int32} {x k w2 b p : Int32} (h1 : b < 0) : zz_M l zy_MO_rule zb_MO_rule 6 (some .int) 1 22 G [.ref (G.2.2 26), .int x, .int k, .int w2, .int b, .int p] (zz_N G F w sz la lz ra fn fa cd) (some (.int 0)) (zz_N G F w sz la lz ra fn fa 1) := by
  refine zz_M.of (by decide) (Nat.le_of_ble_eq_true rfl) ?_
  intro X hX h hr
  subst hX
  have h : zz_C X G (zz_A G.2.2) 6 zb_MO_rule "PortTranslatorModel" 1 22 0 0 := h
  refine zi_aload_n (pc := 0) h (i := 0) zd_MO_rule_0 rfl 0 rfl ?_
  refine zi_iload_n (pc := 1) h (i := 1) zd_MO_rule_1 rfl 1 rfl ?_
  refine zi_if_lt (pc := 2) h (tgt := 33) zd_MO_rule_2 rfl ?_ ?_
  · intro b2
    refine zi_iconst (pc := 33) h zd_MO_rule_33 zq_ic_1 ?_
    refine zi_goto (pc := 34) h (tgt := 38) zd_MO_rule_34 rfl ?_
    refine zi_put (pc := 38) h zx_MO 26 17 zq_k26 rfl zq_j_17_18 zw_601 rfl rfl rfl (Nat.le_of_ble_eq_true rfl) zd_MO_rule_38 zn_u_cd ?_
    refine zi_aload_n (pc := 41) h (i := 0) zd_MO_rule_41 rfl 0 rfl ?_
    refine zi_get (pc := 42) h zx_MO 26 17 zq_k26 rfl zq_j_17_18 zw_601 rfl zd_MO_rule_42 ?_
    refine zi_topv (1) rfl ?_
    refine zi_if_le_f (pc := 45) h (tgt := 50) zd_MO_rule_45 rfl (by decide) ?_
    refine zi_iconst (pc := 48) h zd_MO_rule_48 zq_ic_0 ?_
    exact zi_ireturn (pc := 49) h hr zd_MO_rule_49 rfl rfl
  · intro b2
    refine zi_iload_n (pc := 5) h (i := 1) zd_MO_rule_5 rfl 1 rfl ?_
    refine zi_iconst (pc := 6) h zd_MO_rule_6 zq_ic_3 ?_
    refine zi_icmp_gt (pc := 7) h (tgt := 33) zd_MO_rule_7 rfl ?_ ?_
    · intro b7
      refine zi_iconst (pc := 33) h zd_MO_rule_33 zq_ic_1 ?_
      refine zi_goto (pc := 34) h (tgt := 38) zd_MO_rule_34 rfl ?_
      refine zi_put (pc := 38) h zx_MO 26 17 zq_k26 rfl zq_j_17_18 zw_601 rfl rfl rfl (Nat.le_of_ble_eq_true rfl) zd_MO_rule_38 zn_u_cd ?_
      refine zi_aload_n (pc := 41) h (i := 0) zd_MO_rule_41 rfl 0 rfl ?_
      refine zi_get (pc := 42) h zx_MO 26 17 zq_k26 rfl zq_j_17_18 zw_601 rfl zd_MO_rule_42 ?_
      refine zi_topv (1) rfl ?_
      refine zi_if_le_f (pc := 45) h (tgt := 50) zd_MO_rule_45 rfl (by decide) ?_
      refine zi_iconst (pc := 48) h zd_MO_rule_48 zq_ic_0 ?_
      exact zi_ireturn (pc := 49) h hr zd_MO_rule_49 rfl rfl
    · intro b7
      refine zi_iload_n (pc := 10) h (i := 2) zd_MO_rule_10 rfl 2 rfl ?_
      refine zi_if_eq (pc := 11) h (tgt := 21) zd_MO_rule_11 rfl ?_ ?_
      · intro b11
        refine zi_iload (pc := 21) h (i := 4) zd_MO_rule_21 4 rfl ?_
        refine zi_if_lt_t (pc := 23) h (tgt := 33) zd_MO_rule_23 rfl h1 ?_
        refine zi_iconst (pc := 33) h zd_MO_rule_33 zq_ic_1 ?_
        refine zi_goto (pc := 34) h (tgt := 38) zd_MO_rule_34 rfl ?_
        refine zi_put (pc := 38) h zx_MO 26 17 zq_k26 rfl zq_j_17_18 zw_601 rfl rfl rfl (Nat.le_of_ble_eq_true rfl) zd_MO_rule_38 zn_u_cd ?_
        refine zi_aload_n (pc := 41) h (i := 0) zd_MO_rule_41 rfl 0 rfl ?_
        refine zi_get (pc := 42) h zx_MO 26 17 zq_k26 rfl zq_j_17_18 zw_601 rfl zd_MO_rule_42 ?_
        refine zi_topv (1) rfl ?_
        refine zi_if_le_f (pc := 45) h (tgt := 50) zd_MO_rule_45 rfl (by decide) ?_
        refine zi_iconst (pc := 48) h zd_MO_rule_48 zq_ic_0 ?_
        exact zi_ireturn (pc := 49) h hr zd_MO_rule_49 rfl rfl
      · intro b11
        refine zi_iload_n (pc := 14) h (i := 2) zd_MO_rule_14 rfl 2 rfl ?_
        refine zi_callS (pc := 15) h (st := [_]) (zc_MO_isKind) zm_MO_isKind zw_671 ⟨by decide, by decide⟩ zd_MO_rule_15 (Nat.le_of_ble_eq_true rfl) rfl ?_
        refine zi_if_eq (pc := 18) h (tgt := 33) zd_MO_rule_18 rfl ?_ ?_
        · intro b18
          refine zi_iconst (pc := 33) h zd_MO_rule_33 zq_ic_1 ?_
          refine zi_goto (pc := 34) h (tgt := 38) zd_MO_rule_34 rfl ?_
          refine zi_put (pc := 38) h zx_MO 26 17 zq_k26 rfl zq_j_17_18 zw_601 rfl rfl rfl (Nat.le_of_ble_eq_true rfl) zd_MO_rule_38 zn_u_cd ?_
          refine zi_aload_n (pc := 41) h (i := 0) zd_MO_rule_41 rfl 0 rfl ?_
          refine zi_get (pc := 42) h zx_MO 26 17 zq_k26 rfl zq_j_17_18 zw_601 rfl zd_MO_rule_42 ?_
          refine zi_topv (1) rfl ?_
          refine zi_if_le_f (pc := 45) h (tgt := 50) zd_MO_rule_45 rfl (by decide) ?_
          refine zi_iconst (pc := 48) h zd_MO_rule_48 zq_ic_0 ?_
          exact zi_ireturn (pc := 49) h hr zd_MO_rule_49 rfl rfl
        · intro b18
          refine zi_iload (pc := 21) h (i := 4) zd_MO_rule_21 4 rfl ?_
          refine zi_if_lt_t (pc := 23) h (tgt := 33) zd_MO_rule_23 rfl h1 ?_
          refine zi_iconst (pc := 33) h zd_MO_rule_33 zq_ic_1 ?_
          refine zi_goto (pc := 34) h (tgt := 38) zd_MO_rule_34 rfl ?_
          refine zi_put (pc := 38) h zx_MO 26 17 zq_k26 rfl zq_j_17_18 zw_601 rfl rfl rfl (Nat.le_of_ble_eq_true rfl) zd_MO_rule_38 zn_u_cd ?_
          refine zi_aload_n (pc := 41) h (i := 0) zd_MO_rule_41 rfl 0 rfl ?_
          refine zi_get (pc := 42) h zx_MO 26 17 zq_k26 rfl zq_j_17_18 zw_601 rfl zd_MO_rule_42 ?_
          refine zi_topv (1) rfl ?_
          refine zi_if_le_f (pc := 45) h (tgt := 50) zd_MO_rule_45 rfl (by decide) ?_
          refine zi_iconst (pc := 48) h zd_MO_rule_48 zq_ic_0 ?_
          exact zi_ireturn (pc := 49) h hr zd_MO_rule_49 rfl rfl

set_option maxRecDepth 20000 in
theorem zc_MO_rule_e {l : Launch} {G : zz_G} {F : Nat → va_E} {w : Nat → Int32} {sz : Int32} {la : Nat → Int32} {lz : Int32} {ra : Nat → Nat → Int32} {fn : Int32} {fa : Nat → Nat → Int32} {cd : Int32} {x k w2 b p : Int32} (h1 : ¬ b ≤ 32) : zz_M l zy_MO_rule zb_MO_rule 6 (some .int) 1 22 G [.ref (G.2.2 26), .int x, .int k, .int w2, .int b, .int p] (zz_N G F w sz la lz ra fn fa cd) (some (.int 0)) (zz_N G F w sz la lz ra fn fa 1) := by
  refine zz_M.of (by decide) (Nat.le_of_ble_eq_true rfl) ?_
  intro X hX h hr
  subst hX
  have h : zz_C X G (zz_A G.2.2) 6 zb_MO_rule "PortTranslatorModel" 1 22 0 0 := h
  refine zi_aload_n (pc := 0) h (i := 0) zd_MO_rule_0 rfl 0 rfl ?_
  refine zi_iload_n (pc := 1) h (i := 1) zd_MO_rule_1 rfl 1 rfl ?_
  refine zi_if_lt (pc := 2) h (tgt := 33) zd_MO_rule_2 rfl ?_ ?_
  · intro b2
    refine zi_iconst (pc := 33) h zd_MO_rule_33 zq_ic_1 ?_
    refine zi_goto (pc := 34) h (tgt := 38) zd_MO_rule_34 rfl ?_
    refine zi_put (pc := 38) h zx_MO 26 17 zq_k26 rfl zq_j_17_18 zw_601 rfl rfl rfl (Nat.le_of_ble_eq_true rfl) zd_MO_rule_38 zn_u_cd ?_
    refine zi_aload_n (pc := 41) h (i := 0) zd_MO_rule_41 rfl 0 rfl ?_
    refine zi_get (pc := 42) h zx_MO 26 17 zq_k26 rfl zq_j_17_18 zw_601 rfl zd_MO_rule_42 ?_
    refine zi_topv (1) rfl ?_
    refine zi_if_le_f (pc := 45) h (tgt := 50) zd_MO_rule_45 rfl (by decide) ?_
    refine zi_iconst (pc := 48) h zd_MO_rule_48 zq_ic_0 ?_
    exact zi_ireturn (pc := 49) h hr zd_MO_rule_49 rfl rfl
  · intro b2
    refine zi_iload_n (pc := 5) h (i := 1) zd_MO_rule_5 rfl 1 rfl ?_
    refine zi_iconst (pc := 6) h zd_MO_rule_6 zq_ic_3 ?_
    refine zi_icmp_gt (pc := 7) h (tgt := 33) zd_MO_rule_7 rfl ?_ ?_
    · intro b7
      refine zi_iconst (pc := 33) h zd_MO_rule_33 zq_ic_1 ?_
      refine zi_goto (pc := 34) h (tgt := 38) zd_MO_rule_34 rfl ?_
      refine zi_put (pc := 38) h zx_MO 26 17 zq_k26 rfl zq_j_17_18 zw_601 rfl rfl rfl (Nat.le_of_ble_eq_true rfl) zd_MO_rule_38 zn_u_cd ?_
      refine zi_aload_n (pc := 41) h (i := 0) zd_MO_rule_41 rfl 0 rfl ?_
      refine zi_get (pc := 42) h zx_MO 26 17 zq_k26 rfl zq_j_17_18 zw_601 rfl zd_MO_rule_42 ?_
      refine zi_topv (1) rfl ?_
      refine zi_if_le_f (pc := 45) h (tgt := 50) zd_MO_rule_45 rfl (by decide) ?_
      refine zi_iconst (pc := 48) h zd_MO_rule_48 zq_ic_0 ?_
      exact zi_ireturn (pc := 49) h hr zd_MO_rule_49 rfl rfl
    · intro b7
      refine zi_iload_n (pc := 10) h (i := 2) zd_MO_rule_10 rfl 2 rfl ?_
      refine zi_if_eq (pc := 11) h (tgt := 21) zd_MO_rule_11 rfl ?_ ?_
      · intro b11
        refine zi_iload (pc := 21) h (i := 4) zd_MO_rule_21 4 rfl ?_
        refine zi_if_lt (pc := 23) h (tgt := 33) zd_MO_rule_23 rfl ?_ ?_
        · intro b23
          refine zi_iconst (pc := 33) h zd_MO_rule_33 zq_ic_1 ?_
          refine zi_goto (pc := 34) h (tgt := 38) zd_MO_rule_34 rfl ?_
          refine zi_put (pc := 38) h zx_MO 26 17 zq_k26 rfl zq_j_17_18 zw_601 rfl rfl rfl (Nat.le_of_ble_eq_true rfl) zd_MO_rule_38 zn_u_cd ?_
          refine zi_aload_n (pc := 41) h (i := 0) zd_MO_rule_41 rfl 0 rfl ?_
          refine zi_get (pc := 42) h zx_MO 26 17 zq_k26 rfl zq_j_17_18 zw_601 rfl zd_MO_rule_42 ?_
          refine zi_topv (1) rfl ?_
          refine zi_if_le_f (pc := 45) h (tgt := 50) zd_MO_rule_45 rfl (by decide) ?_
          refine zi_iconst (pc := 48) h zd_MO_rule_48 zq_ic_0 ?_
          exact zi_ireturn (pc := 49) h hr zd_MO_rule_49 rfl rfl
        · intro b23
          refine zi_iload (pc := 26) h (i := 4) zd_MO_rule_26 4 rfl ?_
          refine zi_bipush (pc := 28) h zd_MO_rule_28 zq_bi_32 ?_
          refine zi_icmp_le_f (pc := 30) h (tgt := 37) zd_MO_rule_30 rfl h1 ?_
          refine zi_iconst (pc := 33) h zd_MO_rule_33 zq_ic_1 ?_
          refine zi_goto (pc := 34) h (tgt := 38) zd_MO_rule_34 rfl ?_
          refine zi_put (pc := 38) h zx_MO 26 17 zq_k26 rfl zq_j_17_18 zw_601 rfl rfl rfl (Nat.le_of_ble_eq_true rfl) zd_MO_rule_38 zn_u_cd ?_
          refine zi_aload_n (pc := 41) h (i := 0) zd_MO_rule_41 rfl 0 rfl ?_
          refine zi_get (pc := 42) h zx_MO 26 17 zq_k26 rfl zq_j_17_18 zw_601 rfl zd_MO_rule_42 ?_
          refine zi_topv (1) rfl ?_
          refine zi_if_le_f (pc := 45) h (tgt := 50) zd_MO_rule_45 rfl (by decide) ?_
          refine zi_iconst (pc := 48) h zd_MO_rule_48 zq_ic_0 ?_
          exact zi_ireturn (pc := 49) h hr zd_MO_rule_49 rfl rfl
      · intro b11
        refine zi_iload_n (pc := 14) h (i := 2) zd_MO_rule_14 rfl 2 rfl ?_
        refine zi_callS (pc := 15) h (st := [_]) (zc_MO_isKind) zm_MO_isKind zw_671 ⟨by decide, by decide⟩ zd_MO_rule_15 (Nat.le_of_ble_eq_true rfl) rfl ?_
        refine zi_if_eq (pc := 18) h (tgt := 33) zd_MO_rule_18 rfl ?_ ?_
        · intro b18
          refine zi_iconst (pc := 33) h zd_MO_rule_33 zq_ic_1 ?_
          refine zi_goto (pc := 34) h (tgt := 38) zd_MO_rule_34 rfl ?_
          refine zi_put (pc := 38) h zx_MO 26 17 zq_k26 rfl zq_j_17_18 zw_601 rfl rfl rfl (Nat.le_of_ble_eq_true rfl) zd_MO_rule_38 zn_u_cd ?_
          refine zi_aload_n (pc := 41) h (i := 0) zd_MO_rule_41 rfl 0 rfl ?_
          refine zi_get (pc := 42) h zx_MO 26 17 zq_k26 rfl zq_j_17_18 zw_601 rfl zd_MO_rule_42 ?_
          refine zi_topv (1) rfl ?_
          refine zi_if_le_f (pc := 45) h (tgt := 50) zd_MO_rule_45 rfl (by decide) ?_
          refine zi_iconst (pc := 48) h zd_MO_rule_48 zq_ic_0 ?_
          exact zi_ireturn (pc := 49) h hr zd_MO_rule_49 rfl rfl
        · intro b18
          refine zi_iload (pc := 21) h (i := 4) zd_MO_rule_21 4 rfl ?_
          refine zi_if_lt (pc := 23) h (tgt := 33) zd_MO_rule_23 rfl ?_ ?_
          · intro b23
            refine zi_iconst (pc := 33) h zd_MO_rule_33 zq_ic_1 ?_
            refine zi_goto (pc := 34) h (tgt := 38) zd_MO_rule_34 rfl ?_
            refine zi_put (pc := 38) h zx_MO 26 17 zq_k26 rfl zq_j_17_18 zw_601 rfl rfl rfl (Nat.le_of_ble_eq_true rfl) zd_MO_rule_38 zn_u_cd ?_
            refine zi_aload_n (pc := 41) h (i := 0) zd_MO_rule_41 rfl 0 rfl ?_
            refine zi_get (pc := 42) h zx_MO 26 17 zq_k26 rfl zq_j_17_18 zw_601 rfl zd_MO_rule_42 ?_
            refine zi_topv (1) rfl ?_
            refine zi_if_le_f (pc := 45) h (tgt := 50) zd_MO_rule_45 rfl (by decide) ?_
            refine zi_iconst (pc := 48) h zd_MO_rule_48 zq_ic_0 ?_
            exact zi_ireturn (pc := 49) h hr zd_MO_rule_49 rfl rfl
          · intro b23
            refine zi_iload (pc := 26) h (i := 4) zd_MO_rule_26 4 rfl ?_
            refine zi_bipush (pc := 28) h zd_MO_rule_28 zq_bi_32 ?_
            refine zi_icmp_le_f (pc := 30) h (tgt := 37) zd_MO_rule_30 rfl h1 ?_
            refine zi_iconst (pc := 33) h zd_MO_rule_33 zq_ic_1 ?_
            refine zi_goto (pc := 34) h (tgt := 38) zd_MO_rule_34 rfl ?_
            refine zi_put (pc := 38) h zx_MO 26 17 zq_k26 rfl zq_j_17_18 zw_601 rfl rfl rfl (Nat.le_of_ble_eq_true rfl) zd_MO_rule_38 zn_u_cd ?_
            refine zi_aload_n (pc := 41) h (i := 0) zd_MO_rule_41 rfl 0 rfl ?_
            refine zi_get (pc := 42) h zx_MO 26 17 zq_k26 rfl zq_j_17_18 zw_601 rfl zd_MO_rule_42 ?_
            refine zi_topv (1) rfl ?_
            refine zi_if_le_f (pc := 45) h (tgt := 50) zd_MO_rule_45 rfl (by decide) ?_
            refine zi_iconst (pc := 48) h zd_MO_rule_48 zq_ic_0 ?_
            exact zi_ireturn (pc := 49) h hr zd_MO_rule_49 rfl rfl

set_option maxRecDepth 20000 in
theorem zc_MO_rule_ok0 {l : Launch} {G : zz_G} {F : Nat → va_E} {w : Nat → Int32} {sz : Int32} {la : Nat → Int32} {lz : Int32} {ra : Nat → Nat → Int32} {fn : Int32} {fa : Nat → Nat → Int32} {cd : Int32} {i : Nat} {k w2 b p : Int32} (hi : i < 4) (hk : k = 0) (hb1 : ¬ b < 0) (hb2 : b ≤ 32) : zz_M l zy_MO_rule zb_MO_rule 6 (some .int) 1 22 G [.ref (G.2.2 26), .int (nI i), .int k, .int w2, .int b, .int p] (zz_N G F w sz la lz ra fn fa cd) (some (.int (zv_rc (zv_rul ra i k w2 b p 0) 0 4 0))) (zz_N G F w sz la lz (zv_rul ra i k w2 b p) fn fa 0) := by
  refine zz_M.of (by decide) (Nat.le_of_ble_eq_true rfl) ?_
  intro X hX h hr
  subst hX
  have h : zz_C X G (zz_A G.2.2) 6 zb_MO_rule "PortTranslatorModel" 1 22 0 0 := h
  refine zi_aload_n (pc := 0) h (i := 0) zd_MO_rule_0 rfl 0 rfl ?_
  refine zi_iload_n (pc := 1) h (i := 1) zd_MO_rule_1 rfl 1 rfl ?_
  refine zi_if_lt_f (pc := 2) h (tgt := 33) zd_MO_rule_2 rfl (nI_pos (by omega)) ?_
  refine zi_iload_n (pc := 5) h (i := 1) zd_MO_rule_5 rfl 1 rfl ?_
  refine zi_iconst (pc := 6) h zd_MO_rule_6 zq_ic_3 ?_
  refine zi_icmp_gt_f (pc := 7) h (tgt := 33) zd_MO_rule_7 rfl (nI_nlt (a := 3) (by omega) (by decide)) ?_
  refine zi_iload_n (pc := 10) h (i := 2) zd_MO_rule_10 rfl 2 rfl ?_
  refine zi_if_eq_t (pc := 11) h (tgt := 21) zd_MO_rule_11 rfl hk ?_
  refine zi_iload (pc := 21) h (i := 4) zd_MO_rule_21 4 rfl ?_
  refine zi_if_lt_f (pc := 23) h (tgt := 33) zd_MO_rule_23 rfl hb1 ?_
  refine zi_iload (pc := 26) h (i := 4) zd_MO_rule_26 4 rfl ?_
  refine zi_bipush (pc := 28) h zd_MO_rule_28 zq_bi_32 ?_
  refine zi_icmp_le_t (pc := 30) h (tgt := 37) zd_MO_rule_30 rfl hb2 ?_
  refine zi_iconst (pc := 37) h zd_MO_rule_37 zq_ic_0 ?_
  refine zi_put (pc := 38) h zx_MO 26 17 zq_k26 rfl zq_j_17_18 zw_601 rfl rfl rfl (Nat.le_of_ble_eq_true rfl) zd_MO_rule_38 zn_u_cd ?_
  refine zi_aload_n (pc := 41) h (i := 0) zd_MO_rule_41 rfl 0 rfl ?_
  refine zi_get (pc := 42) h zx_MO 26 17 zq_k26 rfl zq_j_17_18 zw_601 rfl zd_MO_rule_42 ?_
  refine zi_topv (0) rfl ?_
  refine zi_if_le_t (pc := 45) h (tgt := 50) zd_MO_rule_45 rfl (by decide) ?_
  refine zi_aload_n (pc := 50) h (i := 0) zd_MO_rule_50 rfl 0 rfl ?_
  refine zi_get (pc := 51) h zx_MO 26 4 zq_k26 rfl zq_j_4_18 zw_588 rfl zd_MO_rule_51 ?_
  refine zi_iload_n (pc := 54) h (i := 1) zd_MO_rule_54 rfl 1 rfl ?_
  refine zi_iload_n (pc := 55) h (i := 2) zd_MO_rule_55 rfl 2 rfl ?_
  refine zi_iast (pc := 56) h (f := (ra 0)) 29 zq_k29 rfl (zz_ixN (j := i) (by omega)) zd_MO_rule_56 zn_u_r0 ?_
  refine zi_aload_n (pc := 57) h (i := 0) zd_MO_rule_57 rfl 0 rfl ?_
  refine zi_get (pc := 58) h zx_MO 26 5 zq_k26 rfl zq_j_5_18 zw_589 rfl zd_MO_rule_58 ?_
  refine zi_iload_n (pc := 61) h (i := 1) zd_MO_rule_61 rfl 1 rfl ?_
  refine zi_iload_n (pc := 62) h (i := 3) zd_MO_rule_62 rfl 3 rfl ?_
  refine zi_iast (pc := 63) h (f := (ra 1)) 30 zq_k30 rfl (zz_ixN (j := i) (by omega)) zd_MO_rule_63 zn_u_r1 ?_
  refine zi_aload_n (pc := 64) h (i := 0) zd_MO_rule_64 rfl 0 rfl ?_
  refine zi_get (pc := 65) h zx_MO 26 6 zq_k26 rfl zq_j_6_18 zw_590 rfl zd_MO_rule_65 ?_
  refine zi_iload_n (pc := 68) h (i := 1) zd_MO_rule_68 rfl 1 rfl ?_
  refine zi_iload (pc := 69) h (i := 4) zd_MO_rule_69 4 rfl ?_
  refine zi_iast (pc := 71) h (f := (ra 2)) 31 zq_k31 rfl (zz_ixN (j := i) (by omega)) zd_MO_rule_71 zn_u_r2 ?_
  refine zi_aload_n (pc := 72) h (i := 0) zd_MO_rule_72 rfl 0 rfl ?_
  refine zi_get (pc := 73) h zx_MO 26 7 zq_k26 rfl zq_j_7_18 zw_591 rfl zd_MO_rule_73 ?_
  refine zi_iload_n (pc := 76) h (i := 1) zd_MO_rule_76 rfl 1 rfl ?_
  refine zi_iload (pc := 77) h (i := 5) zd_MO_rule_77 5 rfl ?_
  refine zi_zast (pc := 79) h (f := (ra 3)) 32 zq_k32 rfl (zz_ixN (j := i) (by omega)) zd_MO_rule_79 zn_u_r3 ?_
  refine zi_aload_n (pc := 80) h (i := 0) zd_MO_rule_80 rfl 0 rfl ?_
  refine zi_callV (pc := 81) h (st := []) (zc_MO_rules) zm_MO_rules zw_772 zx_MO zq_k26 rfl ⟨by decide, by decide⟩ zd_MO_rule_81 (Nat.le_of_ble_eq_true rfl) rfl ?_
  exact zi_ireturn (pc := 84) h hr zd_MO_rule_84 rfl rfl

set_option maxRecDepth 20000 in
theorem zc_MO_rule_ok1 {l : Launch} {G : zz_G} {F : Nat → va_E} {w : Nat → Int32} {sz : Int32} {la : Nat → Int32} {lz : Int32} {ra : Nat → Nat → Int32} {fn : Int32} {fa : Nat → Nat → Int32} {cd : Int32} {i : Nat} {k w2 b p : Int32} (hi : i < 4) (hk : ¬ k = 0) (hk2 : ¬ zv_isk k = 0) (hb1 : ¬ b < 0) (hb2 : b ≤ 32) : zz_M l zy_MO_rule zb_MO_rule 6 (some .int) 1 22 G [.ref (G.2.2 26), .int (nI i), .int k, .int w2, .int b, .int p] (zz_N G F w sz la lz ra fn fa cd) (some (.int (zv_rc (zv_rul ra i k w2 b p 0) 0 4 0))) (zz_N G F w sz la lz (zv_rul ra i k w2 b p) fn fa 0) := by
  refine zz_M.of (by decide) (Nat.le_of_ble_eq_true rfl) ?_
  intro X hX h hr
  subst hX
  have h : zz_C X G (zz_A G.2.2) 6 zb_MO_rule "PortTranslatorModel" 1 22 0 0 := h
  refine zi_aload_n (pc := 0) h (i := 0) zd_MO_rule_0 rfl 0 rfl ?_
  refine zi_iload_n (pc := 1) h (i := 1) zd_MO_rule_1 rfl 1 rfl ?_
  refine zi_if_lt_f (pc := 2) h (tgt := 33) zd_MO_rule_2 rfl (nI_pos (by omega)) ?_
  refine zi_iload_n (pc := 5) h (i := 1) zd_MO_rule_5 rfl 1 rfl ?_
  refine zi_iconst (pc := 6) h zd_MO_rule_6 zq_ic_3 ?_
  refine zi_icmp_gt_f (pc := 7) h (tgt := 33) zd_MO_rule_7 rfl (nI_nlt (a := 3) (by omega) (by decide)) ?_
  refine zi_iload_n (pc := 10) h (i := 2) zd_MO_rule_10 rfl 2 rfl ?_
  refine zi_if_eq_f (pc := 11) h (tgt := 21) zd_MO_rule_11 rfl hk ?_
  refine zi_iload_n (pc := 14) h (i := 2) zd_MO_rule_14 rfl 2 rfl ?_
  refine zi_callS (pc := 15) h (st := [_]) (zc_MO_isKind) zm_MO_isKind zw_671 ⟨by decide, by decide⟩ zd_MO_rule_15 (Nat.le_of_ble_eq_true rfl) rfl ?_
  refine zi_if_eq_f (pc := 18) h (tgt := 33) zd_MO_rule_18 rfl hk2 ?_
  refine zi_iload (pc := 21) h (i := 4) zd_MO_rule_21 4 rfl ?_
  refine zi_if_lt_f (pc := 23) h (tgt := 33) zd_MO_rule_23 rfl hb1 ?_
  refine zi_iload (pc := 26) h (i := 4) zd_MO_rule_26 4 rfl ?_
  refine zi_bipush (pc := 28) h zd_MO_rule_28 zq_bi_32 ?_
  refine zi_icmp_le_t (pc := 30) h (tgt := 37) zd_MO_rule_30 rfl hb2 ?_
  refine zi_iconst (pc := 37) h zd_MO_rule_37 zq_ic_0 ?_
  refine zi_put (pc := 38) h zx_MO 26 17 zq_k26 rfl zq_j_17_18 zw_601 rfl rfl rfl (Nat.le_of_ble_eq_true rfl) zd_MO_rule_38 zn_u_cd ?_
  refine zi_aload_n (pc := 41) h (i := 0) zd_MO_rule_41 rfl 0 rfl ?_
  refine zi_get (pc := 42) h zx_MO 26 17 zq_k26 rfl zq_j_17_18 zw_601 rfl zd_MO_rule_42 ?_
  refine zi_topv (0) rfl ?_
  refine zi_if_le_t (pc := 45) h (tgt := 50) zd_MO_rule_45 rfl (by decide) ?_
  refine zi_aload_n (pc := 50) h (i := 0) zd_MO_rule_50 rfl 0 rfl ?_
  refine zi_get (pc := 51) h zx_MO 26 4 zq_k26 rfl zq_j_4_18 zw_588 rfl zd_MO_rule_51 ?_
  refine zi_iload_n (pc := 54) h (i := 1) zd_MO_rule_54 rfl 1 rfl ?_
  refine zi_iload_n (pc := 55) h (i := 2) zd_MO_rule_55 rfl 2 rfl ?_
  refine zi_iast (pc := 56) h (f := (ra 0)) 29 zq_k29 rfl (zz_ixN (j := i) (by omega)) zd_MO_rule_56 zn_u_r0 ?_
  refine zi_aload_n (pc := 57) h (i := 0) zd_MO_rule_57 rfl 0 rfl ?_
  refine zi_get (pc := 58) h zx_MO 26 5 zq_k26 rfl zq_j_5_18 zw_589 rfl zd_MO_rule_58 ?_
  refine zi_iload_n (pc := 61) h (i := 1) zd_MO_rule_61 rfl 1 rfl ?_
  refine zi_iload_n (pc := 62) h (i := 3) zd_MO_rule_62 rfl 3 rfl ?_
  refine zi_iast (pc := 63) h (f := (ra 1)) 30 zq_k30 rfl (zz_ixN (j := i) (by omega)) zd_MO_rule_63 zn_u_r1 ?_
  refine zi_aload_n (pc := 64) h (i := 0) zd_MO_rule_64 rfl 0 rfl ?_
  refine zi_get (pc := 65) h zx_MO 26 6 zq_k26 rfl zq_j_6_18 zw_590 rfl zd_MO_rule_65 ?_
  refine zi_iload_n (pc := 68) h (i := 1) zd_MO_rule_68 rfl 1 rfl ?_
  refine zi_iload (pc := 69) h (i := 4) zd_MO_rule_69 4 rfl ?_
  refine zi_iast (pc := 71) h (f := (ra 2)) 31 zq_k31 rfl (zz_ixN (j := i) (by omega)) zd_MO_rule_71 zn_u_r2 ?_
  refine zi_aload_n (pc := 72) h (i := 0) zd_MO_rule_72 rfl 0 rfl ?_
  refine zi_get (pc := 73) h zx_MO 26 7 zq_k26 rfl zq_j_7_18 zw_591 rfl zd_MO_rule_73 ?_
  refine zi_iload_n (pc := 76) h (i := 1) zd_MO_rule_76 rfl 1 rfl ?_
  refine zi_iload (pc := 77) h (i := 5) zd_MO_rule_77 5 rfl ?_
  refine zi_zast (pc := 79) h (f := (ra 3)) 32 zq_k32 rfl (zz_ixN (j := i) (by omega)) zd_MO_rule_79 zn_u_r3 ?_
  refine zi_aload_n (pc := 80) h (i := 0) zd_MO_rule_80 rfl 0 rfl ?_
  refine zi_callV (pc := 81) h (st := []) (zc_MO_rules) zm_MO_rules zw_772 zx_MO zq_k26 rfl ⟨by decide, by decide⟩ zd_MO_rule_81 (Nat.le_of_ble_eq_true rfl) rfl ?_
  exact zi_ireturn (pc := 84) h hr zd_MO_rule_84 rfl rfl

set_option maxRecDepth 20000 in
theorem zc_MO_forget_a {l : Launch} {G : zz_G} {F : Nat → va_E} {w : Nat → Int32} {sz : Int32} {la : Nat → Int32} {lz : Int32} {ra : Nat → Nat → Int32} {fn : Int32} {fa : Nat → Nat → Int32} {cd : Int32} {x : Int32} (h1 : x < 0) : zz_M l zy_MO_forget zb_MO_forget 2 (some .int) 1 22 G [.ref (G.2.2 26), .int x] (zz_N G F w sz la lz ra fn fa cd) (some (.int 0)) (zz_N G F w sz la lz ra fn fa 1) := by
  refine zz_M.of (by decide) (Nat.le_of_ble_eq_true rfl) ?_
  intro X hX h hr
  subst hX
  have h : zz_C X G (zz_A G.2.2) 2 zb_MO_forget "PortTranslatorModel" 1 22 0 0 := h
  refine zi_aload_n (pc := 0) h (i := 0) zd_MO_forget_0 rfl 0 rfl ?_
  refine zi_iload_n (pc := 1) h (i := 1) zd_MO_forget_1 rfl 1 rfl ?_
  refine zi_if_lt_t (pc := 2) h (tgt := 19) zd_MO_forget_2 rfl h1 ?_
  refine zi_iconst (pc := 19) h zd_MO_forget_19 zq_ic_1 ?_
  refine zi_goto (pc := 20) h (tgt := 24) zd_MO_forget_20 rfl ?_
  refine zi_put (pc := 24) h zx_MO 26 17 zq_k26 rfl zq_j_17_18 zw_601 rfl rfl rfl (Nat.le_of_ble_eq_true rfl) zd_MO_forget_24 zn_u_cd ?_
  refine zi_aload_n (pc := 27) h (i := 0) zd_MO_forget_27 rfl 0 rfl ?_
  refine zi_get (pc := 28) h zx_MO 26 17 zq_k26 rfl zq_j_17_18 zw_601 rfl zd_MO_forget_28 ?_
  refine zi_topv (1) rfl ?_
  refine zi_if_le_f (pc := 31) h (tgt := 36) zd_MO_forget_31 rfl (by decide) ?_
  refine zi_iconst (pc := 34) h zd_MO_forget_34 zq_ic_0 ?_
  exact zi_ireturn (pc := 35) h hr zd_MO_forget_35 rfl rfl

set_option maxRecDepth 20000 in
theorem zc_MO_forget_b {l : Launch} {G : zz_G} {F : Nat → va_E} {w : Nat → Int32} {sz : Int32} {la : Nat → Int32} {lz : Int32} {ra : Nat → Nat → Int32} {fn : Int32} {fa : Nat → Nat → Int32} {cd : Int32} {x : Int32} (h0 : ¬ x < 0) (h1 : 3 < x) : zz_M l zy_MO_forget zb_MO_forget 2 (some .int) 1 22 G [.ref (G.2.2 26), .int x] (zz_N G F w sz la lz ra fn fa cd) (some (.int 0)) (zz_N G F w sz la lz ra fn fa 1) := by
  refine zz_M.of (by decide) (Nat.le_of_ble_eq_true rfl) ?_
  intro X hX h hr
  subst hX
  have h : zz_C X G (zz_A G.2.2) 2 zb_MO_forget "PortTranslatorModel" 1 22 0 0 := h
  refine zi_aload_n (pc := 0) h (i := 0) zd_MO_forget_0 rfl 0 rfl ?_
  refine zi_iload_n (pc := 1) h (i := 1) zd_MO_forget_1 rfl 1 rfl ?_
  refine zi_if_lt_f (pc := 2) h (tgt := 19) zd_MO_forget_2 rfl h0 ?_
  refine zi_iload_n (pc := 5) h (i := 1) zd_MO_forget_5 rfl 1 rfl ?_
  refine zi_iconst (pc := 6) h zd_MO_forget_6 zq_ic_3 ?_
  refine zi_icmp_gt_t (pc := 7) h (tgt := 19) zd_MO_forget_7 rfl h1 ?_
  refine zi_iconst (pc := 19) h zd_MO_forget_19 zq_ic_1 ?_
  refine zi_goto (pc := 20) h (tgt := 24) zd_MO_forget_20 rfl ?_
  refine zi_put (pc := 24) h zx_MO 26 17 zq_k26 rfl zq_j_17_18 zw_601 rfl rfl rfl (Nat.le_of_ble_eq_true rfl) zd_MO_forget_24 zn_u_cd ?_
  refine zi_aload_n (pc := 27) h (i := 0) zd_MO_forget_27 rfl 0 rfl ?_
  refine zi_get (pc := 28) h zx_MO 26 17 zq_k26 rfl zq_j_17_18 zw_601 rfl zd_MO_forget_28 ?_
  refine zi_topv (1) rfl ?_
  refine zi_if_le_f (pc := 31) h (tgt := 36) zd_MO_forget_31 rfl (by decide) ?_
  refine zi_iconst (pc := 34) h zd_MO_forget_34 zq_ic_0 ?_
  exact zi_ireturn (pc := 35) h hr zd_MO_forget_35 rfl rfl

set_option maxRecDepth 20000 in
theorem zc_MO_forget_c {l : Launch} {G : zz_G} {F : Nat → va_E} {w : Nat → Int32} {sz : Int32} {la : Nat → Int32} {lz : Int32} {ra : Nat → Nat → Int32} {fn : Int32} {fa : Nat → Nat → Int32} {cd : Int32} {i : Nat} (hi : i < 4) (hk : ¬ 0 ≤ ra 0 i) : zz_M l zy_MO_forget zb_MO_forget 2 (some .int) 1 22 G [.ref (G.2.2 26), .int (nI i)] (zz_N G F w sz la lz ra fn fa cd) (some (.int 0)) (zz_N G F w sz la lz ra fn fa 1) := by
  refine zz_M.of (by decide) (Nat.le_of_ble_eq_true rfl) ?_
  intro X hX h hr
  subst hX
  have h : zz_C X G (zz_A G.2.2) 2 zb_MO_forget "PortTranslatorModel" 1 22 0 0 := h
  refine zi_aload_n (pc := 0) h (i := 0) zd_MO_forget_0 rfl 0 rfl ?_
  refine zi_iload_n (pc := 1) h (i := 1) zd_MO_forget_1 rfl 1 rfl ?_
  refine zi_if_lt_f (pc := 2) h (tgt := 19) zd_MO_forget_2 rfl (nI_pos (by omega)) ?_
  refine zi_iload_n (pc := 5) h (i := 1) zd_MO_forget_5 rfl 1 rfl ?_
  refine zi_iconst (pc := 6) h zd_MO_forget_6 zq_ic_3 ?_
  refine zi_icmp_gt_f (pc := 7) h (tgt := 19) zd_MO_forget_7 rfl (nI_nlt (a := 3) (by omega) (by decide)) ?_
  refine zi_aload_n (pc := 10) h (i := 0) zd_MO_forget_10 rfl 0 rfl ?_
  refine zi_get (pc := 11) h zx_MO 26 4 zq_k26 rfl zq_j_4_18 zw_588 rfl zd_MO_forget_11 ?_
  refine zi_iload_n (pc := 14) h (i := 1) zd_MO_forget_14 rfl 1 rfl ?_
  refine zi_iald (pc := 15) h 29 zq_k29 rfl (zz_ixN (j := i) (by omega)) zd_MO_forget_15 ?_
  refine zi_if_ge_f (pc := 16) h (tgt := 23) zd_MO_forget_16 rfl hk ?_
  refine zi_iconst (pc := 19) h zd_MO_forget_19 zq_ic_1 ?_
  refine zi_goto (pc := 20) h (tgt := 24) zd_MO_forget_20 rfl ?_
  refine zi_put (pc := 24) h zx_MO 26 17 zq_k26 rfl zq_j_17_18 zw_601 rfl rfl rfl (Nat.le_of_ble_eq_true rfl) zd_MO_forget_24 zn_u_cd ?_
  refine zi_aload_n (pc := 27) h (i := 0) zd_MO_forget_27 rfl 0 rfl ?_
  refine zi_get (pc := 28) h zx_MO 26 17 zq_k26 rfl zq_j_17_18 zw_601 rfl zd_MO_forget_28 ?_
  refine zi_topv (1) rfl ?_
  refine zi_if_le_f (pc := 31) h (tgt := 36) zd_MO_forget_31 rfl (by decide) ?_
  refine zi_iconst (pc := 34) h zd_MO_forget_34 zq_ic_0 ?_
  exact zi_ireturn (pc := 35) h hr zd_MO_forget_35 rfl rfl

set_option maxRecDepth 20000 in
theorem zc_MO_forget_ok {l : Launch} {G : zz_G} {F : Nat → va_E} {w : Nat → Int32} {sz : Int32} {la : Nat → Int32} {lz : Int32} {ra : Nat → Nat → Int32} {fn : Int32} {fa : Nat → Nat → Int32} {cd : Int32} {i : Nat} (hi : i < 4) (hk : 0 ≤ ra 0 i) : zz_M l zy_MO_forget zb_MO_forget 2 (some .int) 1 22 G [.ref (G.2.2 26), .int (nI i)] (zz_N G F w sz la lz ra fn fa cd) (some (.int (zv_rc (upd (ra 0) i (-1)) 0 4 0))) (zz_N G F w sz la lz (va_up ra 0 (upd (ra 0) i (-1))) fn fa 0) := by
  refine zz_M.of (by decide) (Nat.le_of_ble_eq_true rfl) ?_
  intro X hX h hr
  subst hX
  have h : zz_C X G (zz_A G.2.2) 2 zb_MO_forget "PortTranslatorModel" 1 22 0 0 := h
  refine zi_aload_n (pc := 0) h (i := 0) zd_MO_forget_0 rfl 0 rfl ?_
  refine zi_iload_n (pc := 1) h (i := 1) zd_MO_forget_1 rfl 1 rfl ?_
  refine zi_if_lt_f (pc := 2) h (tgt := 19) zd_MO_forget_2 rfl (nI_pos (by omega)) ?_
  refine zi_iload_n (pc := 5) h (i := 1) zd_MO_forget_5 rfl 1 rfl ?_
  refine zi_iconst (pc := 6) h zd_MO_forget_6 zq_ic_3 ?_
  refine zi_icmp_gt_f (pc := 7) h (tgt := 19) zd_MO_forget_7 rfl (nI_nlt (a := 3) (by omega) (by decide)) ?_
  refine zi_aload_n (pc := 10) h (i := 0) zd_MO_forget_10 rfl 0 rfl ?_
  refine zi_get (pc := 11) h zx_MO 26 4 zq_k26 rfl zq_j_4_18 zw_588 rfl zd_MO_forget_11 ?_
  refine zi_iload_n (pc := 14) h (i := 1) zd_MO_forget_14 rfl 1 rfl ?_
  refine zi_iald (pc := 15) h 29 zq_k29 rfl (zz_ixN (j := i) (by omega)) zd_MO_forget_15 ?_
  refine zi_if_ge_t (pc := 16) h (tgt := 23) zd_MO_forget_16 rfl hk ?_
  refine zi_iconst (pc := 23) h zd_MO_forget_23 zq_ic_0 ?_
  refine zi_put (pc := 24) h zx_MO 26 17 zq_k26 rfl zq_j_17_18 zw_601 rfl rfl rfl (Nat.le_of_ble_eq_true rfl) zd_MO_forget_24 zn_u_cd ?_
  refine zi_aload_n (pc := 27) h (i := 0) zd_MO_forget_27 rfl 0 rfl ?_
  refine zi_get (pc := 28) h zx_MO 26 17 zq_k26 rfl zq_j_17_18 zw_601 rfl zd_MO_forget_28 ?_
  refine zi_topv (0) rfl ?_
  refine zi_if_le_t (pc := 31) h (tgt := 36) zd_MO_forget_31 rfl (by decide) ?_
  refine zi_aload_n (pc := 36) h (i := 0) zd_MO_forget_36 rfl 0 rfl ?_
  refine zi_get (pc := 37) h zx_MO 26 4 zq_k26 rfl zq_j_4_18 zw_588 rfl zd_MO_forget_37 ?_
  refine zi_iload_n (pc := 40) h (i := 1) zd_MO_forget_40 rfl 1 rfl ?_
  refine zi_iconst (pc := 41) h zd_MO_forget_41 zq_ic_m1 ?_
  refine zi_iast (pc := 42) h 29 zq_k29 rfl (zz_ixN (j := i) (by omega)) zd_MO_forget_42 zn_u_r0 ?_
  refine zi_aload_n (pc := 43) h (i := 0) zd_MO_forget_43 rfl 0 rfl ?_
  refine zi_callV (pc := 44) h (st := []) (zc_MO_rules) zm_MO_rules zw_772 zx_MO zq_k26 rfl ⟨by decide, by decide⟩ zd_MO_forget_44 (Nat.le_of_ble_eq_true rfl) rfl ?_
  exact zi_ireturn (pc := 47) h hr zd_MO_forget_47 rfl rfl

set_option maxRecDepth 20000 in
theorem zc_MO_flow_a {l : Launch} {G : zz_G} {F : Nat → va_E} {w : Nat → Int32} {sz : Int32} {la : Nat → Int32} {lz : Int32} {ra : Nat → Nat → Int32} {fa : Nat → Nat → Int32} {cd : Int32} {c : Nat} {x y : Int32} (h1 : x < 0) : zz_M l zy_MO_flow zb_MO_flow 3 (some .int) 0 0 G [.ref (G.2.2 26), .int x, .int y] (zz_N G F w sz la lz ra (nI c) fa cd) (some (.int 0)) (zz_N G F w sz la lz ra (nI c) fa 1) := by
  refine zz_M.of (by decide) (Nat.le_of_ble_eq_true rfl) ?_
  intro X hX h hr
  subst hX
  have h : zz_C X G (zz_A G.2.2) 3 zb_MO_flow "PortTranslatorModel" 0 0 0 0 := h
  refine zi_aload_n (pc := 0) h (i := 0) zd_MO_flow_0 rfl 0 rfl ?_
  refine zi_iload_n (pc := 1) h (i := 1) zd_MO_flow_1 rfl 1 rfl ?_
  refine zi_if_lt_t (pc := 2) h (tgt := 13) zd_MO_flow_2 rfl h1 ?_
  refine zi_iconst (pc := 13) h zd_MO_flow_13 zq_ic_1 ?_
  refine zi_goto (pc := 14) h (tgt := 32) zd_MO_flow_14 rfl ?_
  refine zi_put (pc := 32) h zx_MO 26 17 zq_k26 rfl zq_j_17_18 zw_601 rfl rfl rfl (Nat.le_of_ble_eq_true rfl) zd_MO_flow_32 zn_u_cd ?_
  refine zi_aload_n (pc := 35) h (i := 0) zd_MO_flow_35 rfl 0 rfl ?_
  refine zi_get (pc := 36) h zx_MO 26 17 zq_k26 rfl zq_j_17_18 zw_601 rfl zd_MO_flow_36 ?_
  refine zi_topv (1) rfl ?_
  refine zi_if_le_f (pc := 39) h (tgt := 44) zd_MO_flow_39 rfl (by decide) ?_
  refine zi_iconst (pc := 42) h zd_MO_flow_42 zq_ic_0 ?_
  exact zi_ireturn (pc := 43) h hr zd_MO_flow_43 rfl rfl

set_option maxRecDepth 20000 in
theorem zc_MO_flow_b {l : Launch} {G : zz_G} {F : Nat → va_E} {w : Nat → Int32} {sz : Int32} {la : Nat → Int32} {lz : Int32} {ra : Nat → Nat → Int32} {fa : Nat → Nat → Int32} {cd : Int32} {c : Nat} {x y : Int32} (h1 : ¬ x < nI c) : zz_M l zy_MO_flow zb_MO_flow 3 (some .int) 0 0 G [.ref (G.2.2 26), .int x, .int y] (zz_N G F w sz la lz ra (nI c) fa cd) (some (.int 0)) (zz_N G F w sz la lz ra (nI c) fa 1) := by
  refine zz_M.of (by decide) (Nat.le_of_ble_eq_true rfl) ?_
  intro X hX h hr
  subst hX
  have h : zz_C X G (zz_A G.2.2) 3 zb_MO_flow "PortTranslatorModel" 0 0 0 0 := h
  refine zi_aload_n (pc := 0) h (i := 0) zd_MO_flow_0 rfl 0 rfl ?_
  refine zi_iload_n (pc := 1) h (i := 1) zd_MO_flow_1 rfl 1 rfl ?_
  refine zi_if_lt (pc := 2) h (tgt := 13) zd_MO_flow_2 rfl ?_ ?_
  · intro b2
    refine zi_iconst (pc := 13) h zd_MO_flow_13 zq_ic_1 ?_
    refine zi_goto (pc := 14) h (tgt := 32) zd_MO_flow_14 rfl ?_
    refine zi_put (pc := 32) h zx_MO 26 17 zq_k26 rfl zq_j_17_18 zw_601 rfl rfl rfl (Nat.le_of_ble_eq_true rfl) zd_MO_flow_32 zn_u_cd ?_
    refine zi_aload_n (pc := 35) h (i := 0) zd_MO_flow_35 rfl 0 rfl ?_
    refine zi_get (pc := 36) h zx_MO 26 17 zq_k26 rfl zq_j_17_18 zw_601 rfl zd_MO_flow_36 ?_
    refine zi_topv (1) rfl ?_
    refine zi_if_le_f (pc := 39) h (tgt := 44) zd_MO_flow_39 rfl (by decide) ?_
    refine zi_iconst (pc := 42) h zd_MO_flow_42 zq_ic_0 ?_
    exact zi_ireturn (pc := 43) h hr zd_MO_flow_43 rfl rfl
  · intro b2
    refine zi_iload_n (pc := 5) h (i := 1) zd_MO_flow_5 rfl 1 rfl ?_
    refine zi_aload_n (pc := 6) h (i := 0) zd_MO_flow_6 rfl 0 rfl ?_
    refine zi_get (pc := 7) h zx_MO 26 8 zq_k26 rfl zq_j_8_18 zw_592 rfl zd_MO_flow_7 ?_
    refine zi_icmp_lt_f (pc := 10) h (tgt := 17) zd_MO_flow_10 rfl h1 ?_
    refine zi_iconst (pc := 13) h zd_MO_flow_13 zq_ic_1 ?_
    refine zi_goto (pc := 14) h (tgt := 32) zd_MO_flow_14 rfl ?_
    refine zi_put (pc := 32) h zx_MO 26 17 zq_k26 rfl zq_j_17_18 zw_601 rfl rfl rfl (Nat.le_of_ble_eq_true rfl) zd_MO_flow_32 zn_u_cd ?_
    refine zi_aload_n (pc := 35) h (i := 0) zd_MO_flow_35 rfl 0 rfl ?_
    refine zi_get (pc := 36) h zx_MO 26 17 zq_k26 rfl zq_j_17_18 zw_601 rfl zd_MO_flow_36 ?_
    refine zi_topv (1) rfl ?_
    refine zi_if_le_f (pc := 39) h (tgt := 44) zd_MO_flow_39 rfl (by decide) ?_
    refine zi_iconst (pc := 42) h zd_MO_flow_42 zq_ic_0 ?_
    exact zi_ireturn (pc := 43) h hr zd_MO_flow_43 rfl rfl

set_option maxRecDepth 20000 in
theorem zc_MO_flow_c {l : Launch} {G : zz_G} {F : Nat → va_E} {w : Nat → Int32} {sz : Int32} {la : Nat → Int32} {lz : Int32} {ra : Nat → Nat → Int32} {fa : Nat → Nat → Int32} {cd : Int32} {c i : Nat} {y : Int32} (hi : i < c) (hc : c ≤ 12) (h1 : y < 0) : zz_M l zy_MO_flow zb_MO_flow 3 (some .int) 0 0 G [.ref (G.2.2 26), .int (nI i), .int y] (zz_N G F w sz la lz ra (nI c) fa cd) (some (.int 0)) (zz_N G F w sz la lz ra (nI c) fa 2) := by
  refine zz_M.of (by decide) (Nat.le_of_ble_eq_true rfl) ?_
  intro X hX h hr
  subst hX
  have h : zz_C X G (zz_A G.2.2) 3 zb_MO_flow "PortTranslatorModel" 0 0 0 0 := h
  refine zi_aload_n (pc := 0) h (i := 0) zd_MO_flow_0 rfl 0 rfl ?_
  refine zi_iload_n (pc := 1) h (i := 1) zd_MO_flow_1 rfl 1 rfl ?_
  refine zi_if_lt_f (pc := 2) h (tgt := 13) zd_MO_flow_2 rfl (nI_pos (by omega)) ?_
  refine zi_iload_n (pc := 5) h (i := 1) zd_MO_flow_5 rfl 1 rfl ?_
  refine zi_aload_n (pc := 6) h (i := 0) zd_MO_flow_6 rfl 0 rfl ?_
  refine zi_get (pc := 7) h zx_MO 26 8 zq_k26 rfl zq_j_8_18 zw_592 rfl zd_MO_flow_7 ?_
  refine zi_icmp_lt_t (pc := 10) h (tgt := 17) zd_MO_flow_10 rfl (nI_lt hi (by omega)) ?_
  refine zi_iload_n (pc := 17) h (i := 2) zd_MO_flow_17 rfl 2 rfl ?_
  refine zi_if_lt_t (pc := 18) h (tgt := 27) zd_MO_flow_18 rfl h1 ?_
  refine zi_iconst (pc := 27) h zd_MO_flow_27 zq_ic_2 ?_
  refine zi_goto (pc := 28) h (tgt := 32) zd_MO_flow_28 rfl ?_
  refine zi_put (pc := 32) h zx_MO 26 17 zq_k26 rfl zq_j_17_18 zw_601 rfl rfl rfl (Nat.le_of_ble_eq_true rfl) zd_MO_flow_32 zn_u_cd ?_
  refine zi_aload_n (pc := 35) h (i := 0) zd_MO_flow_35 rfl 0 rfl ?_
  refine zi_get (pc := 36) h zx_MO 26 17 zq_k26 rfl zq_j_17_18 zw_601 rfl zd_MO_flow_36 ?_
  refine zi_topv (2) rfl ?_
  refine zi_if_le_f (pc := 39) h (tgt := 44) zd_MO_flow_39 rfl (by decide) ?_
  refine zi_iconst (pc := 42) h zd_MO_flow_42 zq_ic_0 ?_
  exact zi_ireturn (pc := 43) h hr zd_MO_flow_43 rfl rfl

set_option maxRecDepth 20000 in
theorem zc_MO_flow_d {l : Launch} {G : zz_G} {F : Nat → va_E} {w : Nat → Int32} {sz : Int32} {la : Nat → Int32} {lz : Int32} {ra : Nat → Nat → Int32} {fa : Nat → Nat → Int32} {cd : Int32} {c i : Nat} {y : Int32} (hi : i < c) (hc : c ≤ 12) (h0 : ¬ y < 0) (h1 : ¬ y ≤ 7) : zz_M l zy_MO_flow zb_MO_flow 3 (some .int) 0 0 G [.ref (G.2.2 26), .int (nI i), .int y] (zz_N G F w sz la lz ra (nI c) fa cd) (some (.int 0)) (zz_N G F w sz la lz ra (nI c) fa 2) := by
  refine zz_M.of (by decide) (Nat.le_of_ble_eq_true rfl) ?_
  intro X hX h hr
  subst hX
  have h : zz_C X G (zz_A G.2.2) 3 zb_MO_flow "PortTranslatorModel" 0 0 0 0 := h
  refine zi_aload_n (pc := 0) h (i := 0) zd_MO_flow_0 rfl 0 rfl ?_
  refine zi_iload_n (pc := 1) h (i := 1) zd_MO_flow_1 rfl 1 rfl ?_
  refine zi_if_lt_f (pc := 2) h (tgt := 13) zd_MO_flow_2 rfl (nI_pos (by omega)) ?_
  refine zi_iload_n (pc := 5) h (i := 1) zd_MO_flow_5 rfl 1 rfl ?_
  refine zi_aload_n (pc := 6) h (i := 0) zd_MO_flow_6 rfl 0 rfl ?_
  refine zi_get (pc := 7) h zx_MO 26 8 zq_k26 rfl zq_j_8_18 zw_592 rfl zd_MO_flow_7 ?_
  refine zi_icmp_lt_t (pc := 10) h (tgt := 17) zd_MO_flow_10 rfl (nI_lt hi (by omega)) ?_
  refine zi_iload_n (pc := 17) h (i := 2) zd_MO_flow_17 rfl 2 rfl ?_
  refine zi_if_lt_f (pc := 18) h (tgt := 27) zd_MO_flow_18 rfl h0 ?_
  refine zi_iload_n (pc := 21) h (i := 2) zd_MO_flow_21 rfl 2 rfl ?_
  refine zi_bipush (pc := 22) h zd_MO_flow_22 zq_bi_7 ?_
  refine zi_icmp_le_f (pc := 24) h (tgt := 31) zd_MO_flow_24 rfl h1 ?_
  refine zi_iconst (pc := 27) h zd_MO_flow_27 zq_ic_2 ?_
  refine zi_goto (pc := 28) h (tgt := 32) zd_MO_flow_28 rfl ?_
  refine zi_put (pc := 32) h zx_MO 26 17 zq_k26 rfl zq_j_17_18 zw_601 rfl rfl rfl (Nat.le_of_ble_eq_true rfl) zd_MO_flow_32 zn_u_cd ?_
  refine zi_aload_n (pc := 35) h (i := 0) zd_MO_flow_35 rfl 0 rfl ?_
  refine zi_get (pc := 36) h zx_MO 26 17 zq_k26 rfl zq_j_17_18 zw_601 rfl zd_MO_flow_36 ?_
  refine zi_topv (2) rfl ?_
  refine zi_if_le_f (pc := 39) h (tgt := 44) zd_MO_flow_39 rfl (by decide) ?_
  refine zi_iconst (pc := 42) h zd_MO_flow_42 zq_ic_0 ?_
  exact zi_ireturn (pc := 43) h hr zd_MO_flow_43 rfl rfl

set_option maxRecDepth 20000 in
theorem zc_MO_flow_0 {l : Launch} {G : zz_G} {F : Nat → va_E} {w : Nat → Int32} {sz : Int32} {la : Nat → Int32} {lz : Int32} {ra : Nat → Nat → Int32} {fa : Nat → Nat → Int32} {cd : Int32} {c i : Nat} (hi : i < c) (hc : c ≤ 12) : zz_M l zy_MO_flow zb_MO_flow 3 (some .int) 0 0 G [.ref (G.2.2 26), .int (nI i), .int 0] (zz_N G F w sz la lz ra (nI c) fa cd) (some (.int (fa 0 i))) (zz_N G F w sz la lz ra (nI c) fa 0) := by
  refine zz_M.of (by decide) (Nat.le_of_ble_eq_true rfl) ?_
  intro X hX h hr
  subst hX
  have h : zz_C X G (zz_A G.2.2) 3 zb_MO_flow "PortTranslatorModel" 0 0 0 0 := h
  refine zi_aload_n (pc := 0) h (i := 0) zd_MO_flow_0 rfl 0 rfl ?_
  refine zi_iload_n (pc := 1) h (i := 1) zd_MO_flow_1 rfl 1 rfl ?_
  refine zi_if_lt_f (pc := 2) h (tgt := 13) zd_MO_flow_2 rfl (nI_pos (by omega)) ?_
  refine zi_iload_n (pc := 5) h (i := 1) zd_MO_flow_5 rfl 1 rfl ?_
  refine zi_aload_n (pc := 6) h (i := 0) zd_MO_flow_6 rfl 0 rfl ?_
  refine zi_get (pc := 7) h zx_MO 26 8 zq_k26 rfl zq_j_8_18 zw_592 rfl zd_MO_flow_7 ?_
  refine zi_icmp_lt_t (pc := 10) h (tgt := 17) zd_MO_flow_10 rfl (nI_lt hi (by omega)) ?_
  refine zi_iload_n (pc := 17) h (i := 2) zd_MO_flow_17 rfl 2 rfl ?_
  refine zi_if_lt_f (pc := 18) h (tgt := 27) zd_MO_flow_18 rfl (by decide) ?_
  refine zi_iload_n (pc := 21) h (i := 2) zd_MO_flow_21 rfl 2 rfl ?_
  refine zi_bipush (pc := 22) h zd_MO_flow_22 zq_bi_7 ?_
  refine zi_icmp_le_t (pc := 24) h (tgt := 31) zd_MO_flow_24 rfl (by decide) ?_
  refine zi_iconst (pc := 31) h zd_MO_flow_31 zq_ic_0 ?_
  refine zi_put (pc := 32) h zx_MO 26 17 zq_k26 rfl zq_j_17_18 zw_601 rfl rfl rfl (Nat.le_of_ble_eq_true rfl) zd_MO_flow_32 zn_u_cd ?_
  refine zi_aload_n (pc := 35) h (i := 0) zd_MO_flow_35 rfl 0 rfl ?_
  refine zi_get (pc := 36) h zx_MO 26 17 zq_k26 rfl zq_j_17_18 zw_601 rfl zd_MO_flow_36 ?_
  refine zi_topv (0) rfl ?_
  refine zi_if_le_t (pc := 39) h (tgt := 44) zd_MO_flow_39 rfl (by decide) ?_
  refine zi_iload_n (pc := 44) h (i := 2) zd_MO_flow_44 rfl 2 rfl ?_
  refine zi_tableIn (pc := 45) h (off := 43) (tgt := 88) zd_MO_flow_45 (by decide) (by decide) (by decide) rfl ?_
  refine zi_aload_n (pc := 88) h (i := 0) zd_MO_flow_88 rfl 0 rfl ?_
  refine zi_get (pc := 89) h zx_MO 26 9 zq_k26 rfl zq_j_9_18 zw_593 rfl zd_MO_flow_89 ?_
  refine zi_iload_n (pc := 92) h (i := 1) zd_MO_flow_92 rfl 1 rfl ?_
  refine zi_iald (pc := 93) h 33 zq_k33 rfl (zz_ixN (j := i) (by omega)) zd_MO_flow_93 ?_
  exact zi_ireturn (pc := 94) h hr zd_MO_flow_94 rfl rfl

set_option maxRecDepth 20000 in
theorem zc_MO_flow_1 {l : Launch} {G : zz_G} {F : Nat → va_E} {w : Nat → Int32} {sz : Int32} {la : Nat → Int32} {lz : Int32} {ra : Nat → Nat → Int32} {fa : Nat → Nat → Int32} {cd : Int32} {c i : Nat} (hi : i < c) (hc : c ≤ 12) : zz_M l zy_MO_flow zb_MO_flow 3 (some .int) 0 0 G [.ref (G.2.2 26), .int (nI i), .int 1] (zz_N G F w sz la lz ra (nI c) fa cd) (some (.int (fa 1 i))) (zz_N G F w sz la lz ra (nI c) fa 0) := by
  refine zz_M.of (by decide) (Nat.le_of_ble_eq_true rfl) ?_
  intro X hX h hr
  subst hX
  have h : zz_C X G (zz_A G.2.2) 3 zb_MO_flow "PortTranslatorModel" 0 0 0 0 := h
  refine zi_aload_n (pc := 0) h (i := 0) zd_MO_flow_0 rfl 0 rfl ?_
  refine zi_iload_n (pc := 1) h (i := 1) zd_MO_flow_1 rfl 1 rfl ?_
  refine zi_if_lt_f (pc := 2) h (tgt := 13) zd_MO_flow_2 rfl (nI_pos (by omega)) ?_
  refine zi_iload_n (pc := 5) h (i := 1) zd_MO_flow_5 rfl 1 rfl ?_
  refine zi_aload_n (pc := 6) h (i := 0) zd_MO_flow_6 rfl 0 rfl ?_
  refine zi_get (pc := 7) h zx_MO 26 8 zq_k26 rfl zq_j_8_18 zw_592 rfl zd_MO_flow_7 ?_
  refine zi_icmp_lt_t (pc := 10) h (tgt := 17) zd_MO_flow_10 rfl (nI_lt hi (by omega)) ?_
  refine zi_iload_n (pc := 17) h (i := 2) zd_MO_flow_17 rfl 2 rfl ?_
  refine zi_if_lt_f (pc := 18) h (tgt := 27) zd_MO_flow_18 rfl (by decide) ?_
  refine zi_iload_n (pc := 21) h (i := 2) zd_MO_flow_21 rfl 2 rfl ?_
  refine zi_bipush (pc := 22) h zd_MO_flow_22 zq_bi_7 ?_
  refine zi_icmp_le_t (pc := 24) h (tgt := 31) zd_MO_flow_24 rfl (by decide) ?_
  refine zi_iconst (pc := 31) h zd_MO_flow_31 zq_ic_0 ?_
  refine zi_put (pc := 32) h zx_MO 26 17 zq_k26 rfl zq_j_17_18 zw_601 rfl rfl rfl (Nat.le_of_ble_eq_true rfl) zd_MO_flow_32 zn_u_cd ?_
  refine zi_aload_n (pc := 35) h (i := 0) zd_MO_flow_35 rfl 0 rfl ?_
  refine zi_get (pc := 36) h zx_MO 26 17 zq_k26 rfl zq_j_17_18 zw_601 rfl zd_MO_flow_36 ?_
  refine zi_topv (0) rfl ?_
  refine zi_if_le_t (pc := 39) h (tgt := 44) zd_MO_flow_39 rfl (by decide) ?_
  refine zi_iload_n (pc := 44) h (i := 2) zd_MO_flow_44 rfl 2 rfl ?_
  refine zi_tableIn (pc := 45) h (off := 50) (tgt := 95) zd_MO_flow_45 (by decide) (by decide) (by decide) rfl ?_
  refine zi_aload_n (pc := 95) h (i := 0) zd_MO_flow_95 rfl 0 rfl ?_
  refine zi_get (pc := 96) h zx_MO 26 10 zq_k26 rfl zq_j_10_18 zw_594 rfl zd_MO_flow_96 ?_
  refine zi_iload_n (pc := 99) h (i := 1) zd_MO_flow_99 rfl 1 rfl ?_
  refine zi_iald (pc := 100) h 34 zq_k34 rfl (zz_ixN (j := i) (by omega)) zd_MO_flow_100 ?_
  exact zi_ireturn (pc := 101) h hr zd_MO_flow_101 rfl rfl

set_option maxRecDepth 20000 in
theorem zc_MO_flow_2 {l : Launch} {G : zz_G} {F : Nat → va_E} {w : Nat → Int32} {sz : Int32} {la : Nat → Int32} {lz : Int32} {ra : Nat → Nat → Int32} {fa : Nat → Nat → Int32} {cd : Int32} {c i : Nat} (hi : i < c) (hc : c ≤ 12) : zz_M l zy_MO_flow zb_MO_flow 3 (some .int) 0 0 G [.ref (G.2.2 26), .int (nI i), .int 2] (zz_N G F w sz la lz ra (nI c) fa cd) (some (.int (fa 2 i))) (zz_N G F w sz la lz ra (nI c) fa 0) := by
  refine zz_M.of (by decide) (Nat.le_of_ble_eq_true rfl) ?_
  intro X hX h hr
  subst hX
  have h : zz_C X G (zz_A G.2.2) 3 zb_MO_flow "PortTranslatorModel" 0 0 0 0 := h
  refine zi_aload_n (pc := 0) h (i := 0) zd_MO_flow_0 rfl 0 rfl ?_
  refine zi_iload_n (pc := 1) h (i := 1) zd_MO_flow_1 rfl 1 rfl ?_
  refine zi_if_lt_f (pc := 2) h (tgt := 13) zd_MO_flow_2 rfl (nI_pos (by omega)) ?_
  refine zi_iload_n (pc := 5) h (i := 1) zd_MO_flow_5 rfl 1 rfl ?_
  refine zi_aload_n (pc := 6) h (i := 0) zd_MO_flow_6 rfl 0 rfl ?_
  refine zi_get (pc := 7) h zx_MO 26 8 zq_k26 rfl zq_j_8_18 zw_592 rfl zd_MO_flow_7 ?_
  refine zi_icmp_lt_t (pc := 10) h (tgt := 17) zd_MO_flow_10 rfl (nI_lt hi (by omega)) ?_
  refine zi_iload_n (pc := 17) h (i := 2) zd_MO_flow_17 rfl 2 rfl ?_
  refine zi_if_lt_f (pc := 18) h (tgt := 27) zd_MO_flow_18 rfl (by decide) ?_
  refine zi_iload_n (pc := 21) h (i := 2) zd_MO_flow_21 rfl 2 rfl ?_
  refine zi_bipush (pc := 22) h zd_MO_flow_22 zq_bi_7 ?_
  refine zi_icmp_le_t (pc := 24) h (tgt := 31) zd_MO_flow_24 rfl (by decide) ?_
  refine zi_iconst (pc := 31) h zd_MO_flow_31 zq_ic_0 ?_
  refine zi_put (pc := 32) h zx_MO 26 17 zq_k26 rfl zq_j_17_18 zw_601 rfl rfl rfl (Nat.le_of_ble_eq_true rfl) zd_MO_flow_32 zn_u_cd ?_
  refine zi_aload_n (pc := 35) h (i := 0) zd_MO_flow_35 rfl 0 rfl ?_
  refine zi_get (pc := 36) h zx_MO 26 17 zq_k26 rfl zq_j_17_18 zw_601 rfl zd_MO_flow_36 ?_
  refine zi_topv (0) rfl ?_
  refine zi_if_le_t (pc := 39) h (tgt := 44) zd_MO_flow_39 rfl (by decide) ?_
  refine zi_iload_n (pc := 44) h (i := 2) zd_MO_flow_44 rfl 2 rfl ?_
  refine zi_tableIn (pc := 45) h (off := 57) (tgt := 102) zd_MO_flow_45 (by decide) (by decide) (by decide) rfl ?_
  refine zi_aload_n (pc := 102) h (i := 0) zd_MO_flow_102 rfl 0 rfl ?_
  refine zi_get (pc := 103) h zx_MO 26 11 zq_k26 rfl zq_j_11_18 zw_595 rfl zd_MO_flow_103 ?_
  refine zi_iload_n (pc := 106) h (i := 1) zd_MO_flow_106 rfl 1 rfl ?_
  refine zi_iald (pc := 107) h 35 zq_k35 rfl (zz_ixN (j := i) (by omega)) zd_MO_flow_107 ?_
  exact zi_ireturn (pc := 108) h hr zd_MO_flow_108 rfl rfl

set_option maxRecDepth 20000 in
theorem zc_MO_flow_3 {l : Launch} {G : zz_G} {F : Nat → va_E} {w : Nat → Int32} {sz : Int32} {la : Nat → Int32} {lz : Int32} {ra : Nat → Nat → Int32} {fa : Nat → Nat → Int32} {cd : Int32} {c i : Nat} (hi : i < c) (hc : c ≤ 12) : zz_M l zy_MO_flow zb_MO_flow 3 (some .int) 0 0 G [.ref (G.2.2 26), .int (nI i), .int 3] (zz_N G F w sz la lz ra (nI c) fa cd) (some (.int (fa 3 i))) (zz_N G F w sz la lz ra (nI c) fa 0) := by
  refine zz_M.of (by decide) (Nat.le_of_ble_eq_true rfl) ?_
  intro X hX h hr
  subst hX
  have h : zz_C X G (zz_A G.2.2) 3 zb_MO_flow "PortTranslatorModel" 0 0 0 0 := h
  refine zi_aload_n (pc := 0) h (i := 0) zd_MO_flow_0 rfl 0 rfl ?_
  refine zi_iload_n (pc := 1) h (i := 1) zd_MO_flow_1 rfl 1 rfl ?_
  refine zi_if_lt_f (pc := 2) h (tgt := 13) zd_MO_flow_2 rfl (nI_pos (by omega)) ?_
  refine zi_iload_n (pc := 5) h (i := 1) zd_MO_flow_5 rfl 1 rfl ?_
  refine zi_aload_n (pc := 6) h (i := 0) zd_MO_flow_6 rfl 0 rfl ?_
  refine zi_get (pc := 7) h zx_MO 26 8 zq_k26 rfl zq_j_8_18 zw_592 rfl zd_MO_flow_7 ?_
  refine zi_icmp_lt_t (pc := 10) h (tgt := 17) zd_MO_flow_10 rfl (nI_lt hi (by omega)) ?_
  refine zi_iload_n (pc := 17) h (i := 2) zd_MO_flow_17 rfl 2 rfl ?_
  refine zi_if_lt_f (pc := 18) h (tgt := 27) zd_MO_flow_18 rfl (by decide) ?_
  refine zi_iload_n (pc := 21) h (i := 2) zd_MO_flow_21 rfl 2 rfl ?_
  refine zi_bipush (pc := 22) h zd_MO_flow_22 zq_bi_7 ?_
  refine zi_icmp_le_t (pc := 24) h (tgt := 31) zd_MO_flow_24 rfl (by decide) ?_
  refine zi_iconst (pc := 31) h zd_MO_flow_31 zq_ic_0 ?_
  refine zi_put (pc := 32) h zx_MO 26 17 zq_k26 rfl zq_j_17_18 zw_601 rfl rfl rfl (Nat.le_of_ble_eq_true rfl) zd_MO_flow_32 zn_u_cd ?_
  refine zi_aload_n (pc := 35) h (i := 0) zd_MO_flow_35 rfl 0 rfl ?_
  refine zi_get (pc := 36) h zx_MO 26 17 zq_k26 rfl zq_j_17_18 zw_601 rfl zd_MO_flow_36 ?_
  refine zi_topv (0) rfl ?_
  refine zi_if_le_t (pc := 39) h (tgt := 44) zd_MO_flow_39 rfl (by decide) ?_
  refine zi_iload_n (pc := 44) h (i := 2) zd_MO_flow_44 rfl 2 rfl ?_
  refine zi_tableIn (pc := 45) h (off := 64) (tgt := 109) zd_MO_flow_45 (by decide) (by decide) (by decide) rfl ?_
  refine zi_aload_n (pc := 109) h (i := 0) zd_MO_flow_109 rfl 0 rfl ?_
  refine zi_get (pc := 110) h zx_MO 26 12 zq_k26 rfl zq_j_12_18 zw_596 rfl zd_MO_flow_110 ?_
  refine zi_iload_n (pc := 113) h (i := 1) zd_MO_flow_113 rfl 1 rfl ?_
  refine zi_iald (pc := 114) h 36 zq_k36 rfl (zz_ixN (j := i) (by omega)) zd_MO_flow_114 ?_
  exact zi_ireturn (pc := 115) h hr zd_MO_flow_115 rfl rfl

set_option maxRecDepth 20000 in
theorem zc_MO_flow_4 {l : Launch} {G : zz_G} {F : Nat → va_E} {w : Nat → Int32} {sz : Int32} {la : Nat → Int32} {lz : Int32} {ra : Nat → Nat → Int32} {fa : Nat → Nat → Int32} {cd : Int32} {c i : Nat} (hi : i < c) (hc : c ≤ 12) : zz_M l zy_MO_flow zb_MO_flow 3 (some .int) 0 0 G [.ref (G.2.2 26), .int (nI i), .int 4] (zz_N G F w sz la lz ra (nI c) fa cd) (some (.int (fa 4 i))) (zz_N G F w sz la lz ra (nI c) fa 0) := by
  refine zz_M.of (by decide) (Nat.le_of_ble_eq_true rfl) ?_
  intro X hX h hr
  subst hX
  have h : zz_C X G (zz_A G.2.2) 3 zb_MO_flow "PortTranslatorModel" 0 0 0 0 := h
  refine zi_aload_n (pc := 0) h (i := 0) zd_MO_flow_0 rfl 0 rfl ?_
  refine zi_iload_n (pc := 1) h (i := 1) zd_MO_flow_1 rfl 1 rfl ?_
  refine zi_if_lt_f (pc := 2) h (tgt := 13) zd_MO_flow_2 rfl (nI_pos (by omega)) ?_
  refine zi_iload_n (pc := 5) h (i := 1) zd_MO_flow_5 rfl 1 rfl ?_
  refine zi_aload_n (pc := 6) h (i := 0) zd_MO_flow_6 rfl 0 rfl ?_
  refine zi_get (pc := 7) h zx_MO 26 8 zq_k26 rfl zq_j_8_18 zw_592 rfl zd_MO_flow_7 ?_
  refine zi_icmp_lt_t (pc := 10) h (tgt := 17) zd_MO_flow_10 rfl (nI_lt hi (by omega)) ?_
  refine zi_iload_n (pc := 17) h (i := 2) zd_MO_flow_17 rfl 2 rfl ?_
  refine zi_if_lt_f (pc := 18) h (tgt := 27) zd_MO_flow_18 rfl (by decide) ?_
  refine zi_iload_n (pc := 21) h (i := 2) zd_MO_flow_21 rfl 2 rfl ?_
  refine zi_bipush (pc := 22) h zd_MO_flow_22 zq_bi_7 ?_
  refine zi_icmp_le_t (pc := 24) h (tgt := 31) zd_MO_flow_24 rfl (by decide) ?_
  refine zi_iconst (pc := 31) h zd_MO_flow_31 zq_ic_0 ?_
  refine zi_put (pc := 32) h zx_MO 26 17 zq_k26 rfl zq_j_17_18 zw_601 rfl rfl rfl (Nat.le_of_ble_eq_true rfl) zd_MO_flow_32 zn_u_cd ?_
  refine zi_aload_n (pc := 35) h (i := 0) zd_MO_flow_35 rfl 0 rfl ?_
  refine zi_get (pc := 36) h zx_MO 26 17 zq_k26 rfl zq_j_17_18 zw_601 rfl zd_MO_flow_36 ?_
  refine zi_topv (0) rfl ?_
  refine zi_if_le_t (pc := 39) h (tgt := 44) zd_MO_flow_39 rfl (by decide) ?_
  refine zi_iload_n (pc := 44) h (i := 2) zd_MO_flow_44 rfl 2 rfl ?_
  refine zi_tableIn (pc := 45) h (off := 71) (tgt := 116) zd_MO_flow_45 (by decide) (by decide) (by decide) rfl ?_
  refine zi_aload_n (pc := 116) h (i := 0) zd_MO_flow_116 rfl 0 rfl ?_
  refine zi_get (pc := 117) h zx_MO 26 13 zq_k26 rfl zq_j_13_18 zw_597 rfl zd_MO_flow_117 ?_
  refine zi_iload_n (pc := 120) h (i := 1) zd_MO_flow_120 rfl 1 rfl ?_
  refine zi_iald (pc := 121) h 37 zq_k37 rfl (zz_ixN (j := i) (by omega)) zd_MO_flow_121 ?_
  exact zi_ireturn (pc := 122) h hr zd_MO_flow_122 rfl rfl

set_option maxRecDepth 20000 in
theorem zc_MO_flow_5 {l : Launch} {G : zz_G} {F : Nat → va_E} {w : Nat → Int32} {sz : Int32} {la : Nat → Int32} {lz : Int32} {ra : Nat → Nat → Int32} {fa : Nat → Nat → Int32} {cd : Int32} {c i : Nat} (hi : i < c) (hc : c ≤ 12) : zz_M l zy_MO_flow zb_MO_flow 3 (some .int) 0 0 G [.ref (G.2.2 26), .int (nI i), .int 5] (zz_N G F w sz la lz ra (nI c) fa cd) (some (.int (fa 5 i))) (zz_N G F w sz la lz ra (nI c) fa 0) := by
  refine zz_M.of (by decide) (Nat.le_of_ble_eq_true rfl) ?_
  intro X hX h hr
  subst hX
  have h : zz_C X G (zz_A G.2.2) 3 zb_MO_flow "PortTranslatorModel" 0 0 0 0 := h
  refine zi_aload_n (pc := 0) h (i := 0) zd_MO_flow_0 rfl 0 rfl ?_
  refine zi_iload_n (pc := 1) h (i := 1) zd_MO_flow_1 rfl 1 rfl ?_
  refine zi_if_lt_f (pc := 2) h (tgt := 13) zd_MO_flow_2 rfl (nI_pos (by omega)) ?_
  refine zi_iload_n (pc := 5) h (i := 1) zd_MO_flow_5 rfl 1 rfl ?_
  refine zi_aload_n (pc := 6) h (i := 0) zd_MO_flow_6 rfl 0 rfl ?_
  refine zi_get (pc := 7) h zx_MO 26 8 zq_k26 rfl zq_j_8_18 zw_592 rfl zd_MO_flow_7 ?_
  refine zi_icmp_lt_t (pc := 10) h (tgt := 17) zd_MO_flow_10 rfl (nI_lt hi (by omega)) ?_
  refine zi_iload_n (pc := 17) h (i := 2) zd_MO_flow_17 rfl 2 rfl ?_
  refine zi_if_lt_f (pc := 18) h (tgt := 27) zd_MO_flow_18 rfl (by decide) ?_
  refine zi_iload_n (pc := 21) h (i := 2) zd_MO_flow_21 rfl 2 rfl ?_
  refine zi_bipush (pc := 22) h zd_MO_flow_22 zq_bi_7 ?_
  refine zi_icmp_le_t (pc := 24) h (tgt := 31) zd_MO_flow_24 rfl (by decide) ?_
  refine zi_iconst (pc := 31) h zd_MO_flow_31 zq_ic_0 ?_
  refine zi_put (pc := 32) h zx_MO 26 17 zq_k26 rfl zq_j_17_18 zw_601 rfl rfl rfl (Nat.le_of_ble_eq_true rfl) zd_MO_flow_32 zn_u_cd ?_
  refine zi_aload_n (pc := 35) h (i := 0) zd_MO_flow_35 rfl 0 rfl ?_
  refine zi_get (pc := 36) h zx_MO 26 17 zq_k26 rfl zq_j_17_18 zw_601 rfl zd_MO_flow_36 ?_
  refine zi_topv (0) rfl ?_
  refine zi_if_le_t (pc := 39) h (tgt := 44) zd_MO_flow_39 rfl (by decide) ?_
  refine zi_iload_n (pc := 44) h (i := 2) zd_MO_flow_44 rfl 2 rfl ?_
  refine zi_tableIn (pc := 45) h (off := 78) (tgt := 123) zd_MO_flow_45 (by decide) (by decide) (by decide) rfl ?_
  refine zi_aload_n (pc := 123) h (i := 0) zd_MO_flow_123 rfl 0 rfl ?_
  refine zi_get (pc := 124) h zx_MO 26 14 zq_k26 rfl zq_j_14_18 zw_598 rfl zd_MO_flow_124 ?_
  refine zi_iload_n (pc := 127) h (i := 1) zd_MO_flow_127 rfl 1 rfl ?_
  refine zi_iald (pc := 128) h 38 zq_k38 rfl (zz_ixN (j := i) (by omega)) zd_MO_flow_128 ?_
  exact zi_ireturn (pc := 129) h hr zd_MO_flow_129 rfl rfl

set_option maxRecDepth 20000 in
theorem zc_MO_flow_6 {l : Launch} {G : zz_G} {F : Nat → va_E} {w : Nat → Int32} {sz : Int32} {la : Nat → Int32} {lz : Int32} {ra : Nat → Nat → Int32} {fa : Nat → Nat → Int32} {cd : Int32} {c i : Nat} (hi : i < c) (hc : c ≤ 12) : zz_M l zy_MO_flow zb_MO_flow 3 (some .int) 0 0 G [.ref (G.2.2 26), .int (nI i), .int 6] (zz_N G F w sz la lz ra (nI c) fa cd) (some (.int (fa 6 i))) (zz_N G F w sz la lz ra (nI c) fa 0) := by
  refine zz_M.of (by decide) (Nat.le_of_ble_eq_true rfl) ?_
  intro X hX h hr
  subst hX
  have h : zz_C X G (zz_A G.2.2) 3 zb_MO_flow "PortTranslatorModel" 0 0 0 0 := h
  refine zi_aload_n (pc := 0) h (i := 0) zd_MO_flow_0 rfl 0 rfl ?_
  refine zi_iload_n (pc := 1) h (i := 1) zd_MO_flow_1 rfl 1 rfl ?_
  refine zi_if_lt_f (pc := 2) h (tgt := 13) zd_MO_flow_2 rfl (nI_pos (by omega)) ?_
  refine zi_iload_n (pc := 5) h (i := 1) zd_MO_flow_5 rfl 1 rfl ?_
  refine zi_aload_n (pc := 6) h (i := 0) zd_MO_flow_6 rfl 0 rfl ?_
  refine zi_get (pc := 7) h zx_MO 26 8 zq_k26 rfl zq_j_8_18 zw_592 rfl zd_MO_flow_7 ?_
  refine zi_icmp_lt_t (pc := 10) h (tgt := 17) zd_MO_flow_10 rfl (nI_lt hi (by omega)) ?_
  refine zi_iload_n (pc := 17) h (i := 2) zd_MO_flow_17 rfl 2 rfl ?_
  refine zi_if_lt_f (pc := 18) h (tgt := 27) zd_MO_flow_18 rfl (by decide) ?_
  refine zi_iload_n (pc := 21) h (i := 2) zd_MO_flow_21 rfl 2 rfl ?_
  refine zi_bipush (pc := 22) h zd_MO_flow_22 zq_bi_7 ?_
  refine zi_icmp_le_t (pc := 24) h (tgt := 31) zd_MO_flow_24 rfl (by decide) ?_
  refine zi_iconst (pc := 31) h zd_MO_flow_31 zq_ic_0 ?_
  refine zi_put (pc := 32) h zx_MO 26 17 zq_k26 rfl zq_j_17_18 zw_601 rfl rfl rfl (Nat.le_of_ble_eq_true rfl) zd_MO_flow_32 zn_u_cd ?_
  refine zi_aload_n (pc := 35) h (i := 0) zd_MO_flow_35 rfl 0 rfl ?_
  refine zi_get (pc := 36) h zx_MO 26 17 zq_k26 rfl zq_j_17_18 zw_601 rfl zd_MO_flow_36 ?_
  refine zi_topv (0) rfl ?_
  refine zi_if_le_t (pc := 39) h (tgt := 44) zd_MO_flow_39 rfl (by decide) ?_
  refine zi_iload_n (pc := 44) h (i := 2) zd_MO_flow_44 rfl 2 rfl ?_
  refine zi_tableIn (pc := 45) h (off := 85) (tgt := 130) zd_MO_flow_45 (by decide) (by decide) (by decide) rfl ?_
  refine zi_aload_n (pc := 130) h (i := 0) zd_MO_flow_130 rfl 0 rfl ?_
  refine zi_get (pc := 131) h zx_MO 26 15 zq_k26 rfl zq_j_15_18 zw_599 rfl zd_MO_flow_131 ?_
  refine zi_iload_n (pc := 134) h (i := 1) zd_MO_flow_134 rfl 1 rfl ?_
  refine zi_iald (pc := 135) h 39 zq_k39 rfl (zz_ixN (j := i) (by omega)) zd_MO_flow_135 ?_
  exact zi_ireturn (pc := 136) h hr zd_MO_flow_136 rfl rfl

set_option maxRecDepth 20000 in
theorem zc_MO_flow_7 {l : Launch} {G : zz_G} {F : Nat → va_E} {w : Nat → Int32} {sz : Int32} {la : Nat → Int32} {lz : Int32} {ra : Nat → Nat → Int32} {fa : Nat → Nat → Int32} {cd : Int32} {c i : Nat} (hi : i < c) (hc : c ≤ 12) : zz_M l zy_MO_flow zb_MO_flow 3 (some .int) 0 0 G [.ref (G.2.2 26), .int (nI i), .int 7] (zz_N G F w sz la lz ra (nI c) fa cd) (some (.int (fa 7 i))) (zz_N G F w sz la lz ra (nI c) fa 0) := by
  refine zz_M.of (by decide) (Nat.le_of_ble_eq_true rfl) ?_
  intro X hX h hr
  subst hX
  have h : zz_C X G (zz_A G.2.2) 3 zb_MO_flow "PortTranslatorModel" 0 0 0 0 := h
  refine zi_aload_n (pc := 0) h (i := 0) zd_MO_flow_0 rfl 0 rfl ?_
  refine zi_iload_n (pc := 1) h (i := 1) zd_MO_flow_1 rfl 1 rfl ?_
  refine zi_if_lt_f (pc := 2) h (tgt := 13) zd_MO_flow_2 rfl (nI_pos (by omega)) ?_
  refine zi_iload_n (pc := 5) h (i := 1) zd_MO_flow_5 rfl 1 rfl ?_
  refine zi_aload_n (pc := 6) h (i := 0) zd_MO_flow_6 rfl 0 rfl ?_
  refine zi_get (pc := 7) h zx_MO 26 8 zq_k26 rfl zq_j_8_18 zw_592 rfl zd_MO_flow_7 ?_
  refine zi_icmp_lt_t (pc := 10) h (tgt := 17) zd_MO_flow_10 rfl (nI_lt hi (by omega)) ?_
  refine zi_iload_n (pc := 17) h (i := 2) zd_MO_flow_17 rfl 2 rfl ?_
  refine zi_if_lt_f (pc := 18) h (tgt := 27) zd_MO_flow_18 rfl (by decide) ?_
  refine zi_iload_n (pc := 21) h (i := 2) zd_MO_flow_21 rfl 2 rfl ?_
  refine zi_bipush (pc := 22) h zd_MO_flow_22 zq_bi_7 ?_
  refine zi_icmp_le_t (pc := 24) h (tgt := 31) zd_MO_flow_24 rfl (by decide) ?_
  refine zi_iconst (pc := 31) h zd_MO_flow_31 zq_ic_0 ?_
  refine zi_put (pc := 32) h zx_MO 26 17 zq_k26 rfl zq_j_17_18 zw_601 rfl rfl rfl (Nat.le_of_ble_eq_true rfl) zd_MO_flow_32 zn_u_cd ?_
  refine zi_aload_n (pc := 35) h (i := 0) zd_MO_flow_35 rfl 0 rfl ?_
  refine zi_get (pc := 36) h zx_MO 26 17 zq_k26 rfl zq_j_17_18 zw_601 rfl zd_MO_flow_36 ?_
  refine zi_topv (0) rfl ?_
  refine zi_if_le_t (pc := 39) h (tgt := 44) zd_MO_flow_39 rfl (by decide) ?_
  refine zi_iload_n (pc := 44) h (i := 2) zd_MO_flow_44 rfl 2 rfl ?_
  refine zi_tableOut (pc := 45) h (tgt := 137) zd_MO_flow_45 (by decide) rfl ?_
  refine zi_aload_n (pc := 137) h (i := 0) zd_MO_flow_137 rfl 0 rfl ?_
  refine zi_get (pc := 138) h zx_MO 26 16 zq_k26 rfl zq_j_16_18 zw_600 rfl zd_MO_flow_138 ?_
  refine zi_iload_n (pc := 141) h (i := 1) zd_MO_flow_141 rfl 1 rfl ?_
  refine zi_iald (pc := 142) h 40 zq_k40 rfl (zz_ixN (j := i) (by omega)) zd_MO_flow_142 ?_
  exact zi_ireturn (pc := 143) h hr zd_MO_flow_143 rfl rfl

set_option maxRecDepth 20000 in
theorem zl_MO_bindings1 {X : zz_X} {r : Option Value} {F' : Nat → va_E} {G : zz_G} {F : Nat → va_E} {w : Nat → Int32} {sz : Int32} {la : Nat → Int32} {lz : Int32} {ra : Nat → Nat → Int32} {fa : Nat → Nat → Int32} {c : Nat} {k : Int32} {f : Nat} {e : Int32} (hc : c ≤ 12) (hf : f < c) (h : zz_C X G (zz_A G.2.2) 6 zb_MO_bindings "PortTranslatorModel" 0 0 0 0) : ∀ (n g : Nat) (t : Int32), g + n = f → (zz_W X G (zz_A G.2.2) 6 0 0 (zz_E X G r F') (zz_N G F w sz la lz ra (nI c) fa 0) 88 [(5, .int (nI f)), (4, .int (zv_is fa k f g n t)), (3, .int (nI f)), (2, .int e), (0, .ref (G.2.2 26)), (1, .int k)] []) → zz_W X G (zz_A G.2.2) 6 0 0 (zz_E X G r F') (zz_N G F w sz la lz ra (nI c) fa 0) 37 [(5, .int (nI g)), (4, .int t), (3, .int (nI f)), (2, .int e), (0, .ref (G.2.2 26)), (1, .int k)] [] := by
  intro n
  induction n with
  | zero =>
    intro g t hg kk
    obtain rfl : g = f := hg
    refine zi_iload (pc := 37) h (i := 5) zd_MO_bindings_37 0 rfl ?_
    refine zi_iload_n (pc := 39) h (i := 3) zd_MO_bindings_39 rfl 2 rfl ?_
    refine zi_icmp_ge_t (pc := 40) h (tgt := 88) zd_MO_bindings_40 rfl (nI_le (by omega) (by omega)) ?_
    exact kk
  | succ n ih =>
    intro g t hg kk
    refine zi_iload (pc := 37) h (i := 5) zd_MO_bindings_37 0 rfl ?_
    refine zi_iload_n (pc := 39) h (i := 3) zd_MO_bindings_39 rfl 2 rfl ?_
    refine zi_icmp_ge_f (pc := 40) h (tgt := 88) zd_MO_bindings_40 rfl (nI_ge (by omega) (by omega)) ?_
    refine zi_iload (pc := 43) h (i := 4) zd_MO_bindings_43 1 rfl ?_
    refine zi_if_eq (pc := 45) h (tgt := 79) zd_MO_bindings_45 rfl ?_ ?_
    · intro b45
      refine zi_iconst (pc := 79) h zd_MO_bindings_79 zq_ic_0 ?_
      refine zi_topv (zv_i1 fa k f g t) (by unfold zv_i1; (try rw [if_pos b45]); (try rfl)) ?_
      refine zi_istore (pc := 80) h (i := 4) (L' := [(4, _), (5, _), (3, _), (2, _), (0, _), (1, _)]) zd_MO_bindings_80 (by decide) rfl ?_
      refine zi_iinc (pc := 82) h (i := 5) (L' := [(5, _), (4, _), (3, _), (2, _), (0, _), (1, _)]) zd_MO_bindings_82 1 rfl (zq_incN g) (by decide) rfl ?_
      refine zi_goto (pc := 85) h (tgt := 37) zd_MO_bindings_85 rfl ?_
      exact ih (g + 1) _ (by omega) kk
    · intro b45
      refine zi_aload_n (pc := 48) h (i := 0) zd_MO_bindings_48 rfl 4 rfl ?_
      refine zi_get (pc := 49) h zx_MO 26 9 zq_k26 rfl zq_j_9_18 zw_593 rfl zd_MO_bindings_49 ?_
      refine zi_iload (pc := 52) h (i := 5) zd_MO_bindings_52 0 rfl ?_
      refine zi_iald (pc := 54) h 33 zq_k33 rfl (zz_ixN (j := g) (by omega)) zd_MO_bindings_54 ?_
      refine zi_iload_n (pc := 55) h (i := 1) zd_MO_bindings_55 rfl 5 rfl ?_
      refine zi_icmp_ne (pc := 56) h (tgt := 75) zd_MO_bindings_56 rfl ?_ ?_
      · intro b56
        refine zi_iconst (pc := 75) h zd_MO_bindings_75 zq_ic_1 ?_
        refine zi_goto (pc := 76) h (tgt := 80) zd_MO_bindings_76 rfl ?_
        refine zi_topv (zv_i1 fa k f g t) (by unfold zv_i1; (try rw [if_neg b45]); (try rw [if_neg b56]); (try rfl)) ?_
        refine zi_istore (pc := 80) h (i := 4) (L' := [(4, _), (5, _), (3, _), (2, _), (0, _), (1, _)]) zd_MO_bindings_80 (by decide) rfl ?_
        refine zi_iinc (pc := 82) h (i := 5) (L' := [(5, _), (4, _), (3, _), (2, _), (0, _), (1, _)]) zd_MO_bindings_82 1 rfl (zq_incN g) (by decide) rfl ?_
        refine zi_goto (pc := 85) h (tgt := 37) zd_MO_bindings_85 rfl ?_
        exact ih (g + 1) _ (by omega) kk
      · intro b56
        refine zi_aload_n (pc := 59) h (i := 0) zd_MO_bindings_59 rfl 4 rfl ?_
        refine zi_get (pc := 60) h zx_MO 26 14 zq_k26 rfl zq_j_14_18 zw_598 rfl zd_MO_bindings_60 ?_
        refine zi_iload (pc := 63) h (i := 5) zd_MO_bindings_63 0 rfl ?_
        refine zi_iald (pc := 65) h 38 zq_k38 rfl (zz_ixN (j := g) (by omega)) zd_MO_bindings_65 ?_
        refine zi_aload_n (pc := 66) h (i := 0) zd_MO_bindings_66 rfl 4 rfl ?_
        refine zi_get (pc := 67) h zx_MO 26 14 zq_k26 rfl zq_j_14_18 zw_598 rfl zd_MO_bindings_67 ?_
        refine zi_iload_n (pc := 70) h (i := 3) zd_MO_bindings_70 rfl 2 rfl ?_
        refine zi_iald (pc := 71) h 38 zq_k38 rfl (zz_ixN (j := f) (by omega)) zd_MO_bindings_71 ?_
        refine zi_icmp_eq (pc := 72) h (tgt := 79) zd_MO_bindings_72 rfl ?_ ?_
        · intro b72
          refine zi_iconst (pc := 79) h zd_MO_bindings_79 zq_ic_0 ?_
          refine zi_topv (zv_i1 fa k f g t) (by unfold zv_i1; (try rw [if_neg b45]); (try rw [if_pos b56]); (try rw [if_pos b72]); (try rfl)) ?_
          refine zi_istore (pc := 80) h (i := 4) (L' := [(4, _), (5, _), (3, _), (2, _), (0, _), (1, _)]) zd_MO_bindings_80 (by decide) rfl ?_
          refine zi_iinc (pc := 82) h (i := 5) (L' := [(5, _), (4, _), (3, _), (2, _), (0, _), (1, _)]) zd_MO_bindings_82 1 rfl (zq_incN g) (by decide) rfl ?_
          refine zi_goto (pc := 85) h (tgt := 37) zd_MO_bindings_85 rfl ?_
          exact ih (g + 1) _ (by omega) kk
        · intro b72
          refine zi_iconst (pc := 75) h zd_MO_bindings_75 zq_ic_1 ?_
          refine zi_goto (pc := 76) h (tgt := 80) zd_MO_bindings_76 rfl ?_
          refine zi_topv (zv_i1 fa k f g t) (by unfold zv_i1; (try rw [if_neg b45]); (try rw [if_pos b56]); (try rw [if_neg b72]); (try rfl)) ?_
          refine zi_istore (pc := 80) h (i := 4) (L' := [(4, _), (5, _), (3, _), (2, _), (0, _), (1, _)]) zd_MO_bindings_80 (by decide) rfl ?_
          refine zi_iinc (pc := 82) h (i := 5) (L' := [(5, _), (4, _), (3, _), (2, _), (0, _), (1, _)]) zd_MO_bindings_82 1 rfl (zq_incN g) (by decide) rfl ?_
          refine zi_goto (pc := 85) h (tgt := 37) zd_MO_bindings_85 rfl ?_
          exact ih (g + 1) _ (by omega) kk

set_option maxRecDepth 20000 in
theorem zl_MO_bindings2 {X : zz_X} {r : Option Value} {F' : Nat → va_E} {G : zz_G} {F : Nat → va_E} {w : Nat → Int32} {sz : Int32} {la : Nat → Int32} {lz : Int32} {ra : Nat → Nat → Int32} {fa : Nat → Nat → Int32} {c : Nat} {k : Int32} (hc : c ≤ 12) (h : zz_C X G (zz_A G.2.2) 6 zb_MO_bindings "PortTranslatorModel" 0 0 0 0) (hr : X.2.2.2.2.2.2.2.2.1.sig.returnType = (some .int)) : ∀ (n f : Nat) (e : Int32), f + n = c → r = some (.int (zv_bnd fa k f n e)) → (zz_N G F w sz la lz ra (nI c) fa 0) = F' → zz_W X G (zz_A G.2.2) 6 0 0 (zz_E X G r F') (zz_N G F w sz la lz ra (nI c) fa 0) 9 [(3, .int (nI f)), (2, .int e), (0, .ref (G.2.2 26)), (1, .int k)] [] := by
  intro n
  induction n with
  | zero =>
    intro f e hf he hF
    refine zi_iload_n (pc := 9) h (i := 3) zd_MO_bindings_9 rfl 0 rfl ?_
    refine zi_aload_n (pc := 10) h (i := 0) zd_MO_bindings_10 rfl 2 rfl ?_
    refine zi_get (pc := 11) h zx_MO 26 8 zq_k26 rfl zq_j_8_18 zw_592 rfl zd_MO_bindings_11 ?_
    refine zi_icmp_ge_t (pc := 14) h (tgt := 107) zd_MO_bindings_14 rfl (nI_le (by omega) (by omega)) ?_
    refine zi_iload_n (pc := 107) h (i := 2) zd_MO_bindings_107 rfl 1 rfl ?_
    exact zi_ireturn (pc := 108) h hr zd_MO_bindings_108 he.symm hF
  | succ n ih =>
    intro f e hf he hF
    refine zi_iload_n (pc := 9) h (i := 3) zd_MO_bindings_9 rfl 0 rfl ?_
    refine zi_aload_n (pc := 10) h (i := 0) zd_MO_bindings_10 rfl 2 rfl ?_
    refine zi_get (pc := 11) h zx_MO 26 8 zq_k26 rfl zq_j_8_18 zw_592 rfl zd_MO_bindings_11 ?_
    refine zi_icmp_ge_f (pc := 14) h (tgt := 107) zd_MO_bindings_14 rfl (nI_ge (by omega) (by omega)) ?_
    refine zi_aload_n (pc := 17) h (i := 0) zd_MO_bindings_17 rfl 2 rfl ?_
    refine zi_get (pc := 18) h zx_MO 26 9 zq_k26 rfl zq_j_9_18 zw_593 rfl zd_MO_bindings_18 ?_
    refine zi_iload_n (pc := 21) h (i := 3) zd_MO_bindings_21 rfl 0 rfl ?_
    refine zi_iald (pc := 22) h 33 zq_k33 rfl (zz_ixN (j := f) (by omega)) zd_MO_bindings_22 ?_
    refine zi_iload_n (pc := 23) h (i := 1) zd_MO_bindings_23 rfl 3 rfl ?_
    refine zi_icmp_ne (pc := 24) h (tgt := 31) zd_MO_bindings_24 rfl ?_ ?_
    · intro b24
      refine zi_iconst (pc := 31) h zd_MO_bindings_31 zq_ic_0 ?_
      refine zi_topv (if fa 0 f = k then 1 else 0) (by rw [if_neg b24]) ?_
      refine zi_istore (pc := 32) h (i := 4) (L' := [(4, _), (3, _), (2, _), (0, _), (1, _)]) zd_MO_bindings_32 (by decide) rfl ?_
      refine zi_iconst (pc := 34) h zd_MO_bindings_34 zq_ic_0 ?_
      refine zi_istore (pc := 35) h (i := 5) (L' := [(5, _), (4, _), (3, _), (2, _), (0, _), (1, _)]) zd_MO_bindings_35 (by decide) rfl ?_
      refine zl_MO_bindings1 hc (by omega) h f 0 _ (by omega) ?_
      refine zi_iload (pc := 88) h (i := 4) zd_MO_bindings_88 1 rfl ?_
      refine zi_if_eq (pc := 90) h (tgt := 99) zd_MO_bindings_90 rfl ?_ ?_
      · intro b90
        refine zi_iload_n (pc := 99) h (i := 2) zd_MO_bindings_99 rfl 3 rfl ?_
        refine zi_istore_n (pc := 100) h (i := 2) (L' := [(2, _), (5, _), (4, _), (3, _), (0, _), (1, _)]) zd_MO_bindings_100 rfl (by decide) rfl ?_
        refine zi_iinc (pc := 101) h (i := 3) (L' := [(3, _), (2, _), (5, _), (4, _), (0, _), (1, _)]) zd_MO_bindings_101 3 rfl (zq_incN f) (by decide) rfl ?_
        refine zi_goto (pc := 104) h (tgt := 9) zd_MO_bindings_104 rfl ?_
        refine zi_sub (L' := [(3, _), (2, _), (0, _), (1, _)]) [0, 1, 4, 5] rfl ?_
        exact ih (f + 1) _ (by omega) (by rw [he, zv_bnd, if_pos b90]) hF
      · intro b90
        refine zi_iload_n (pc := 93) h (i := 2) zd_MO_bindings_93 rfl 3 rfl ?_
        refine zi_iconst (pc := 94) h zd_MO_bindings_94 zq_ic_1 ?_
        refine zi_iadd (pc := 95) h zd_MO_bindings_95 ?_
        refine zi_goto (pc := 96) h (tgt := 100) zd_MO_bindings_96 rfl ?_
        refine zi_istore_n (pc := 100) h (i := 2) (L' := [(2, _), (5, _), (4, _), (3, _), (0, _), (1, _)]) zd_MO_bindings_100 rfl (by decide) rfl ?_
        refine zi_iinc (pc := 101) h (i := 3) (L' := [(3, _), (2, _), (5, _), (4, _), (0, _), (1, _)]) zd_MO_bindings_101 3 rfl (zq_incN f) (by decide) rfl ?_
        refine zi_goto (pc := 104) h (tgt := 9) zd_MO_bindings_104 rfl ?_
        refine zi_sub (L' := [(3, _), (2, _), (0, _), (1, _)]) [0, 1, 4, 5] rfl ?_
        exact ih (f + 1) _ (by omega) (by rw [he, zv_bnd, if_neg b90]) hF
    · intro b24
      refine zi_iconst (pc := 27) h zd_MO_bindings_27 zq_ic_1 ?_
      refine zi_goto (pc := 28) h (tgt := 32) zd_MO_bindings_28 rfl ?_
      refine zi_topv (if fa 0 f = k then 1 else 0) (by rw [if_pos b24]) ?_
      refine zi_istore (pc := 32) h (i := 4) (L' := [(4, _), (3, _), (2, _), (0, _), (1, _)]) zd_MO_bindings_32 (by decide) rfl ?_
      refine zi_iconst (pc := 34) h zd_MO_bindings_34 zq_ic_0 ?_
      refine zi_istore (pc := 35) h (i := 5) (L' := [(5, _), (4, _), (3, _), (2, _), (0, _), (1, _)]) zd_MO_bindings_35 (by decide) rfl ?_
      refine zl_MO_bindings1 hc (by omega) h f 0 _ (by omega) ?_
      refine zi_iload (pc := 88) h (i := 4) zd_MO_bindings_88 1 rfl ?_
      refine zi_if_eq (pc := 90) h (tgt := 99) zd_MO_bindings_90 rfl ?_ ?_
      · intro b90
        refine zi_iload_n (pc := 99) h (i := 2) zd_MO_bindings_99 rfl 3 rfl ?_
        refine zi_istore_n (pc := 100) h (i := 2) (L' := [(2, _), (5, _), (4, _), (3, _), (0, _), (1, _)]) zd_MO_bindings_100 rfl (by decide) rfl ?_
        refine zi_iinc (pc := 101) h (i := 3) (L' := [(3, _), (2, _), (5, _), (4, _), (0, _), (1, _)]) zd_MO_bindings_101 3 rfl (zq_incN f) (by decide) rfl ?_
        refine zi_goto (pc := 104) h (tgt := 9) zd_MO_bindings_104 rfl ?_
        refine zi_sub (L' := [(3, _), (2, _), (0, _), (1, _)]) [0, 1, 4, 5] rfl ?_
        exact ih (f + 1) _ (by omega) (by rw [he, zv_bnd, if_pos b90]) hF
      · intro b90
        refine zi_iload_n (pc := 93) h (i := 2) zd_MO_bindings_93 rfl 3 rfl ?_
        refine zi_iconst (pc := 94) h zd_MO_bindings_94 zq_ic_1 ?_
        refine zi_iadd (pc := 95) h zd_MO_bindings_95 ?_
        refine zi_goto (pc := 96) h (tgt := 100) zd_MO_bindings_96 rfl ?_
        refine zi_istore_n (pc := 100) h (i := 2) (L' := [(2, _), (5, _), (4, _), (3, _), (0, _), (1, _)]) zd_MO_bindings_100 rfl (by decide) rfl ?_
        refine zi_iinc (pc := 101) h (i := 3) (L' := [(3, _), (2, _), (5, _), (4, _), (0, _), (1, _)]) zd_MO_bindings_101 3 rfl (zq_incN f) (by decide) rfl ?_
        refine zi_goto (pc := 104) h (tgt := 9) zd_MO_bindings_104 rfl ?_
        refine zi_sub (L' := [(3, _), (2, _), (0, _), (1, _)]) [0, 1, 4, 5] rfl ?_
        exact ih (f + 1) _ (by omega) (by rw [he, zv_bnd, if_neg b90]) hF

set_option maxRecDepth 20000 in
theorem zc_MO_bindings {l : Launch} {G : zz_G} {F : Nat → va_E} {w : Nat → Int32} {sz : Int32} {la : Nat → Int32} {lz : Int32} {ra : Nat → Nat → Int32} {fa : Nat → Nat → Int32} {cd : Int32} {c : Nat} {k : Int32} (hc : c ≤ 12) : zz_M l zy_MO_bindings zb_MO_bindings 6 (some .int) 0 0 G [.ref (G.2.2 26), .int k] (zz_N G F w sz la lz ra (nI c) fa cd) (some (.int (zv_bnd fa k 0 c 0))) (zz_N G F w sz la lz ra (nI c) fa 0) := by
  refine zz_M.of (by decide) (Nat.le_of_ble_eq_true rfl) ?_
  intro X hX h hr
  subst hX
  have h : zz_C X G (zz_A G.2.2) 6 zb_MO_bindings "PortTranslatorModel" 0 0 0 0 := h
  refine zi_aload_n (pc := 0) h (i := 0) zd_MO_bindings_0 rfl 0 rfl ?_
  refine zi_iconst (pc := 1) h zd_MO_bindings_1 zq_ic_0 ?_
  refine zi_put (pc := 2) h zx_MO 26 17 zq_k26 rfl zq_j_17_18 zw_601 rfl rfl rfl (Nat.le_of_ble_eq_true rfl) zd_MO_bindings_2 zn_u_cd ?_
  refine zi_iconst (pc := 5) h zd_MO_bindings_5 zq_ic_0 ?_
  refine zi_istore_n (pc := 6) h (i := 2) (L' := [(2, _), (0, _), (1, _)]) zd_MO_bindings_6 rfl (by decide) rfl ?_
  refine zi_iconst (pc := 7) h zd_MO_bindings_7 zq_ic_0 ?_
  refine zi_istore_n (pc := 8) h (i := 3) (L' := [(3, _), (2, _), (0, _), (1, _)]) zd_MO_bindings_8 rfl (by decide) rfl ?_
  exact zl_MO_bindings2 hc h hr c 0 0 (by omega) rfl rfl
