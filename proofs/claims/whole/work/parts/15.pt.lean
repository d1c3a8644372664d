theorem zq_room {n a : Nat} (h : n + a ≤ 48) : ¬ (48 : Int32) - nI n < nI a := by
  have e : (48 : Int32) - nI n = nI (48 - n) := pk_sub (a := 48) (by omega)
  rw [e]
  exact nI_nlt (by omega) (by omega)
theorem zq_noroom {n a : Nat} (hn : n ≤ 48) (ha : a ≤ 4) (h : 48 < n + a) : (48 : Int32) - nI n < nI a := by
  have e : (48 : Int32) - nI n = nI (48 - n) := pk_sub (a := 48) (by omega)
  rw [e]
  exact nI_lt (by omega) (by omega)
def zs_wd (x : Int64) (y : Int32) : Int32 := (x.toUInt64 >>> ((16 * y).toInt64.toUInt64 &&& Int64.toUInt64 63)).toInt64.toInt32 &&& 65535
def zs_pw (x : Int64) : Nat → (Nat → Int32) → Nat → (Nat → Int32)
  | 0, v, _ => v
  | l + 1, v, n => zs_pw x l (upd v n (zs_wd x (nI l))) (n + 1)
def zs_jdg (v : Nat → Int32) (n : Nat) : Int32 := if zs_wf v n = 0 then 1 else if 2 ≤ v 4 >>> ((8 : Int32) &&& 31) then 0 else 3
def zs_trl (v su : Nat → Int32) (e1 e2 a b d : Nat) (x p : Int32) : Nat → Int32 := zs_wrt (zs_set (upd v 4 (v 4 - 256)) e1 e2 x) su a b d x p
theorem zs_per01 {ru : Nat → Nat → Int32} {k a : Int32} (hb : ∀ i, ru i 4 = 0 ∨ ru i 4 = 1) : ∀ n i, zs_per ru k a i n = 0 ∨ zs_per ru k a i n = 1 := by
  intro n
  induction n with
  | zero => intro i; exact Or.inr rfl
  | succ n ih =>
    intro i
    rw [zs_per]
    split
    · exact ih _
    · exact hb i
def zs_may (v su : Nat → Int32) (ru : Nat → Nat → Int32) : Int32 := if zs_rep v = 0 then (if su 0 = 6 then (if v 16 &&& 22 = 2 then zs_per ru (su 0) (su 3) 0 4 else 0) else zs_per ru (su 0) (su 3) 0 4) else 0
/-- the flows behind note: rows, fields, count -/
def zs_nto (v su : Nat → Int32) (pm : Nat → Nat) (fl : Nat → Nat → Int32) (c i : Nat) : (Nat → Nat) × (Nat → Nat → Int32) × Nat := if zs_err v = 0 then (if su 0 = 6 then (if v 16 &&& 4 = 0 then (pm, va_up fl (pm i) (zs_nfo (va_up (fl (pm i)) 6 0) (v 16)), c) else (zs_end pm i c, va_up fl (pm i) (zs_nfo (va_up (fl (pm i)) 6 0) (v 16)), c - 1)) else (pm, va_up fl (pm i) (va_up (fl (pm i)) 6 0), c)) else (pm, fl, c)
def zs_nti (v su : Nat → Int32) (pm : Nat → Nat) (fl : Nat → Nat → Int32) (c i : Nat) : (Nat → Nat) × (Nat → Nat → Int32) × Nat := if zs_err v = 0 then (if su 0 = 6 then (if v 16 &&& 4 = 0 then (pm, va_up fl (pm i) (zs_nfi (va_up (fl (pm i)) 6 0) (v 16)), c) else (zs_end pm i c, va_up fl (pm i) (zs_nfi (va_up (fl (pm i)) 6 0) (v 16)), c - 1)) else (pm, va_up fl (pm i) (va_up (fl (pm i)) 6 0), c)) else (pm, fl, c)

set_option maxRecDepth 20000 in
theorem zc_PT_scrap {l : Launch} {G : zz_G} {F : Nat → va_E} {v : Nat → Int32} {sz : Int32} {lv : Nat → Int32} {lz : Int32} {su : Nat → Int32} {pm : Nat → Nat} {cn : Int32} {fl : Nat → Nat → Int32} {ru : Nat → Nat → Int32} : zz_M l zy_PT_scrap zb_PT_scrap 1 none 1 20 G [.ref (G.2.2 0)] (zz_K G F v sz lv lz su pm cn fl ru) none (zz_K G F v 0 lv lz su pm cn fl ru) := by
  refine zz_M.of (by decide) (Nat.le_of_ble_eq_true rfl) ?_
  intro X hX h hr
  subst hX
  have h : zz_C X G (zz_A G.2.2) 1 zb_PT_scrap "PortTranslator" 1 20 0 0 := h
  refine zi_aload_n (pc := 0) h (i := 0) zd_PT_scrap_0 rfl 0 rfl ?_
  refine zi_get (pc := 1) h zx_PT 0 0 zq_k0 rfl zq_j_0_5 zw_174 rfl zd_PT_scrap_1 ?_
  refine zi_callVv (pc := 4) h (st := []) (zc_PK_empty) zm_PK_empty zw_207 zx_PK zq_k1 rfl ⟨by decide, by decide⟩ zd_PT_scrap_4 (Nat.le_of_ble_eq_true rfl) rfl ?_
  exact zi_vreturn (pc := 7) h hr zd_PT_scrap_7 rfl rfl

set_option maxRecDepth 20000 in
theorem zc_PT_length {l : Launch} {G : zz_G} {F : Nat → va_E} {v : Nat → Int32} {sz : Int32} {lv : Nat → Int32} {lz : Int32} {su : Nat → Int32} {pm : Nat → Nat} {cn : Int32} {fl : Nat → Nat → Int32} {ru : Nat → Nat → Int32} : zz_M l zy_PT_length zb_PT_length 1 (some .int) 0 0 G [.ref (G.2.2 0)] (zz_K G F v sz lv lz su pm cn fl ru) (some (.int lz)) (zz_K G F v sz lv lz su pm cn fl ru) := by
  refine zz_M.of (by decide) (Nat.le_of_ble_eq_true rfl) ?_
  intro X hX h hr
  subst hX
  have h : zz_C X G (zz_A G.2.2) 1 zb_PT_length "PortTranslator" 0 0 0 0 := h
  refine zi_aload_n (pc := 0) h (i := 0) zd_PT_length_0 rfl 0 rfl ?_
  refine zi_get (pc := 1) h zx_PT 0 1 zq_k0 rfl zq_j_1_5 zw_175 rfl zd_PT_length_1 ?_
  refine zi_get (pc := 4) h zx_PK 3 1 zq_k3 rfl zq_j_1_2 zw_33 rfl zd_PT_length_4 ?_
  exact zi_ireturn (pc := 7) h hr zd_PT_length_7 rfl rfl

set_option maxRecDepth 20000 in
theorem zc_PT_flows {l : Launch} {G : zz_G} {F : Nat → va_E} {v : Nat → Int32} {sz : Int32} {lv : Nat → Int32} {lz : Int32} {su : Nat → Int32} {pm : Nat → Nat} {cn : Int32} {fl : Nat → Nat → Int32} {ru : Nat → Nat → Int32} : zz_M l zy_PT_flows zb_PT_flows 1 (some .int) 0 0 G [.ref (G.2.2 0)] (zz_K G F v sz lv lz su pm cn fl ru) (some (.int cn)) (zz_K G F v sz lv lz su pm cn fl ru) := by
  refine zz_M.of (by decide) (Nat.le_of_ble_eq_true rfl) ?_
  intro X hX h hr
  subst hX
  have h : zz_C X G (zz_A G.2.2) 1 zb_PT_flows "PortTranslator" 0 0 0 0 := h
  refine zi_aload_n (pc := 0) h (i := 0) zd_PT_flows_0 rfl 0 rfl ?_
  refine zi_get (pc := 1) h zx_PT 0 3 zq_k0 rfl zq_j_3_5 zw_177 rfl zd_PT_flows_1 ?_
  refine zi_get (pc := 4) h zx_FT 6 1 zq_k6 rfl zq_j_1_2 zw_131 rfl zd_PT_flows_4 ?_
  exact zi_ireturn (pc := 7) h hr zd_PT_flows_7 rfl rfl

set_option maxRecDepth 20000 in
theorem zc_PT_bindings {l : Launch} {G : zz_G} {F : Nat → va_E} {v : Nat → Int32} {sz : Int32} {lv : Nat → Int32} {lz : Int32} {su : Nat → Int32} {pm : Nat → Nat} {fl : Nat → Nat → Int32} {ru : Nat → Nat → Int32} {c : Nat} {k : Int32} (hpm : ∀ i, pm i < 12) (hc : c ≤ 12) : zz_M l zy_PT_bindings zb_PT_bindings 2 (some .int) 3 68 G [.ref (G.2.2 0), .int k] (zz_K G F v sz lv lz su pm (nI c) fl ru) (some (.int (zs_cop pm fl c k 0 6 0))) (zz_K G F v sz lv lz su pm (nI c) fl ru) := by
  refine zz_M.of (by decide) (Nat.le_of_ble_eq_true rfl) ?_
  intro X hX h hr
  subst hX
  have h : zz_C X G (zz_A G.2.2) 2 zb_PT_bindings "PortTranslator" 3 68 0 0 := h
  refine zi_aload_n (pc := 0) h (i := 0) zd_PT_bindings_0 rfl 0 rfl ?_
  refine zi_get (pc := 1) h zx_PT 0 3 zq_k0 rfl zq_j_3_5 zw_177 rfl zd_PT_bindings_1 ?_
  refine zi_iload_n (pc := 4) h (i := 1) zd_PT_bindings_4 rfl 1 rfl ?_
  refine zi_callV (pc := 5) h (st := []) (zc_FT_countOwnPorts hpm hc) zm_FT_countOwnPorts zw_432 zx_FT zq_k6 rfl ⟨by decide, by decide⟩ zd_PT_bindings_5 (Nat.le_of_ble_eq_true rfl) rfl ?_
  exact zi_ireturn (pc := 8) h hr zd_PT_bindings_8 rfl rfl

set_option maxRecDepth 20000 in
theorem zc_PT_put_lo {l : Launch} {G : zz_G} {F : Nat → va_E} {v : Nat → Int32} {sz : Int32} {lv : Nat → Int32} {lz : Int32} {su : Nat → Int32} {pm : Nat → Nat} {cn : Int32} {fl : Nat → Nat → Int32} {ru : Nat → Nat → Int32} {k : Int32} {x : Int64} (hk : k < 1) : zz_M l zy_PT_put zb_PT_put 5 (some .boolean) 1 21 G [.ref (G.2.2 0), .int k, .long x] (zz_K G F v sz lv lz su pm cn fl ru) (some (.int 0)) (zz_K G F v sz lv lz su pm cn fl ru) := by
  refine zz_M.of (by decide) (Nat.le_of_ble_eq_true rfl) ?_
  intro X hX h hr
  subst hX
  have h : zz_C X G (zz_A G.2.2) 5 zb_PT_put "PortTranslator" 1 21 0 0 := h
  refine zi_iload_n (pc := 0) h (i := 1) zd_PT_put_0 rfl 1 rfl ?_
  refine zi_iconst (pc := 1) h zd_PT_put_1 zq_ic_1 ?_
  refine zi_icmp_lt_t (pc := 2) h (tgt := 21) zd_PT_put_2 rfl hk ?_
  refine zi_iconst (pc := 21) h zd_PT_put_21 zq_ic_0 ?_
  exact zi_zreturn (pc := 22) h hr rfl zd_PT_put_22 rfl rfl

set_option maxRecDepth 20000 in
theorem zc_PT_put_hi {l : Launch} {G : zz_G} {F : Nat → va_E} {v : Nat → Int32} {sz : Int32} {lv : Nat → Int32} {lz : Int32} {su : Nat → Int32} {pm : Nat → Nat} {cn : Int32} {fl : Nat → Nat → Int32} {ru : Nat → Nat → Int32} {k : Int32} {x : Int64} (hk : 4 < k) : zz_M l zy_PT_put zb_PT_put 5 (some .boolean) 1 21 G [.ref (G.2.2 0), .int k, .long x] (zz_K G F v sz lv lz su pm cn fl ru) (some (.int 0)) (zz_K G F v sz lv lz su pm cn fl ru) := by
  refine zz_M.of (by decide) (Nat.le_of_ble_eq_true rfl) ?_
  intro X hX h hr
  subst hX
  have h : zz_C X G (zz_A G.2.2) 5 zb_PT_put "PortTranslator" 1 21 0 0 := h
  refine zi_iload_n (pc := 0) h (i := 1) zd_PT_put_0 rfl 1 rfl ?_
  refine zi_iconst (pc := 1) h zd_PT_put_1 zq_ic_1 ?_
  refine zi_icmp_lt (pc := 2) h (tgt := 21) zd_PT_put_2 rfl ?_ ?_
  · intro b2
    refine zi_iconst (pc := 21) h zd_PT_put_21 zq_ic_0 ?_
    exact zi_zreturn (pc := 22) h hr rfl zd_PT_put_22 rfl rfl
  · intro b2
    refine zi_iload_n (pc := 5) h (i := 1) zd_PT_put_5 rfl 1 rfl ?_
    refine zi_iconst (pc := 6) h zd_PT_put_6 zq_ic_4 ?_
    refine zi_icmp_gt_t (pc := 7) h (tgt := 21) zd_PT_put_7 rfl hk ?_
    refine zi_iconst (pc := 21) h zd_PT_put_21 zq_ic_0 ?_
    exact zi_zreturn (pc := 22) h hr rfl zd_PT_put_22 rfl rfl

set_option maxRecDepth 20000 in
theorem zc_PT_put_full {l : Launch} {G : zz_G} {F : Nat → va_E} {v : Nat → Int32} {sz : Int32} {lv : Nat → Int32} {lz : Int32} {su : Nat → Int32} {pm : Nat → Nat} {cn : Int32} {fl : Nat → Nat → Int32} {ru : Nat → Nat → Int32} {k : Int32} {x : Int64} (hk : 48 - sz < k) : zz_M l zy_PT_put zb_PT_put 5 (some .boolean) 1 21 G [.ref (G.2.2 0), .int k, .long x] (zz_K G F v sz lv lz su pm cn fl ru) (some (.int 0)) (zz_K G F v sz lv lz su pm cn fl ru) := by
  refine zz_M.of (by decide) (Nat.le_of_ble_eq_true rfl) ?_
  intro X hX h hr
  subst hX
  have h : zz_C X G (zz_A G.2.2) 5 zb_PT_put "PortTranslator" 1 21 0 0 := h
  refine zi_iload_n (pc := 0) h (i := 1) zd_PT_put_0 rfl 1 rfl ?_
  refine zi_iconst (pc := 1) h zd_PT_put_1 zq_ic_1 ?_
  refine zi_icmp_lt (pc := 2) h (tgt := 21) zd_PT_put_2 rfl ?_ ?_
  · intro b2
    refine zi_iconst (pc := 21) h zd_PT_put_21 zq_ic_0 ?_
    exact zi_zreturn (pc := 22) h hr rfl zd_PT_put_22 rfl rfl
  · intro b2
    refine zi_iload_n (pc := 5) h (i := 1) zd_PT_put_5 rfl 1 rfl ?_
    refine zi_iconst (pc := 6) h zd_PT_put_6 zq_ic_4 ?_
    refine zi_icmp_gt (pc := 7) h (tgt := 21) zd_PT_put_7 rfl ?_ ?_
    · intro b7
      refine zi_iconst (pc := 21) h zd_PT_put_21 zq_ic_0 ?_
      exact zi_zreturn (pc := 22) h hr rfl zd_PT_put_22 rfl rfl
    · intro b7
      refine zi_aload_n (pc := 10) h (i := 0) zd_PT_put_10 rfl 0 rfl ?_
      refine zi_get (pc := 11) h zx_PT 0 0 zq_k0 rfl zq_j_0_5 zw_174 rfl zd_PT_put_11 ?_
      refine zi_iload_n (pc := 14) h (i := 1) zd_PT_put_14 rfl 1 rfl ?_
      refine zi_callV (pc := 15) h (st := []) (zc_PK_hasRoomFor) zm_PK_hasRoomFor zw_194 zx_PK zq_k1 rfl ⟨by decide, by decide⟩ zd_PT_put_15 (Nat.le_of_ble_eq_true rfl) rfl ?_
      refine zi_topv (0) (if_pos hk) ?_
      refine zi_if_ne_f (pc := 18) h (tgt := 23) zd_PT_put_18 rfl (by decide) ?_
      refine zi_iconst (pc := 21) h zd_PT_put_21 zq_ic_0 ?_
      exact zi_zreturn (pc := 22) h hr rfl zd_PT_put_22 rfl rfl

set_option maxRecDepth 20000 in
theorem zl_PT_put {X : zz_X} {r : Option Value} {F' : Nat → va_E} {G : zz_G} {F : Nat → va_E} {lv : Nat → Int32} {lz : Int32} {su : Nat → Int32} {pm : Nat → Nat} {cn : Int32} {fl : Nat → Nat → Int32} {ru : Nat → Nat → Int32} {k : Int32} {x : Int64}  (h : zz_C X G (zz_A G.2.2) 5 zb_PT_put "PortTranslator" 1 21 0 0) (hr : X.2.2.2.2.2.2.2.2.1.sig.returnType = (some .boolean)) : ∀ (l : Nat) (v : Nat → Int32) (n : Nat) (y : Int32), n + l ≤ 48 → y = nI l - 1 → r = some (.int 1) → (zz_K G F (zs_pw x l v n) (nI (n + l)) lv lz su pm cn fl ru) = F' → zz_W X G (zz_A G.2.2) 5 0 0 (zz_E X G r F') (zz_K G F v (nI n) lv lz su pm cn fl ru) 28 [(4, .int y), (0, .ref (G.2.2 0)), (1, .int k), (2, .long x)] [] := by
  intro l
  induction l with
  | zero =>
    intro v n y hn hy he hF
    subst hy
    refine zi_iload (pc := 28) h (i := 4) zd_PT_put_28 0 rfl ?_
    refine zi_if_lt_t (pc := 30) h (tgt := 57) zd_PT_put_30 rfl (by decide) ?_
    refine zi_iconst (pc := 57) h zd_PT_put_57 zq_ic_1 ?_
    exact zi_zreturn (pc := 58) h hr rfl zd_PT_put_58 he.symm hF
  | succ l ih =>
    intro v n y hn hy he hF
    obtain rfl : y = nI l := hy.trans (nI_pred l)
    refine zi_iload (pc := 28) h (i := 4) zd_PT_put_28 0 rfl ?_
    refine zi_if_lt_f (pc := 30) h (tgt := 57) zd_PT_put_30 rfl (nI_pos (by omega)) ?_
    refine zi_aload_n (pc := 33) h (i := 0) zd_PT_put_33 rfl 1 rfl ?_
    refine zi_get (pc := 34) h zx_PT 0 0 zq_k0 rfl zq_j_0_5 zw_174 rfl zd_PT_put_34 ?_
    refine zi_lload_n (pc := 37) h (i := 2) zd_PT_put_37 rfl 3 rfl ?_
    refine zi_bipush (pc := 38) h zd_PT_put_38 zq_bi_16 ?_
    refine zi_iload (pc := 40) h (i := 4) zd_PT_put_40 0 rfl ?_
    refine zi_imul (pc := 42) h zd_PT_put_42 ?_
    refine zi_lushr (pc := 43) h zd_PT_put_43 rfl ?_
    refine zi_l2i (pc := 44) h zd_PT_put_44 ?_
    refine zi_ldc (pc := 45) h zw_198 zd_PT_put_45 ?_
    refine zi_iand (pc := 47) h zd_PT_put_47 ?_
    refine zi_callVv (pc := 48) h (st := []) (zc_PK_append (n := n) (by omega)) zm_PK_append zw_199 zx_PK zq_k1 rfl ⟨by decide, by decide⟩ zd_PT_put_48 (Nat.le_of_ble_eq_true rfl) rfl ?_
    refine zi_iinc (pc := 51) h (i := 4) (L' := [(4, _), (0, _), (1, _), (2, _)]) zd_PT_put_51 0 rfl (zq_dec l) (by decide) rfl ?_
    refine zi_goto (pc := 54) h (tgt := 28) zd_PT_put_54 rfl ?_
    rw [show n + (l + 1) = n + 1 + l by omega] at hF
    exact ih _ (n + 1) _ (by omega) rfl he hF

set_option maxRecDepth 20000 in
theorem zc_PT_put {l : Launch} {G : zz_G} {F : Nat → va_E} {v : Nat → Int32} {lv : Nat → Int32} {lz : Int32} {su : Nat → Int32} {pm : Nat → Nat} {cn : Int32} {fl : Nat → Nat → Int32} {ru : Nat → Nat → Int32} {n a : Nat} {x : Int64} (h1 : 1 ≤ a) (h4 : a ≤ 4) (hn : n + a ≤ 48) : zz_M l zy_PT_put zb_PT_put 5 (some .boolean) 1 21 G [.ref (G.2.2 0), .int (nI a), .long x] (zz_K G F v (nI n) lv lz su pm cn fl ru) (some (.int 1)) (zz_K G F (zs_pw x a v n) (nI (n + a)) lv lz su pm cn fl ru) := by
  refine zz_M.of (by decide) (Nat.le_of_ble_eq_true rfl) ?_
  intro X hX h hr
  subst hX
  have h : zz_C X G (zz_A G.2.2) 5 zb_PT_put "PortTranslator" 1 21 0 0 := h
  refine zi_iload_n (pc := 0) h (i := 1) zd_PT_put_0 rfl 1 rfl ?_
  refine zi_iconst (pc := 1) h zd_PT_put_1 zq_ic_1 ?_
  refine zi_icmp_lt_f (pc := 2) h (tgt := 21) zd_PT_put_2 rfl (nI_nlt (b := 1) h1 (by omega)) ?_
  refine zi_iload_n (pc := 5) h (i := 1) zd_PT_put_5 rfl 1 rfl ?_
  refine zi_iconst (pc := 6) h zd_PT_put_6 zq_ic_4 ?_
  refine zi_icmp_gt_f (pc := 7) h (tgt := 21) zd_PT_put_7 rfl (nI_nlt (a := 4) h4 (by decide)) ?_
  refine zi_aload_n (pc := 10) h (i := 0) zd_PT_put_10 rfl 0 rfl ?_
  refine zi_get (pc := 11) h zx_PT 0 0 zq_k0 rfl zq_j_0_5 zw_174 rfl zd_PT_put_11 ?_
  refine zi_iload_n (pc := 14) h (i := 1) zd_PT_put_14 rfl 1 rfl ?_
  refine zi_callV (pc := 15) h (st := []) (zc_PK_hasRoomFor) zm_PK_hasRoomFor zw_194 zx_PK zq_k1 rfl ⟨by decide, by decide⟩ zd_PT_put_15 (Nat.le_of_ble_eq_true rfl) rfl ?_
  refine zi_topv (1) (if_neg (zq_room hn)) ?_
  refine zi_if_ne_t (pc := 18) h (tgt := 23) zd_PT_put_18 rfl (by decide) ?_
  refine zi_iload_n (pc := 23) h (i := 1) zd_PT_put_23 rfl 1 rfl ?_
  refine zi_iconst (pc := 24) h zd_PT_put_24 zq_ic_1 ?_
  refine zi_isub (pc := 25) h zd_PT_put_25 ?_
  refine zi_istore (pc := 26) h (i := 4) (L' := [(4, _), (0, _), (1, _), (2, _)]) zd_PT_put_26 (by decide) rfl ?_
  exact zl_PT_put h hr a v n _ hn rfl rfl rfl

set_option maxRecDepth 20000 in
theorem zc_PT_judgeDraft {l : Launch} {G : zz_G} {F : Nat → va_E} {v : Nat → Int32} {lv : Nat → Int32} {lz : Int32} {su : Nat → Int32} {pm : Nat → Nat} {cn : Int32} {fl : Nat → Nat → Int32} {ru : Nat → Nat → Int32} {n : Nat} (hn : n ≤ 48) : zz_M l zy_PT_judgeDraft zb_PT_judgeDraft 1 (some .int) 4 85 G [.ref (G.2.2 0)] (zz_K G F v (nI n) lv lz su pm cn fl ru) (some (.int (zs_jdg v n))) (zz_K G F v (nI n) lv lz su pm cn fl ru) := by
  refine zz_M.of (by decide) (Nat.le_of_ble_eq_true rfl) ?_
  intro X hX h hr
  subst hX
  have h : zz_C X G (zz_A G.2.2) 1 zb_PT_judgeDraft "PortTranslator" 4 85 0 0 := h
  refine zi_aload_n (pc := 0) h (i := 0) zd_PT_judgeDraft_0 rfl 0 rfl ?_
  refine zi_get (pc := 1) h zx_PT 0 0 zq_k0 rfl zq_j_0_5 zw_174 rfl zd_PT_judgeDraft_1 ?_
  refine zi_callV (pc := 4) h (st := []) (zc_PK_isWellFormed hn) zm_PK_isWellFormed zw_219 zx_PK zq_k1 rfl ⟨by decide, by decide⟩ zd_PT_judgeDraft_4 (Nat.le_of_ble_eq_true rfl) rfl ?_
  refine zi_if_ne (pc := 7) h (tgt := 12) zd_PT_judgeDraft_7 rfl ?_ ?_
  · intro b7
    refine zi_aload_n (pc := 12) h (i := 0) zd_PT_judgeDraft_12 rfl 0 rfl ?_
    refine zi_get (pc := 13) h zx_PT 0 0 zq_k0 rfl zq_j_0_5 zw_174 rfl zd_PT_judgeDraft_13 ?_
    refine zi_callV (pc := 16) h (st := []) (zc_PK_time) zm_PK_time zw_263 zx_PK zq_k1 rfl ⟨by decide, by decide⟩ zd_PT_judgeDraft_16 (Nat.le_of_ble_eq_true rfl) rfl ?_
    refine zi_iconst (pc := 19) h zd_PT_judgeDraft_19 zq_ic_2 ?_
    refine zi_icmp_ge (pc := 20) h (tgt := 27) zd_PT_judgeDraft_20 rfl ?_ ?_
    · intro b20
      refine zi_iconst (pc := 27) h zd_PT_judgeDraft_27 zq_ic_0 ?_
      exact zi_ireturn (pc := 28) h hr zd_PT_judgeDraft_28 (by rw [zs_jdg, if_neg b7, if_pos b20]) rfl
    · intro b20
      refine zi_iconst (pc := 23) h zd_PT_judgeDraft_23 zq_ic_3 ?_
      refine zi_goto (pc := 24) h (tgt := 28) zd_PT_judgeDraft_24 rfl ?_
      exact zi_ireturn (pc := 28) h hr zd_PT_judgeDraft_28 (by rw [zs_jdg, if_neg b7, if_neg b20]) rfl
  · intro b7
    refine zi_iconst (pc := 10) h zd_PT_judgeDraft_10 zq_ic_1 ?_
    exact zi_ireturn (pc := 11) h hr zd_PT_judgeDraft_11 (by rw [zs_jdg, if_pos b7]) rfl

set_option maxRecDepth 20000 in
theorem zc_PT_translate {l : Launch} {G : zz_G} {F : Nat → va_E} {v : Nat → Int32} {sz : Int32} {lv : Nat → Int32} {lz : Int32} {su : Nat → Int32} {pm : Nat → Nat} {cn : Int32} {fl : Nat → Nat → Int32} {ru : Nat → Nat → Int32} {e x p : Int32} {e1 e2 a b d : Nat} (g1 : zz_ix e e1 48) (g2 : zz_ix (e + 1) e2 48) (h1 : zz_ix (su 5) a 48) (h2 : zz_ix (su 5 + 1) b 48) (h3 : zz_ix (su 6) d 48) : zz_M l zy_PT_translate zb_PT_translate 4 none 4 90 G [.ref (G.2.2 0), .int e, .int x, .int p] (zz_K G F v sz lv lz su pm cn fl ru) none (zz_K G F (zs_trl v su e1 e2 a b d x p) sz lv lz su pm cn fl ru) := by
  refine zz_M.of (by decide) (Nat.le_of_ble_eq_true rfl) ?_
  intro X hX h hr
  subst hX
  have h : zz_C X G (zz_A G.2.2) 4 zb_PT_translate "PortTranslator" 4 90 0 0 := h
  refine zi_aload_n (pc := 0) h (i := 0) zd_PT_translate_0 rfl 0 rfl ?_
  refine zi_get (pc := 1) h zx_PT 0 0 zq_k0 rfl zq_j_0_5 zw_174 rfl zd_PT_translate_1 ?_
  refine zi_callVv (pc := 4) h (st := []) (zc_PK_lowerTime) zm_PK_lowerTime zw_355 zx_PK zq_k1 rfl ⟨by decide, by decide⟩ zd_PT_translate_4 (Nat.le_of_ble_eq_true rfl) rfl ?_
  refine zi_aload_n (pc := 7) h (i := 0) zd_PT_translate_7 rfl 0 rfl ?_
  refine zi_get (pc := 8) h zx_PT 0 0 zq_k0 rfl zq_j_0_5 zw_174 rfl zd_PT_translate_8 ?_
  refine zi_iload_n (pc := 11) h (i := 1) zd_PT_translate_11 rfl 1 rfl ?_
  refine zi_iload_n (pc := 12) h (i := 2) zd_PT_translate_12 rfl 2 rfl ?_
  refine zi_callVv (pc := 13) h (st := []) (zc_PK_setAddress (a := e1) (b := e2) g1 g2) zm_PK_setAddress zw_359 zx_PK zq_k1 rfl ⟨by decide, by decide⟩ zd_PT_translate_13 (Nat.le_of_ble_eq_true rfl) rfl ?_
  refine zi_aload_n (pc := 16) h (i := 0) zd_PT_translate_16 rfl 0 rfl ?_
  refine zi_get (pc := 17) h zx_PT 0 2 zq_k0 rfl zq_j_2_5 zw_176 rfl zd_PT_translate_17 ?_
  refine zi_aload_n (pc := 20) h (i := 0) zd_PT_translate_20 rfl 0 rfl ?_
  refine zi_get (pc := 21) h zx_PT 0 0 zq_k0 rfl zq_j_0_5 zw_174 rfl zd_PT_translate_21 ?_
  refine zi_iload_n (pc := 24) h (i := 2) zd_PT_translate_24 rfl 2 rfl ?_
  refine zi_iload_n (pc := 25) h (i := 3) zd_PT_translate_25 rfl 3 rfl ?_
  refine zi_callVv (pc := 26) h (st := []) (zc_SU_write (a := a) (b := b) (d := d) h1 h2 h3) zm_SU_write zw_363 zx_SU zq_k5 rfl ⟨by decide, by decide⟩ zd_PT_translate_26 (Nat.le_of_ble_eq_true rfl) rfl ?_
  exact zi_vreturn (pc := 29) h hr zd_PT_translate_29 rfl rfl

set_option maxRecDepth 20000 in
theorem zc_PT_mayBeginFlow {l : Launch} {G : zz_G} {F : Nat → va_E} {v : Nat → Int32} {sz : Int32} {lv : Nat → Int32} {lz : Int32} {su : Nat → Int32} {pm : Nat → Nat} {cn : Int32} {fl : Nat → Nat → Int32} {ru : Nat → Nat → Int32} (hb : ∀ i, ru i 4 = 0 ∨ ru i 4 = 1) : zz_M l zy_PT_mayBeginFlow zb_PT_mayBeginFlow 1 (some .boolean) 3 66 G [.ref (G.2.2 0)] (zz_K G F v sz lv lz su pm cn fl ru) (some (.int (zs_may v su ru))) (zz_K G F v sz lv lz su pm cn fl ru) := by
  refine zz_M.of (by decide) (Nat.le_of_ble_eq_true rfl) ?_
  intro X hX h hr
  subst hX
  have h : zz_C X G (zz_A G.2.2) 1 zb_PT_mayBeginFlow "PortTranslator" 3 66 0 0 := h
  refine zi_aload_n (pc := 0) h (i := 0) zd_PT_mayBeginFlow_0 rfl 0 rfl ?_
  refine zi_get (pc := 1) h zx_PT 0 0 zq_k0 rfl zq_j_0_5 zw_174 rfl zd_PT_mayBeginFlow_1 ?_
  refine zi_callV (pc := 4) h (st := []) (zc_PK_isEchoReply) zm_PK_isEchoReply zw_308 zx_PK zq_k1 rfl ⟨by decide, by decide⟩ zd_PT_mayBeginFlow_4 (Nat.le_of_ble_eq_true rfl) rfl ?_
  refine zi_if_eq (pc := 7) h (tgt := 12) zd_PT_mayBeginFlow_7 rfl ?_ ?_
  · intro b7
    refine zi_aload_n (pc := 12) h (i := 0) zd_PT_mayBeginFlow_12 rfl 0 rfl ?_
    refine zi_get (pc := 13) h zx_PT 0 2 zq_k0 rfl zq_j_2_5 zw_176 rfl zd_PT_mayBeginFlow_13 ?_
    refine zi_get (pc := 16) h zx_SU 5 0 zq_k5 rfl zq_j_0_7 zw_49 rfl zd_PT_mayBeginFlow_16 ?_
    refine zi_bipush (pc := 19) h zd_PT_mayBeginFlow_19 zq_bi_6 ?_
    refine zi_icmp_ne (pc := 21) h (tgt := 40) zd_PT_mayBeginFlow_21 rfl ?_ ?_
    · intro b21
      refine zi_aload_n (pc := 40) h (i := 0) zd_PT_mayBeginFlow_40 rfl 0 rfl ?_
      refine zi_get (pc := 41) h zx_PT 0 4 zq_k0 rfl zq_j_4_5 zw_178 rfl zd_PT_mayBeginFlow_41 ?_
      refine zi_aload_n (pc := 44) h (i := 0) zd_PT_mayBeginFlow_44 rfl 0 rfl ?_
      refine zi_get (pc := 45) h zx_PT 0 2 zq_k0 rfl zq_j_2_5 zw_176 rfl zd_PT_mayBeginFlow_45 ?_
      refine zi_get (pc := 48) h zx_SU 5 0 zq_k5 rfl zq_j_0_7 zw_49 rfl zd_PT_mayBeginFlow_48 ?_
      refine zi_aload_n (pc := 51) h (i := 0) zd_PT_mayBeginFlow_51 rfl 0 rfl ?_
      refine zi_get (pc := 52) h zx_PT 0 2 zq_k0 rfl zq_j_2_5 zw_176 rfl zd_PT_mayBeginFlow_52 ?_
      refine zi_get (pc := 55) h zx_SU 5 3 zq_k5 rfl zq_j_3_7 zw_58 rfl zd_PT_mayBeginFlow_55 ?_
      refine zi_callV (pc := 58) h (st := []) (zc_RS_permit hb) zm_RS_permit zw_313 zx_RS zq_k8 rfl ⟨by decide, by decide⟩ zd_PT_mayBeginFlow_58 (Nat.le_of_ble_eq_true rfl) rfl ?_
      exact zi_zreturn (pc := 61) h hr (zq_nb (zs_per01 hb _ _)) zd_PT_mayBeginFlow_61 (by rw [zs_may, if_pos b7, if_neg b21]) rfl
    · intro b21
      refine zi_aload_n (pc := 24) h (i := 0) zd_PT_mayBeginFlow_24 rfl 0 rfl ?_
      refine zi_get (pc := 25) h zx_PT 0 0 zq_k0 rfl zq_j_0_5 zw_174 rfl zd_PT_mayBeginFlow_25 ?_
      refine zi_callV (pc := 28) h (st := []) (zc_PK_flags) zm_PK_flags zw_309 zx_PK zq_k1 rfl ⟨by decide, by decide⟩ zd_PT_mayBeginFlow_28 (Nat.le_of_ble_eq_true rfl) rfl ?_
      refine zi_bipush (pc := 31) h zd_PT_mayBeginFlow_31 zq_bi_22 ?_
      refine zi_iand (pc := 33) h zd_PT_mayBeginFlow_33 ?_
      refine zi_iconst (pc := 34) h zd_PT_mayBeginFlow_34 zq_ic_2 ?_
      refine zi_icmp_eq (pc := 35) h (tgt := 40) zd_PT_mayBeginFlow_35 rfl ?_ ?_
      · intro b35
        refine zi_aload_n (pc := 40) h (i := 0) zd_PT_mayBeginFlow_40 rfl 0 rfl ?_
        refine zi_get (pc := 41) h zx_PT 0 4 zq_k0 rfl zq_j_4_5 zw_178 rfl zd_PT_mayBeginFlow_41 ?_
        refine zi_aload_n (pc := 44) h (i := 0) zd_PT_mayBeginFlow_44 rfl 0 rfl ?_
        refine zi_get (pc := 45) h zx_PT 0 2 zq_k0 rfl zq_j_2_5 zw_176 rfl zd_PT_mayBeginFlow_45 ?_
        refine zi_get (pc := 48) h zx_SU 5 0 zq_k5 rfl zq_j_0_7 zw_49 rfl zd_PT_mayBeginFlow_48 ?_
        refine zi_aload_n (pc := 51) h (i := 0) zd_PT_mayBeginFlow_51 rfl 0 rfl ?_
        refine zi_get (pc := 52) h zx_PT 0 2 zq_k0 rfl zq_j_2_5 zw_176 rfl zd_PT_mayBeginFlow_52 ?_
        refine zi_get (pc := 55) h zx_SU 5 3 zq_k5 rfl zq_j_3_7 zw_58 rfl zd_PT_mayBeginFlow_55 ?_
        refine zi_callV (pc := 58) h (st := []) (zc_RS_permit hb) zm_RS_permit zw_313 zx_RS zq_k8 rfl ⟨by decide, by decide⟩ zd_PT_mayBeginFlow_58 (Nat.le_of_ble_eq_true rfl) rfl ?_
        exact zi_zreturn (pc := 61) h hr (zq_nb (zs_per01 hb _ _)) zd_PT_mayBeginFlow_61 (by rw [zs_may, if_pos b7, if_pos b21, if_pos b35]) rfl
      · intro b35
        refine zi_iconst (pc := 38) h zd_PT_mayBeginFlow_38 zq_ic_0 ?_
        exact zi_zreturn (pc := 39) h hr rfl zd_PT_mayBeginFlow_39 (by rw [zs_may, if_pos b7, if_pos b21, if_neg b35]) rfl
  · intro b7
    refine zi_iconst (pc := 10) h zd_PT_mayBeginFlow_10 zq_ic_0 ?_
    exact zi_zreturn (pc := 11) h hr rfl zd_PT_mayBeginFlow_11 (by rw [zs_may, if_neg b7]) rfl

set_option maxRecDepth 20000 in
theorem zc_PT_note_o {l : Launch} {G : zz_G} {F : Nat → va_E} {v : Nat → Int32} {sz : Int32} {lv : Nat → Int32} {lz : Int32} {su : Nat → Int32} {pm : Nat → Nat} {fl : Nat → Nat → Int32} {ru : Nat → Nat → Int32} {c i : Nat} (hpm : ∀ i, pm i < 12) (hc : c ≤ 12) (hi : i < c) (hne : ∀ j, j < i → pm j ≠ pm i) : zz_M l zy_PT_note zb_PT_note 3 none 2 45 G [.ref (G.2.2 0), .ref (G.2.2 (10 + pm i)), .int 1] (zz_K G F v sz lv lz su pm (nI c) fl ru) none (zz_K G F v sz lv lz su (zs_nto v su pm fl c i).1 (nI (zs_nto v su pm fl c i).2.2) (zs_nto v su pm fl c i).2.1 ru) := by
  refine zz_M.of (by decide) (Nat.le_of_ble_eq_true rfl) ?_
  intro X hX h hr
  subst hX
  have h : zz_C X G (zz_A G.2.2) 3 zb_PT_note "PortTranslator" 2 45 0 0 := h
  refine zi_aload_n (pc := 0) h (i := 0) zd_PT_note_0 rfl 0 rfl ?_
  refine zi_get (pc := 1) h zx_PT 0 0 zq_k0 rfl zq_j_0_5 zw_174 rfl zd_PT_note_1 ?_
  refine zi_callV (pc := 4) h (st := []) (zc_PK_isError) zm_PK_isError zw_303 zx_PK zq_k1 rfl ⟨by decide, by decide⟩ zd_PT_note_4 (Nat.le_of_ble_eq_true rfl) rfl ?_
  refine zi_if_eq (pc := 7) h (tgt := 11) zd_PT_note_7 rfl ?_ ?_
  · intro b7
    refine zi_aload_n (pc := 11) h (i := 1) zd_PT_note_11 rfl 1 rfl ?_
    refine zi_iconst (pc := 12) h zd_PT_note_12 zq_ic_0 ?_
    refine zi_put (pc := 13) h zx_FL _ 6 (zq_fl (hpm i)) (zk_at_fl _ (hpm i)) zq_j_6_10 zw_103 rfl rfl rfl (Nat.le_of_ble_eq_true rfl) zd_PT_note_13 (zk_s_fl _ (hpm i) 6 (by decide)) ?_
    refine zi_aload_n (pc := 16) h (i := 0) zd_PT_note_16 rfl 0 rfl ?_
    refine zi_get (pc := 17) h zx_PT 0 2 zq_k0 rfl zq_j_2_5 zw_176 rfl zd_PT_note_17 ?_
    refine zi_get (pc := 20) h zx_SU 5 0 zq_k5 rfl zq_j_0_7 zw_49 rfl zd_PT_note_20 ?_
    refine zi_bipush (pc := 23) h zd_PT_note_23 zq_bi_6 ?_
    refine zi_icmp_ne (pc := 25) h (tgt := 60) zd_PT_note_25 rfl ?_ ?_
    · intro b25
      exact zi_vreturn (pc := 60) h hr zd_PT_note_60 rfl (by rw [zs_nto, if_pos b7, if_neg b25])
    · intro b25
      refine zi_aload_n (pc := 28) h (i := 1) zd_PT_note_28 rfl 1 rfl ?_
      refine zi_aload_n (pc := 29) h (i := 0) zd_PT_note_29 rfl 0 rfl ?_
      refine zi_get (pc := 30) h zx_PT 0 0 zq_k0 rfl zq_j_0_5 zw_174 rfl zd_PT_note_30 ?_
      refine zi_callV (pc := 33) h (st := [_]) (zc_PK_flags) zm_PK_flags zw_309 zx_PK zq_k1 rfl ⟨by decide, by decide⟩ zd_PT_note_33 (Nat.le_of_ble_eq_true rfl) rfl ?_
      refine zi_iload_n (pc := 36) h (i := 2) zd_PT_note_36 rfl 2 rfl ?_
      refine zi_callVv (pc := 37) h (st := []) (zc_FL_noteFlags_o (hpm i)) zm_FL_noteFlags zw_384 zx_FL (zq_fl (hpm i)) (zk_at_fl1 _ (hpm i)) ⟨by decide, by decide⟩ zd_PT_note_37 (Nat.le_of_ble_eq_true rfl) rfl ?_
      refine zi_eqF (F' := (zz_K G F v sz lv lz su pm (nI c) (va_up fl (pm i) (zs_nfo (va_up (fl (pm i)) 6 0) (v 16))) ru)) (by rw [zz_up2, zz_eq]) ?_
      refine zi_aload_n (pc := 40) h (i := 0) zd_PT_note_40 rfl 0 rfl ?_
      refine zi_get (pc := 41) h zx_PT 0 0 zq_k0 rfl zq_j_0_5 zw_174 rfl zd_PT_note_41 ?_
      refine zi_callV (pc := 44) h (st := []) (zc_PK_flags) zm_PK_flags zw_309 zx_PK zq_k1 rfl ⟨by decide, by decide⟩ zd_PT_note_44 (Nat.le_of_ble_eq_true rfl) rfl ?_
      refine zi_iconst (pc := 47) h zd_PT_note_47 zq_ic_4 ?_
      refine zi_iand (pc := 48) h zd_PT_note_48 ?_
      refine zi_if_eq (pc := 49) h (tgt := 60) zd_PT_note_49 rfl ?_ ?_
      · intro b49
        exact zi_vreturn (pc := 60) h hr zd_PT_note_60 rfl (by rw [zs_nto, if_pos b7, if_pos b25, if_pos b49])
      · intro b49
        refine zi_aload_n (pc := 52) h (i := 0) zd_PT_note_52 rfl 0 rfl ?_
        refine zi_get (pc := 53) h zx_PT 0 3 zq_k0 rfl zq_j_3_5 zw_177 rfl zd_PT_note_53 ?_
        refine zi_aload_n (pc := 56) h (i := 1) zd_PT_note_56 rfl 1 rfl ?_
        refine zi_callVv (pc := 57) h (st := []) (zc_FT_end hpm hc hi hne) zm_FT_end zw_388 zx_FT zq_k6 rfl ⟨by decide, by decide⟩ zd_PT_note_57 (Nat.le_of_ble_eq_true rfl) rfl ?_
        exact zi_vreturn (pc := 60) h hr zd_PT_note_60 rfl (by rw [zs_nto, if_pos b7, if_pos b25, if_neg b49])
  · intro b7
    exact zi_vreturn (pc := 10) h hr zd_PT_note_10 rfl (by rw [zs_nto, if_neg b7])

set_option maxRecDepth 20000 in
theorem zc_PT_note_i {l : Launch} {G : zz_G} {F : Nat → va_E} {v : Nat → Int32} {sz : Int32} {lv : Nat → Int32} {lz : Int32} {su : Nat → Int32} {pm : Nat → Nat} {fl : Nat → Nat → Int32} {ru : Nat → Nat → Int32} {c i : Nat} (hpm : ∀ i, pm i < 12) (hc : c ≤ 12) (hi : i < c) (hne : ∀ j, j < i → pm j ≠ pm i) : zz_M l zy_PT_note zb_PT_note 3 none 2 45 G [.ref (G.2.2 0), .ref (G.2.2 (10 + pm i)), .int 0] (zz_K G F v sz lv lz su pm (nI c) fl ru) none (zz_K G F v sz lv lz su (zs_nti v su pm fl c i).1 (nI (zs_nti v su pm fl c i).2.2) (zs_nti v su pm fl c i).2.1 ru) := by
  refine zz_M.of (by decide) (Nat.le_of_ble_eq_true rfl) ?_
  intro X hX h hr
  subst hX
  have h : zz_C X G (zz_A G.2.2) 3 zb_PT_note "PortTranslator" 2 45 0 0 := h
  refine zi_aload_n (pc := 0) h (i := 0) zd_PT_note_0 rfl 0 rfl ?_
  refine zi_get (pc := 1) h zx_PT 0 0 zq_k0 rfl zq_j_0_5 zw_174 rfl zd_PT_note_1 ?_
  refine zi_callV (pc := 4) h (st := []) (zc_PK_isError) zm_PK_isError zw_303 zx_PK zq_k1 rfl ⟨by decide, by decide⟩ zd_PT_note_4 (Nat.le_of_ble_eq_true rfl) rfl ?_
  refine zi_if_eq (pc := 7) h (tgt := 11) zd_PT_note_7 rfl ?_ ?_
  · intro b7
    refine zi_aload_n (pc := 11) h (i := 1) zd_PT_note_11 rfl 1 rfl ?_
    refine zi_iconst (pc := 12) h zd_PT_note_12 zq_ic_0 ?_
    refine zi_put (pc := 13) h zx_FL _ 6 (zq_fl (hpm i)) (zk_at_fl _ (hpm i)) zq_j_6_10 zw_103 rfl rfl rfl (Nat.le_of_ble_eq_true rfl) zd_PT_note_13 (zk_s_fl _ (hpm i) 6 (by decide)) ?_
    refine zi_aload_n (pc := 16) h (i := 0) zd_PT_note_16 rfl 0 rfl ?_
    refine zi_get (pc := 17) h zx_PT 0 2 zq_k0 rfl zq_j_2_5 zw_176 rfl zd_PT_note_17 ?_
    refine zi_get (pc := 20) h zx_SU 5 0 zq_k5 rfl zq_j_0_7 zw_49 rfl zd_PT_note_20 ?_
    refine zi_bipush (pc := 23) h zd_PT_note_23 zq_bi_6 ?_
    refine zi_icmp_ne (pc := 25) h (tgt := 60) zd_PT_note_25 rfl ?_ ?_
    · intro b25
      exact zi_vreturn (pc := 60) h hr zd_PT_note_60 rfl (by rw [zs_nti, if_pos b7, if_neg b25])
    · intro b25
      refine zi_aload_n (pc := 28) h (i := 1) zd_PT_note_28 rfl 1 rfl ?_
      refine zi_aload_n (pc := 29) h (i := 0) zd_PT_note_29 rfl 0 rfl ?_
      refine zi_get (pc := 30) h zx_PT 0 0 zq_k0 rfl zq_j_0_5 zw_174 rfl zd_PT_note_30 ?_
      refine zi_callV (pc := 33) h (st := [_]) (zc_PK_flags) zm_PK_flags zw_309 zx_PK zq_k1 rfl ⟨by decide, by decide⟩ zd_PT_note_33 (Nat.le_of_ble_eq_true rfl) rfl ?_
      refine zi_iload_n (pc := 36) h (i := 2) zd_PT_note_36 rfl 2 rfl ?_
      refine zi_callVv (pc := 37) h (st := []) (zc_FL_noteFlags_i (hpm i)) zm_FL_noteFlags zw_384 zx_FL (zq_fl (hpm i)) (zk_at_fl1 _ (hpm i)) ⟨by decide, by decide⟩ zd_PT_note_37 (Nat.le_of_ble_eq_true rfl) rfl ?_
      refine zi_eqF (F' := (zz_K G F v sz lv lz su pm (nI c) (va_up fl (pm i) (zs_nfi (va_up (fl (pm i)) 6 0) (v 16))) ru)) (by rw [zz_up2, zz_eq]) ?_
      refine zi_aload_n (pc := 40) h (i := 0) zd_PT_note_40 rfl 0 rfl ?_
      refine zi_get (pc := 41) h zx_PT 0 0 zq_k0 rfl zq_j_0_5 zw_174 rfl zd_PT_note_41 ?_
      refine zi_callV (pc := 44) h (st := []) (zc_PK_flags) zm_PK_flags zw_309 zx_PK zq_k1 rfl ⟨by decide, by decide⟩ zd_PT_note_44 (Nat.le_of_ble_eq_true rfl) rfl ?_
      refine zi_iconst (pc := 47) h zd_PT_note_47 zq_ic_4 ?_
      refine zi_iand (pc := 48) h zd_PT_note_48 ?_
      refine zi_if_eq (pc := 49) h (tgt := 60) zd_PT_note_49 rfl ?_ ?_
      · intro b49
        exact zi_vreturn (pc := 60) h hr zd_PT_note_60 rfl (by rw [zs_nti, if_pos b7, if_pos b25, if_pos b49])
      · intro b49
        refine zi_aload_n (pc := 52) h (i := 0) zd_PT_note_52 rfl 0 rfl ?_
        refine zi_get (pc := 53) h zx_PT 0 3 zq_k0 rfl zq_j_3_5 zw_177 rfl zd_PT_note_53 ?_
        refine zi_aload_n (pc := 56) h (i := 1) zd_PT_note_56 rfl 1 rfl ?_
        refine zi_callVv (pc := 57) h (st := []) (zc_FT_end hpm hc hi hne) zm_FT_end zw_388 zx_FT zq_k6 rfl ⟨by decide, by decide⟩ zd_PT_note_57 (Nat.le_of_ble_eq_true rfl) rfl ?_
        exact zi_vreturn (pc := 60) h hr zd_PT_note_60 rfl (by rw [zs_nti, if_pos b7, if_pos b25, if_neg b49])
  · intro b7
    exact zi_vreturn (pc := 10) h hr zd_PT_note_10 rfl (by rw [zs_nti, if_neg b7])
