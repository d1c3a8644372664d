def zv_at (k : Int32) : Nat := if k = 6 then 18 else if k = 17 then 13 else 11
def zv_w2o (w : Nat → Int32) : Nat → Int32 := zs_set (upd w 4 (w 4 - 256)) 6 7 (-969710591)
def zv_w2i (w : Nat → Int32) (x : Int32) : Nat → Int32 := zs_set (upd w 4 (w 4 - 256)) 8 9 x

theorem zc_MO_writeSums {l : Launch} {G : zz_G} {F : Nat → va_E} {w : Nat → Int32} {la : Nat → Int32} {lz : Int32} {ra : Nat → Nat → Int32} {fn : Int32} {fa : Nat → Nat → Int32} {cd : Int32} {n : Nat} {k : Int32} (hk : k = 6 ∨ k = 17 ∨ k = 1) (h10 : 10 ≤ n) (hn : n ≤ 48) (f0 : ¬ zs_tot (upd w 5 0) 0 10 0 < 0) (f1 : ¬ zv_bt (upd (zv_hc w) (zv_at k) 0) n k < 0) : zz_M l zy_MO_writeSums zb_MO_writeSums 4 none 2 46 G [.ref (G.2.2 26), .int k] (zz_N G F w (nI n) la lz ra fn fa cd) none (zz_N G F (zv_ws w n k) (nI n) la lz ra fn fa cd) := by
  rcases hk with rfl | rfl | rfl
  · exact zc_MO_writeSums_6 h10 hn f0 f1
  · exact zc_MO_writeSums_17 h10 hn f0 f1
  · exact zc_MO_writeSums_1 h10 hn f0 f1

set_option maxRecDepth 20000 in
theorem zc_MO_rw_1e1 {l : Launch} {G : zz_G} {F : Nat → va_E} {w : Nat → Int32} {sz : Int32} {la : Nat → Int32} {lz : Int32} {ra : Nat → Nat → Int32} {fn : Int32} {fa : Nat → Nat → Int32} {cd : Int32} {i : Nat} {w3 w4 : Nat → Int32} (hi : i < 12) (he : ¬ zv_err (zv_w2o w) = 0) (hk : (zv_w2o w) 18 &&& 255 = 1) (hM2 : zz_M l zy_MO_changeOther zb_MO_changeOther 11 none 1 22 G [.ref (G.2.2 26), .int 22, .int 26, .int (-969710591), .int (fa 5 i)] (zz_N G F (zv_w2o w) sz la lz ra fn fa cd) none (zz_N G F w3 sz la lz ra fn fa cd)) (hM3 : zz_M l zy_MO_writeSums zb_MO_writeSums 4 none 2 46 G [.ref (G.2.2 26), .int (w 4 &&& 255)] (zz_N G F w3 sz la lz ra fn fa cd) none (zz_N G F w4 sz la lz ra fn fa cd)) : zz_M l zy_MO_rewrite zb_MO_rewrite 7 none 3 69 G [.ref (G.2.2 26), .int 1, .int (nI i)] (zz_N G F w sz la lz ra fn fa cd) none (zz_N G F w4 sz la lz ra fn fa cd) := by
  refine zz_M.of (by decide) (Nat.le_of_ble_eq_true rfl) ?_
  intro X hX h hr
  subst hX
  have h : zz_C X G (zz_A G.2.2) 7 zb_MO_rewrite "PortTranslatorModel" 3 69 0 0 := h
  refine zi_aload_n (pc := 0) h (i := 0) zd_MO_rewrite_0 rfl 0 rfl ?_
  refine zi_get (pc := 1) h zx_MO 26 0 zq_k26 rfl zq_j_0_18 zw_584 rfl zd_MO_rewrite_1 ?_
  refine zi_iconst (pc := 4) h zd_MO_rewrite_4 zq_ic_4 ?_
  refine zi_iald (pc := 5) h 27 zq_k27 rfl zq_in_4_48 zd_MO_rewrite_5 ?_
  refine zi_sipush (pc := 6) h zd_MO_rewrite_6 zq_si_255 ?_
  refine zi_iand (pc := 9) h zd_MO_rewrite_9 ?_
  refine zi_istore_n (pc := 10) h (i := 3) (L' := [(3, _), (0, _), (1, _), (2, _)]) zd_MO_rewrite_10 rfl (by decide) rfl ?_
  refine zi_iload_n (pc := 11) h (i := 1) zd_MO_rewrite_11 rfl 2 rfl ?_
  refine zi_if_eq_f (pc := 12) h (tgt := 20) zd_MO_rewrite_12 rfl (by decide) ?_
  refine zi_ldc (pc := 15) h zw_702 zd_MO_rewrite_15 ?_
  refine zi_goto (pc := 17) h (tgt := 26) zd_MO_rewrite_17 rfl ?_
  refine zi_istore (pc := 26) h (i := 4) (L' := [(4, _), (3, _), (0, _), (1, _), (2, _)]) zd_MO_rewrite_26 (by decide) rfl ?_
  refine zi_iload_n (pc := 28) h (i := 1) zd_MO_rewrite_28 rfl 3 rfl ?_
  refine zi_if_eq_f (pc := 29) h (tgt := 41) zd_MO_rewrite_29 rfl (by decide) ?_
  refine zi_aload_n (pc := 32) h (i := 0) zd_MO_rewrite_32 rfl 2 rfl ?_
  refine zi_get (pc := 33) h zx_MO 26 14 zq_k26 rfl zq_j_14_18 zw_598 rfl zd_MO_rewrite_33 ?_
  refine zi_iload_n (pc := 36) h (i := 2) zd_MO_rewrite_36 rfl 4 rfl ?_
  refine zi_iald (pc := 37) h 38 zq_k38 rfl (zz_ixN (j := i) (by omega)) zd_MO_rewrite_37 ?_
  refine zi_goto (pc := 38) h (tgt := 47) zd_MO_rewrite_38 rfl ?_
  refine zi_istore (pc := 47) h (i := 5) (L' := [(5, _), (4, _), (3, _), (0, _), (1, _), (2, _)]) zd_MO_rewrite_47 (by decide) rfl ?_
  refine zi_aload_n (pc := 49) h (i := 0) zd_MO_rewrite_49 rfl 3 rfl ?_
  refine zi_get (pc := 50) h zx_MO 26 0 zq_k26 rfl zq_j_0_18 zw_584 rfl zd_MO_rewrite_50 ?_
  refine zi_iconst (pc := 53) h zd_MO_rewrite_53 zq_ic_4 ?_
  refine zi_aload_n (pc := 54) h (i := 0) zd_MO_rewrite_54 rfl 3 rfl ?_
  refine zi_get (pc := 55) h zx_MO 26 0 zq_k26 rfl zq_j_0_18 zw_584 rfl zd_MO_rewrite_55 ?_
  refine zi_iconst (pc := 58) h zd_MO_rewrite_58 zq_ic_4 ?_
  refine zi_iald (pc := 59) h 27 zq_k27 rfl zq_in_4_48 zd_MO_rewrite_59 ?_
  refine zi_sipush (pc := 60) h zd_MO_rewrite_60 zq_si_256 ?_
  refine zi_isub (pc := 63) h zd_MO_rewrite_63 ?_
  refine zi_iast (pc := 64) h 27 zq_k27 rfl zq_in_4_48 zd_MO_rewrite_64 zn_u_w ?_
  refine zi_aload_n (pc := 65) h (i := 0) zd_MO_rewrite_65 rfl 3 rfl ?_
  refine zi_iload_n (pc := 66) h (i := 1) zd_MO_rewrite_66 rfl 4 rfl ?_
  refine zi_if_eq_f (pc := 67) h (tgt := 75) zd_MO_rewrite_67 rfl (by decide) ?_
  refine zi_bipush (pc := 70) h zd_MO_rewrite_70 zq_bi_6 ?_
  refine zi_goto (pc := 72) h (tgt := 77) zd_MO_rewrite_72 rfl ?_
  refine zi_iload (pc := 77) h (i := 4) zd_MO_rewrite_77 1 rfl ?_
  refine zi_callVv (pc := 79) h (st := []) (zc_MO_setAddress (a := 6) (b := 7) zq_in_6_48 ⟨by decide, by decide, by decide⟩) zm_MO_setAddress zw_729 zx_MO zq_k26 rfl ⟨by decide, by decide⟩ zd_MO_rewrite_79 (Nat.le_of_ble_eq_true rfl) rfl ?_
  refine zi_eqF (F' := (zz_N G F (zv_w2o w) sz la lz ra fn fa cd)) rfl ?_
  refine zi_aload_n (pc := 82) h (i := 0) zd_MO_rewrite_82 rfl 3 rfl ?_
  refine zi_callV (pc := 83) h (st := []) (zc_MO_isError) zm_MO_isError zw_682 zx_MO zq_k26 rfl ⟨by decide, by decide⟩ zd_MO_rewrite_83 (Nat.le_of_ble_eq_true rfl) rfl ?_
  refine zi_if_eq_f (pc := 86) h (tgt := 154) zd_MO_rewrite_86 rfl he ?_
  refine zi_aload_n (pc := 89) h (i := 0) zd_MO_rewrite_89 rfl 3 rfl ?_
  refine zi_get (pc := 90) h zx_MO 26 0 zq_k26 rfl zq_j_0_18 zw_584 rfl zd_MO_rewrite_90 ?_
  refine zi_bipush (pc := 93) h zd_MO_rewrite_93 zq_bi_18 ?_
  refine zi_iald (pc := 95) h 27 zq_k27 rfl zq_in_18_48 zd_MO_rewrite_95 ?_
  refine zi_sipush (pc := 96) h zd_MO_rewrite_96 zq_si_255 ?_
  refine zi_iand (pc := 99) h zd_MO_rewrite_99 ?_
  refine zi_iconst (pc := 100) h zd_MO_rewrite_100 zq_ic_1 ?_
  refine zi_icmp_ne_f (pc := 101) h (tgt := 108) zd_MO_rewrite_101 rfl hk ?_
  refine zi_iconst (pc := 104) h zd_MO_rewrite_104 zq_ic_1 ?_
  refine zi_goto (pc := 105) h (tgt := 109) zd_MO_rewrite_105 rfl ?_
  refine zi_istore (pc := 109) h (i := 6) (L' := [(6, _), (5, _), (4, _), (3, _), (0, _), (1, _), (2, _)]) zd_MO_rewrite_109 (by decide) rfl ?_
  refine zi_aload_n (pc := 111) h (i := 0) zd_MO_rewrite_111 rfl 4 rfl ?_
  refine zi_iload_n (pc := 112) h (i := 1) zd_MO_rewrite_112 rfl 5 rfl ?_
  refine zi_if_eq_f (pc := 113) h (tgt := 121) zd_MO_rewrite_113 rfl (by decide) ?_
  refine zi_bipush (pc := 116) h zd_MO_rewrite_116 zq_bi_22 ?_
  refine zi_goto (pc := 118) h (tgt := 123) zd_MO_rewrite_118 rfl ?_
  refine zi_iload (pc := 123) h (i := 6) zd_MO_rewrite_123 0 rfl ?_
  refine zi_if_eq_f (pc := 125) h (tgt := 133) zd_MO_rewrite_125 rfl (by decide) ?_
  refine zi_bipush (pc := 128) h zd_MO_rewrite_128 zq_bi_26 ?_
  refine zi_goto (pc := 130) h (tgt := 144) zd_MO_rewrite_130 rfl ?_
  refine zi_iload (pc := 144) h (i := 4) zd_MO_rewrite_144 2 rfl ?_
  refine zi_iload (pc := 146) h (i := 5) zd_MO_rewrite_146 1 rfl ?_
  refine zi_callVv (pc := 148) h (st := []) hM2 zm_MO_changeOther zw_733 zx_MO zq_k26 rfl ⟨by decide, by decide⟩ zd_MO_rewrite_148 (Nat.le_of_ble_eq_true rfl) rfl ?_
  refine zi_goto (pc := 151) h (tgt := 182) zd_MO_rewrite_151 rfl ?_
  refine zi_aload_n (pc := 182) h (i := 0) zd_MO_rewrite_182 rfl 4 rfl ?_
  refine zi_iload_n (pc := 183) h (i := 3) zd_MO_rewrite_183 rfl 3 rfl ?_
  refine zi_callVv (pc := 184) h (st := []) hM3 zm_MO_writeSums zw_740 zx_MO zq_k26 rfl ⟨by decide, by decide⟩ zd_MO_rewrite_184 (Nat.le_of_ble_eq_true rfl) rfl ?_
  exact zi_vreturn (pc := 187) h hr zd_MO_rewrite_187 rfl rfl

set_option maxRecDepth 20000 in
theorem zc_MO_rw_1e0 {l : Launch} {G : zz_G} {F : Nat → va_E} {w : Nat → Int32} {sz : Int32} {la : Nat → Int32} {lz : Int32} {ra : Nat → Nat → Int32} {fn : Int32} {fa : Nat → Nat → Int32} {cd : Int32} {i : Nat} {w3 w4 : Nat → Int32} (hi : i < 12) (he : ¬ zv_err (zv_w2o w) = 0) (hk : ¬ (zv_w2o w) 18 &&& 255 = 1) (hM2 : zz_M l zy_MO_changeOther zb_MO_changeOther 11 none 1 22 G [.ref (G.2.2 26), .int 22, .int 25, .int (-969710591), .int (fa 5 i)] (zz_N G F (zv_w2o w) sz la lz ra fn fa cd) none (zz_N G F w3 sz la lz ra fn fa cd)) (hM3 : zz_M l zy_MO_writeSums zb_MO_writeSums 4 none 2 46 G [.ref (G.2.2 26), .int (w 4 &&& 255)] (zz_N G F w3 sz la lz ra fn fa cd) none (zz_N G F w4 sz la lz ra fn fa cd)) : zz_M l zy_MO_rewrite zb_MO_rewrite 7 none 3 69 G [.ref (G.2.2 26), .int 1, .int (nI i)] (zz_N G F w sz la lz ra fn fa cd) none (zz_N G F w4 sz la lz ra fn fa cd) := by
  refine zz_M.of (by decide) (Nat.le_of_ble_eq_true rfl) ?_
  intro X hX h hr
  subst hX
  have h : zz_C X G (zz_A G.2.2) 7 zb_MO_rewrite "PortTranslatorModel" 3 69 0 0 := h
  refine zi_aload_n (pc := 0) h (i := 0) zd_MO_rewrite_0 rfl 0 rfl ?_
  refine zi_get (pc := 1) h zx_MO 26 0 zq_k26 rfl zq_j_0_18 zw_584 rfl zd_MO_rewrite_1 ?_
  refine zi_iconst (pc := 4) h zd_MO_rewrite_4 zq_ic_4 ?_
  refine zi_iald (pc := 5) h 27 zq_k27 rfl zq_in_4_48 zd_MO_rewrite_5 ?_
  refine zi_sipush (pc := 6) h zd_MO_rewrite_6 zq_si_255 ?_
  refine zi_iand (pc := 9) h zd_MO_rewrite_9 ?_
  refine zi_istore_n (pc := 10) h (i := 3) (L' := [(3, _), (0, _), (1, _), (2, _)]) zd_MO_rewrite_10 rfl (by decide) rfl ?_
  refine zi_iload_n (pc := 11) h (i := 1) zd_MO_rewrite_11 rfl 2 rfl ?_
  refine zi_if_eq_f (pc := 12) h (tgt := 20) zd_MO_rewrite_12 rfl (by decide) ?_
  refine zi_ldc (pc := 15) h zw_702 zd_MO_rewrite_15 ?_
  refine zi_goto (pc := 17) h (tgt := 26) zd_MO_rewrite_17 rfl ?_
  refine zi_istore (pc := 26) h (i := 4) (L' := [(4, _), (3, _), (0, _), (1, _), (2, _)]) zd_MO_rewrite_26 (by decide) rfl ?_
  refine zi_iload_n (pc := 28) h (i := 1) zd_MO_rewrite_28 rfl 3 rfl ?_
  refine zi_if_eq_f (pc := 29) h (tgt := 41) zd_MO_rewrite_29 rfl (by decide) ?_
  refine zi_aload_n (pc := 32) h (i := 0) zd_MO_rewrite_32 rfl 2 rfl ?_
  refine zi_get (pc := 33) h zx_MO 26 14 zq_k26 rfl zq_j_14_18 zw_598 rfl zd_MO_rewrite_33 ?_
  refine zi_iload_n (pc := 36) h (i := 2) zd_MO_rewrite_36 rfl 4 rfl ?_
  refine zi_iald (pc := 37) h 38 zq_k38 rfl (zz_ixN (j := i) (by omega)) zd_MO_rewrite_37 ?_
  refine zi_goto (pc := 38) h (tgt := 47) zd_MO_rewrite_38 rfl ?_
  refine zi_istore (pc := 47) h (i := 5) (L' := [(5, _), (4, _), (3, _), (0, _), (1, _), (2, _)]) zd_MO_rewrite_47 (by decide) rfl ?_
  refine zi_aload_n (pc := 49) h (i := 0) zd_MO_rewrite_49 rfl 3 rfl ?_
  refine zi_get (pc := 50) h zx_MO 26 0 zq_k26 rfl zq_j_0_18 zw_584 rfl zd_MO_rewrite_50 ?_
  refine zi_iconst (pc := 53) h zd_MO_rewrite_53 zq_ic_4 ?_
  refine zi_aload_n (pc := 54) h (i := 0) zd_MO_rewrite_54 rfl 3 rfl ?_
  refine zi_get (pc := 55) h zx_MO 26 0 zq_k26 rfl zq_j_0_18 zw_584 rfl zd_MO_rewrite_55 ?_
  refine zi_iconst (pc := 58) h zd_MO_rewrite_58 zq_ic_4 ?_
  refine zi_iald (pc := 59) h 27 zq_k27 rfl zq_in_4_48 zd_MO_rewrite_59 ?_
  refine zi_sipush (pc := 60) h zd_MO_rewrite_60 zq_si_256 ?_
  refine zi_isub (pc := 63) h zd_MO_rewrite_63 ?_
  refine zi_iast (pc := 64) h 27 zq_k27 rfl zq_in_4_48 zd_MO_rewrite_64 zn_u_w ?_
  refine zi_aload_n (pc := 65) h (i := 0) zd_MO_rewrite_65 rfl 3 rfl ?_
  refine zi_iload_n (pc := 66) h (i := 1) zd_MO_rewrite_66 rfl 4 rfl ?_
  refine zi_if_eq_f (pc := 67) h (tgt := 75) zd_MO_rewrite_67 rfl (by decide) ?_
  refine zi_bipush (pc := 70) h zd_MO_rewrite_70 zq_bi_6 ?_
  refine zi_goto (pc := 72) h (tgt := 77) zd_MO_rewrite_72 rfl ?_
  refine zi_iload (pc := 77) h (i := 4) zd_MO_rewrite_77 1 rfl ?_
  refine zi_callVv (pc := 79) h (st := []) (zc_MO_setAddress (a := 6) (b := 7) zq_in_6_48 ⟨by decide, by decide, by decide⟩) zm_MO_setAddress zw_729 zx_MO zq_k26 rfl ⟨by decide, by decide⟩ zd_MO_rewrite_79 (Nat.le_of_ble_eq_true rfl) rfl ?_
  refine zi_eqF (F' := (zz_N G F (zv_w2o w) sz la lz ra fn fa cd)) rfl ?_
  refine zi_aload_n (pc := 82) h (i := 0) zd_MO_rewrite_82 rfl 3 rfl ?_
  refine zi_callV (pc := 83) h (st := []) (zc_MO_isError) zm_MO_isError zw_682 zx_MO zq_k26 rfl ⟨by decide, by decide⟩ zd_MO_rewrite_83 (Nat.le_of_ble_eq_true rfl) rfl ?_
  refine zi_if_eq_f (pc := 86) h (tgt := 154) zd_MO_rewrite_86 rfl he ?_
  refine zi_aload_n (pc := 89) h (i := 0) zd_MO_rewrite_89 rfl 3 rfl ?_
  refine zi_get (pc := 90) h zx_MO 26 0 zq_k26 rfl zq_j_0_18 zw_584 rfl zd_MO_rewrite_90 ?_
  refine zi_bipush (pc := 93) h zd_MO_rewrite_93 zq_bi_18 ?_
  refine zi_iald (pc := 95) h 27 zq_k27 rfl zq_in_18_48 zd_MO_rewrite_95 ?_
  refine zi_sipush (pc := 96) h zd_MO_rewrite_96 zq_si_255 ?_
  refine zi_iand (pc := 99) h zd_MO_rewrite_99 ?_
  refine zi_iconst (pc := 100) h zd_MO_rewrite_100 zq_ic_1 ?_
  refine zi_icmp_ne_t (pc := 101) h (tgt := 108) zd_MO_rewrite_101 rfl hk ?_
  refine zi_iconst (pc := 108) h zd_MO_rewrite_108 zq_ic_0 ?_
  refine zi_istore (pc := 109) h (i := 6) (L' := [(6, _), (5, _), (4, _), (3, _), (0, _), (1, _), (2, _)]) zd_MO_rewrite_109 (by decide) rfl ?_
  refine zi_aload_n (pc := 111) h (i := 0) zd_MO_rewrite_111 rfl 4 rfl ?_
  refine zi_iload_n (pc := 112) h (i := 1) zd_MO_rewrite_112 rfl 5 rfl ?_
  refine zi_if_eq_f (pc := 113) h (tgt := 121) zd_MO_rewrite_113 rfl (by decide) ?_
  refine zi_bipush (pc := 116) h zd_MO_rewrite_116 zq_bi_22 ?_
  refine zi_goto (pc := 118) h (tgt := 123) zd_MO_rewrite_118 rfl ?_
  refine zi_iload (pc := 123) h (i := 6) zd_MO_rewrite_123 0 rfl ?_
  refine zi_if_eq_t (pc := 125) h (tgt := 133) zd_MO_rewrite_125 rfl (by decide) ?_
  refine zi_iload_n (pc := 133) h (i := 1) zd_MO_rewrite_133 rfl 5 rfl ?_
  refine zi_if_eq_f (pc := 134) h (tgt := 142) zd_MO_rewrite_134 rfl (by decide) ?_
  refine zi_bipush (pc := 137) h zd_MO_rewrite_137 zq_bi_25 ?_
  refine zi_goto (pc := 139) h (tgt := 144) zd_MO_rewrite_139 rfl ?_
  refine zi_iload (pc := 144) h (i := 4) zd_MO_rewrite_144 2 rfl ?_
  refine zi_iload (pc := 146) h (i := 5) zd_MO_rewrite_146 1 rfl ?_
  refine zi_callVv (pc := 148) h (st := []) hM2 zm_MO_changeOther zw_733 zx_MO zq_k26 rfl ⟨by decide, by decide⟩ zd_MO_rewrite_148 (Nat.le_of_ble_eq_true rfl) rfl ?_
  refine zi_goto (pc := 151) h (tgt := 182) zd_MO_rewrite_151 rfl ?_
  refine zi_aload_n (pc := 182) h (i := 0) zd_MO_rewrite_182 rfl 4 rfl ?_
  refine zi_iload_n (pc := 183) h (i := 3) zd_MO_rewrite_183 rfl 3 rfl ?_
  refine zi_callVv (pc := 184) h (st := []) hM3 zm_MO_writeSums zw_740 zx_MO zq_k26 rfl ⟨by decide, by decide⟩ zd_MO_rewrite_184 (Nat.le_of_ble_eq_true rfl) rfl ?_
  exact zi_vreturn (pc := 187) h hr zd_MO_rewrite_187 rfl rfl

set_option maxRecDepth 20000 in
theorem zc_MO_rw_1n1 {l : Launch} {G : zz_G} {F : Nat → va_E} {w : Nat → Int32} {sz : Int32} {la : Nat → Int32} {lz : Int32} {ra : Nat → Nat → Int32} {fn : Int32} {fa : Nat → Nat → Int32} {cd : Int32} {i : Nat} {w4 : Nat → Int32} (hi : i < 12) (he : zv_err (zv_w2o w) = 0) (hk : w 4 &&& 255 = 1) (hM3 : zz_M l zy_MO_writeSums zb_MO_writeSums 4 none 2 46 G [.ref (G.2.2 26), .int (w 4 &&& 255)] (zz_N G F (upd (zv_w2o w) 12 (fa 5 i)) sz la lz ra fn fa cd) none (zz_N G F w4 sz la lz ra fn fa cd)) : zz_M l zy_MO_rewrite zb_MO_rewrite 7 none 3 69 G [.ref (G.2.2 26), .int 1, .int (nI i)] (zz_N G F w sz la lz ra fn fa cd) none (zz_N G F w4 sz la lz ra fn fa cd) := by
  refine zz_M.of (by decide) (Nat.le_of_ble_eq_true rfl) ?_
  intro X hX h hr
  subst hX
  have h : zz_C X G (zz_A G.2.2) 7 zb_MO_rewrite "PortTranslatorModel" 3 69 0 0 := h
  refine zi_aload_n (pc := 0) h (i := 0) zd_MO_rewrite_0 rfl 0 rfl ?_
  refine zi_get (pc := 1) h zx_MO 26 0 zq_k26 rfl zq_j_0_18 zw_584 rfl zd_MO_rewrite_1 ?_
  refine zi_iconst (pc := 4) h zd_MO_rewrite_4 zq_ic_4 ?_
  refine zi_iald (pc := 5) h 27 zq_k27 rfl zq_in_4_48 zd_MO_rewrite_5 ?_
  refine zi_sipush (pc := 6) h zd_MO_rewrite_6 zq_si_255 ?_
  refine zi_iand (pc := 9) h zd_MO_rewrite_9 ?_
  refine zi_istore_n (pc := 10) h (i := 3) (L' := [(3, _), (0, _), (1, _), (2, _)]) zd_MO_rewrite_10 rfl (by decide) rfl ?_
  refine zi_iload_n (pc := 11) h (i := 1) zd_MO_rewrite_11 rfl 2 rfl ?_
  refine zi_if_eq_f (pc := 12) h (tgt := 20) zd_MO_rewrite_12 rfl (by decide) ?_
  refine zi_ldc (pc := 15) h zw_702 zd_MO_rewrite_15 ?_
  refine zi_goto (pc := 17) h (tgt := 26) zd_MO_rewrite_17 rfl ?_
  refine zi_istore (pc := 26) h (i := 4) (L' := [(4, _), (3, _), (0, _), (1, _), (2, _)]) zd_MO_rewrite_26 (by decide) rfl ?_
  refine zi_iload_n (pc := 28) h (i := 1) zd_MO_rewrite_28 rfl 3 rfl ?_
  refine zi_if_eq_f (pc := 29) h (tgt := 41) zd_MO_rewrite_29 rfl (by decide) ?_
  refine zi_aload_n (pc := 32) h (i := 0) zd_MO_rewrite_32 rfl 2 rfl ?_
  refine zi_get (pc := 33) h zx_MO 26 14 zq_k26 rfl zq_j_14_18 zw_598 rfl zd_MO_rewrite_33 ?_
  refine zi_iload_n (pc := 36) h (i := 2) zd_MO_rewrite_36 rfl 4 rfl ?_
  refine zi_iald (pc := 37) h 38 zq_k38 rfl (zz_ixN (j := i) (by omega)) zd_MO_rewrite_37 ?_
  refine zi_goto (pc := 38) h (tgt := 47) zd_MO_rewrite_38 rfl ?_
  refine zi_istore (pc := 47) h (i := 5) (L' := [(5, _), (4, _), (3, _), (0, _), (1, _), (2, _)]) zd_MO_rewrite_47 (by decide) rfl ?_
  refine zi_aload_n (pc := 49) h (i := 0) zd_MO_rewrite_49 rfl 3 rfl ?_
  refine zi_get (pc := 50) h zx_MO 26 0 zq_k26 rfl zq_j_0_18 zw_584 rfl zd_MO_rewrite_50 ?_
  refine zi_iconst (pc := 53) h zd_MO_rewrite_53 zq_ic_4 ?_
  refine zi_aload_n (pc := 54) h (i := 0) zd_MO_rewrite_54 rfl 3 rfl ?_
  refine zi_get (pc := 55) h zx_MO 26 0 zq_k26 rfl zq_j_0_18 zw_584 rfl zd_MO_rewrite_55 ?_
  refine zi_iconst (pc := 58) h zd_MO_rewrite_58 zq_ic_4 ?_
  refine zi_iald (pc := 59) h 27 zq_k27 rfl zq_in_4_48 zd_MO_rewrite_59 ?_
  refine zi_sipush (pc := 60) h zd_MO_rewrite_60 zq_si_256 ?_
  refine zi_isub (pc := 63) h zd_MO_rewrite_63 ?_
  refine zi_iast (pc := 64) h 27 zq_k27 rfl zq_in_4_48 zd_MO_rewrite_64 zn_u_w ?_
  refine zi_aload_n (pc := 65) h (i := 0) zd_MO_rewrite_65 rfl 3 rfl ?_
  refine zi_iload_n (pc := 66) h (i := 1) zd_MO_rewrite_66 rfl 4 rfl ?_
  refine zi_if_eq_f (pc := 67) h (tgt := 75) zd_MO_rewrite_67 rfl (by decide) ?_
  refine zi_bipush (pc := 70) h zd_MO_rewrite_70 zq_bi_6 ?_
  refine zi_goto (pc := 72) h (tgt := 77) zd_MO_rewrite_72 rfl ?_
  refine zi_iload (pc := 77) h (i := 4) zd_MO_rewrite_77 1 rfl ?_
  refine zi_callVv (pc := 79) h (st := []) (zc_MO_setAddress (a := 6) (b := 7) zq_in_6_48 ⟨by decide, by decide, by decide⟩) zm_MO_setAddress zw_729 zx_MO zq_k26 rfl ⟨by decide, by decide⟩ zd_MO_rewrite_79 (Nat.le_of_ble_eq_true rfl) rfl ?_
  refine zi_eqF (F' := (zz_N G F (zv_w2o w) sz la lz ra fn fa cd)) rfl ?_
  refine zi_aload_n (pc := 82) h (i := 0) zd_MO_rewrite_82 rfl 3 rfl ?_
  refine zi_callV (pc := 83) h (st := []) (zc_MO_isError) zm_MO_isError zw_682 zx_MO zq_k26 rfl ⟨by decide, by decide⟩ zd_MO_rewrite_83 (Nat.le_of_ble_eq_true rfl) rfl ?_
  refine zi_if_eq_t (pc := 86) h (tgt := 154) zd_MO_rewrite_86 rfl he ?_
  refine zi_aload_n (pc := 154) h (i := 0) zd_MO_rewrite_154 rfl 3 rfl ?_
  refine zi_get (pc := 155) h zx_MO 26 0 zq_k26 rfl zq_j_0_18 zw_584 rfl zd_MO_rewrite_155 ?_
  refine zi_iload_n (pc := 158) h (i := 3) zd_MO_rewrite_158 rfl 2 rfl ?_
  refine zi_iconst (pc := 159) h zd_MO_rewrite_159 zq_ic_1 ?_
  refine zi_icmp_ne_f (pc := 160) h (tgt := 168) zd_MO_rewrite_160 rfl hk ?_
  refine zi_bipush (pc := 163) h zd_MO_rewrite_163 zq_bi_12 ?_
  refine zi_goto (pc := 165) h (tgt := 179) zd_MO_rewrite_165 rfl ?_
  refine zi_iload (pc := 179) h (i := 5) zd_MO_rewrite_179 0 rfl ?_
  refine zi_iast (pc := 181) h 27 zq_k27 rfl zq_in_12_48 zd_MO_rewrite_181 zn_u_w ?_
  refine zi_aload_n (pc := 182) h (i := 0) zd_MO_rewrite_182 rfl 3 rfl ?_
  refine zi_iload_n (pc := 183) h (i := 3) zd_MO_rewrite_183 rfl 2 rfl ?_
  refine zi_callVv (pc := 184) h (st := []) hM3 zm_MO_writeSums zw_740 zx_MO zq_k26 rfl ⟨by decide, by decide⟩ zd_MO_rewrite_184 (Nat.le_of_ble_eq_true rfl) rfl ?_
  exact zi_vreturn (pc := 187) h hr zd_MO_rewrite_187 rfl rfl

set_option maxRecDepth 20000 in
theorem zc_MO_rw_1n0 {l : Launch} {G : zz_G} {F : Nat → va_E} {w : Nat → Int32} {sz : Int32} {la : Nat → Int32} {lz : Int32} {ra : Nat → Nat → Int32} {fn : Int32} {fa : Nat → Nat → Int32} {cd : Int32} {i : Nat} {w4 : Nat → Int32} (hi : i < 12) (he : zv_err (zv_w2o w) = 0) (hk : ¬ w 4 &&& 255 = 1) (hM3 : zz_M l zy_MO_writeSums zb_MO_writeSums 4 none 2 46 G [.ref (G.2.2 26), .int (w 4 &&& 255)] (zz_N G F (upd (zv_w2o w) 10 (fa 5 i)) sz la lz ra fn fa cd) none (zz_N G F w4 sz la lz ra fn fa cd)) : zz_M l zy_MO_rewrite zb_MO_rewrite 7 none 3 69 G [.ref (G.2.2 26), .int 1, .int (nI i)] (zz_N G F w sz la lz ra fn fa cd) none (zz_N G F w4 sz la lz ra fn fa cd) := by
  refine zz_M.of (by decide) (Nat.le_of_ble_eq_true rfl) ?_
  intro X hX h hr
  subst hX
  have h : zz_C X G (zz_A G.2.2) 7 zb_MO_rewrite "PortTranslatorModel" 3 69 0 0 := h
  refine zi_aload_n (pc := 0) h (i := 0) zd_MO_rewrite_0 rfl 0 rfl ?_
  refine zi_get (pc := 1) h zx_MO 26 0 zq_k26 rfl zq_j_0_18 zw_584 rfl zd_MO_rewrite_1 ?_
  refine zi_iconst (pc := 4) h zd_MO_rewrite_4 zq_ic_4 ?_
  refine zi_iald (pc := 5) h 27 zq_k27 rfl zq_in_4_48 zd_MO_rewrite_5 ?_
  refine zi_sipush (pc := 6) h zd_MO_rewrite_6 zq_si_255 ?_
  refine zi_iand (pc := 9) h zd_MO_rewrite_9 ?_
  refine zi_istore_n (pc := 10) h (i := 3) (L' := [(3, _), (0, _), (1, _), (2, _)]) zd_MO_rewrite_10 rfl (by decide) rfl ?_
  refine zi_iload_n (pc := 11) h (i := 1) zd_MO_rewrite_11 rfl 2 rfl ?_
  refine zi_if_eq_f (pc := 12) h (tgt := 20) zd_MO_rewrite_12 rfl (by decide) ?_
  refine zi_ldc (pc := 15) h zw_702 zd_MO_rewrite_15 ?_
  refine zi_goto (pc := 17) h (tgt := 26) zd_MO_rewrite_17 rfl ?_
  refine zi_istore (pc := 26) h (i := 4) (L' := [(4, _), (3, _), (0, _), (1, _), (2, _)]) zd_MO_rewrite_26 (by decide) rfl ?_
  refine zi_iload_n (pc := 28) h (i := 1) zd_MO_rewrite_28 rfl 3 rfl ?_
  refine zi_if_eq_f (pc := 29) h (tgt := 41) zd_MO_rewrite_29 rfl (by decide) ?_
  refine zi_aload_n (pc := 32) h (i := 0) zd_MO_rewrite_32 rfl 2 rfl ?_
  refine zi_get (pc := 33) h zx_MO 26 14 zq_k26 rfl zq_j_14_18 zw_598 rfl zd_MO_rewrite_33 ?_
  refine zi_iload_n (pc := 36) h (i := 2) zd_MO_rewrite_36 rfl 4 rfl ?_
  refine zi_iald (pc := 37) h 38 zq_k38 rfl (zz_ixN (j := i) (by omega)) zd_MO_rewrite_37 ?_
  refine zi_goto (pc := 38) h (tgt := 47) zd_MO_rewrite_38 rfl ?_
  refine zi_istore (pc := 47) h (i := 5) (L' := [(5, _), (4, _), (3, _), (0, _), (1, _), (2, _)]) zd_MO_rewrite_47 (by decide) rfl ?_
  refine zi_aload_n (pc := 49) h (i := 0) zd_MO_rewrite_49 rfl 3 rfl ?_
  refine zi_get (pc := 50) h zx_MO 26 0 zq_k26 rfl zq_j_0_18 zw_584 rfl zd_MO_rewrite_50 ?_
  refine zi_iconst (pc := 53) h zd_MO_rewrite_53 zq_ic_4 ?_
  refine zi_aload_n (pc := 54) h (i := 0) zd_MO_rewrite_54 rfl 3 rfl ?_
  refine zi_get (pc := 55) h zx_MO 26 0 zq_k26 rfl zq_j_0_18 zw_584 rfl zd_MO_rewrite_55 ?_
  refine zi_iconst (pc := 58) h zd_MO_rewrite_58 zq_ic_4 ?_
  refine zi_iald (pc := 59) h 27 zq_k27 rfl zq_in_4_48 zd_MO_rewrite_59 ?_
  refine zi_sipush (pc := 60) h zd_MO_rewrite_60 zq_si_256 ?_
  refine zi_isub (pc := 63) h zd_MO_rewrite_63 ?_
  refine zi_iast (pc := 64) h 27 zq_k27 rfl zq_in_4_48 zd_MO_rewrite_64 zn_u_w ?_
  refine zi_aload_n (pc := 65) h (i := 0) zd_MO_rewrite_65 rfl 3 rfl ?_
  refine zi_iload_n (pc := 66) h (i := 1) zd_MO_rewrite_66 rfl 4 rfl ?_
  refine zi_if_eq_f (pc := 67) h (tgt := 75) zd_MO_rewrite_67 rfl (by decide) ?_
  refine zi_bipush (pc := 70) h zd_MO_rewrite_70 zq_bi_6 ?_
  refine zi_goto (pc := 72) h (tgt := 77) zd_MO_rewrite_72 rfl ?_
  refine zi_iload (pc := 77) h (i := 4) zd_MO_rewrite_77 1 rfl ?_
  refine zi_callVv (pc := 79) h (st := []) (zc_MO_setAddress (a := 6) (b := 7) zq_in_6_48 ⟨by decide, by decide, by decide⟩) zm_MO_setAddress zw_729 zx_MO zq_k26 rfl ⟨by decide, by decide⟩ zd_MO_rewrite_79 (Nat.le_of_ble_eq_true rfl) rfl ?_
  refine zi_eqF (F' := (zz_N G F (zv_w2o w) sz la lz ra fn fa cd)) rfl ?_
  refine zi_aload_n (pc := 82) h (i := 0) zd_MO_rewrite_82 rfl 3 rfl ?_
  refine zi_callV (pc := 83) h (st := []) (zc_MO_isError) zm_MO_isError zw_682 zx_MO zq_k26 rfl ⟨by decide, by decide⟩ zd_MO_rewrite_83 (Nat.le_of_ble_eq_true rfl) rfl ?_
  refine zi_if_eq_t (pc := 86) h (tgt := 154) zd_MO_rewrite_86 rfl he ?_
  refine zi_aload_n (pc := 154) h (i := 0) zd_MO_rewrite_154 rfl 3 rfl ?_
  refine zi_get (pc := 155) h zx_MO 26 0 zq_k26 rfl zq_j_0_18 zw_584 rfl zd_MO_rewrite_155 ?_
  refine zi_iload_n (pc := 158) h (i := 3) zd_MO_rewrite_158 rfl 2 rfl ?_
  refine zi_iconst (pc := 159) h zd_MO_rewrite_159 zq_ic_1 ?_
  refine zi_icmp_ne_t (pc := 160) h (tgt := 168) zd_MO_rewrite_160 rfl hk ?_
  refine zi_iload_n (pc := 168) h (i := 1) zd_MO_rewrite_168 rfl 4 rfl ?_
  refine zi_if_eq_f (pc := 169) h (tgt := 177) zd_MO_rewrite_169 rfl (by decide) ?_
  refine zi_bipush (pc := 172) h zd_MO_rewrite_172 zq_bi_10 ?_
  refine zi_goto (pc := 174) h (tgt := 179) zd_MO_rewrite_174 rfl ?_
  refine zi_iload (pc := 179) h (i := 5) zd_MO_rewrite_179 0 rfl ?_
  refine zi_iast (pc := 181) h 27 zq_k27 rfl zq_in_10_48 zd_MO_rewrite_181 zn_u_w ?_
  refine zi_aload_n (pc := 182) h (i := 0) zd_MO_rewrite_182 rfl 3 rfl ?_
  refine zi_iload_n (pc := 183) h (i := 3) zd_MO_rewrite_183 rfl 2 rfl ?_
  refine zi_callVv (pc := 184) h (st := []) hM3 zm_MO_writeSums zw_740 zx_MO zq_k26 rfl ⟨by decide, by decide⟩ zd_MO_rewrite_184 (Nat.le_of_ble_eq_true rfl) rfl ?_
  exact zi_vreturn (pc := 187) h hr zd_MO_rewrite_187 rfl rfl

set_option maxRecDepth 20000 in
theorem zc_MO_rw_0e1 {l : Launch} {G : zz_G} {F : Nat → va_E} {w : Nat → Int32} {sz : Int32} {la : Nat → Int32} {lz : Int32} {ra : Nat → Nat → Int32} {fn : Int32} {fa : Nat → Nat → Int32} {cd : Int32} {i : Nat} {w3 w4 : Nat → Int32} (hi : i < 12) (he : ¬ zv_err (zv_w2i w (fa 1 i)) = 0) (hk : (zv_w2i w (fa 1 i)) 18 &&& 255 = 1) (hM2 : zz_M l zy_MO_changeOther zb_MO_changeOther 11 none 1 22 G [.ref (G.2.2 26), .int 20, .int 26, .int (fa 1 i), .int (fa 2 i)] (zz_N G F (zv_w2i w (fa 1 i)) sz la lz ra fn fa cd) none (zz_N G F w3 sz la lz ra fn fa cd)) (hM3 : zz_M l zy_MO_writeSums zb_MO_writeSums 4 none 2 46 G [.ref (G.2.2 26), .int (w 4 &&& 255)] (zz_N G F w3 sz la lz ra fn fa cd) none (zz_N G F w4 sz la lz ra fn fa cd)) : zz_M l zy_MO_rewrite zb_MO_rewrite 7 none 3 69 G [.ref (G.2.2 26), .int 0, .int (nI i)] (zz_N G F w sz la lz ra fn fa cd) none (zz_N G F w4 sz la lz ra fn fa cd) := by
  refine zz_M.of (by decide) (Nat.le_of_ble_eq_true rfl) ?_
  intro X hX h hr
  subst hX
  have h : zz_C X G (zz_A G.2.2) 7 zb_MO_rewrite "PortTranslatorModel" 3 69 0 0 := h
  refine zi_aload_n (pc := 0) h (i := 0) zd_MO_rewrite_0 rfl 0 rfl ?_
  refine zi_get (pc := 1) h zx_MO 26 0 zq_k26 rfl zq_j_0_18 zw_584 rfl zd_MO_rewrite_1 ?_
  refine zi_iconst (pc := 4) h zd_MO_rewrite_4 zq_ic_4 ?_
  refine zi_iald (pc := 5) h 27 zq_k27 rfl zq_in_4_48 zd_MO_rewrite_5 ?_
  refine zi_sipush (pc := 6) h zd_MO_rewrite_6 zq_si_255 ?_
  refine zi_iand (pc := 9) h zd_MO_rewrite_9 ?_
  refine zi_istore_n (pc := 10) h (i := 3) (L' := [(3, _), (0, _), (1, _), (2, _)]) zd_MO_rewrite_10 rfl (by decide) rfl ?_
  refine zi_iload_n (pc := 11) h (i := 1) zd_MO_rewrite_11 rfl 2 rfl ?_
  refine zi_if_eq_t (pc := 12) h (tgt := 20) zd_MO_rewrite_12 rfl (by decide) ?_
  refine zi_aload_n (pc := 20) h (i := 0) zd_MO_rewrite_20 rfl 1 rfl ?_
  refine zi_get (pc := 21) h zx_MO 26 10 zq_k26 rfl zq_j_10_18 zw_594 rfl zd_MO_rewrite_21 ?_
  refine zi_iload_n (pc := 24) h (i := 2) zd_MO_rewrite_24 rfl 3 rfl ?_
  refine zi_iald (pc := 25) h 34 zq_k34 rfl (zz_ixN (j := i) (by omega)) zd_MO_rewrite_25 ?_
  refine zi_istore (pc := 26) h (i := 4) (L' := [(4, _), (3, _), (0, _), (1, _), (2, _)]) zd_MO_rewrite_26 (by decide) rfl ?_
  refine zi_iload_n (pc := 28) h (i := 1) zd_MO_rewrite_28 rfl 3 rfl ?_
  refine zi_if_eq_t (pc := 29) h (tgt := 41) zd_MO_rewrite_29 rfl (by decide) ?_
  refine zi_aload_n (pc := 41) h (i := 0) zd_MO_rewrite_41 rfl 2 rfl ?_
  refine zi_get (pc := 42) h zx_MO 26 11 zq_k26 rfl zq_j_11_18 zw_595 rfl zd_MO_rewrite_42 ?_
  refine zi_iload_n (pc := 45) h (i := 2) zd_MO_rewrite_45 rfl 4 rfl ?_
  refine zi_iald (pc := 46) h 35 zq_k35 rfl (zz_ixN (j := i) (by omega)) zd_MO_rewrite_46 ?_
  refine zi_istore (pc := 47) h (i := 5) (L' := [(5, _), (4, _), (3, _), (0, _), (1, _), (2, _)]) zd_MO_rewrite_47 (by decide) rfl ?_
  refine zi_aload_n (pc := 49) h (i := 0) zd_MO_rewrite_49 rfl 3 rfl ?_
  refine zi_get (pc := 50) h zx_MO 26 0 zq_k26 rfl zq_j_0_18 zw_584 rfl zd_MO_rewrite_50 ?_
  refine zi_iconst (pc := 53) h zd_MO_rewrite_53 zq_ic_4 ?_
  refine zi_aload_n (pc := 54) h (i := 0) zd_MO_rewrite_54 rfl 3 rfl ?_
  refine zi_get (pc := 55) h zx_MO 26 0 zq_k26 rfl zq_j_0_18 zw_584 rfl zd_MO_rewrite_55 ?_
  refine zi_iconst (pc := 58) h zd_MO_rewrite_58 zq_ic_4 ?_
  refine zi_iald (pc := 59) h 27 zq_k27 rfl zq_in_4_48 zd_MO_rewrite_59 ?_
  refine zi_sipush (pc := 60) h zd_MO_rewrite_60 zq_si_256 ?_
  refine zi_isub (pc := 63) h zd_MO_rewrite_63 ?_
  refine zi_iast (pc := 64) h 27 zq_k27 rfl zq_in_4_48 zd_MO_rewrite_64 zn_u_w ?_
  refine zi_aload_n (pc := 65) h (i := 0) zd_MO_rewrite_65 rfl 3 rfl ?_
  refine zi_iload_n (pc := 66) h (i := 1) zd_MO_rewrite_66 rfl 4 rfl ?_
  refine zi_if_eq_t (pc := 67) h (tgt := 75) zd_MO_rewrite_67 rfl (by decide) ?_
  refine zi_bipush (pc := 75) h zd_MO_rewrite_75 zq_bi_8 ?_
  refine zi_iload (pc := 77) h (i := 4) zd_MO_rewrite_77 1 rfl ?_
  refine zi_callVv (pc := 79) h (st := []) (zc_MO_setAddress (a := 8) (b := 9) zq_in_8_48 ⟨by decide, by decide, by decide⟩) zm_MO_setAddress zw_729 zx_MO zq_k26 rfl ⟨by decide, by decide⟩ zd_MO_rewrite_79 (Nat.le_of_ble_eq_true rfl) rfl ?_
  refine zi_eqF (F' := (zz_N G F (zv_w2i w (fa 1 i)) sz la lz ra fn fa cd)) rfl ?_
  refine zi_aload_n (pc := 82) h (i := 0) zd_MO_rewrite_82 rfl 3 rfl ?_
  refine zi_callV (pc := 83) h (st := []) (zc_MO_isError) zm_MO_isError zw_682 zx_MO zq_k26 rfl ⟨by decide, by decide⟩ zd_MO_rewrite_83 (Nat.le_of_ble_eq_true rfl) rfl ?_
  refine zi_if_eq_f (pc := 86) h (tgt := 154) zd_MO_rewrite_86 rfl he ?_
  refine zi_aload_n (pc := 89) h (i := 0) zd_MO_rewrite_89 rfl 3 rfl ?_
  refine zi_get (pc := 90) h zx_MO 26 0 zq_k26 rfl zq_j_0_18 zw_584 rfl zd_MO_rewrite_90 ?_
  refine zi_bipush (pc := 93) h zd_MO_rewrite_93 zq_bi_18 ?_
  refine zi_iald (pc := 95) h 27 zq_k27 rfl zq_in_18_48 zd_MO_rewrite_95 ?_
  refine zi_sipush (pc := 96) h zd_MO_rewrite_96 zq_si_255 ?_
  refine zi_iand (pc := 99) h zd_MO_rewrite_99 ?_
  refine zi_iconst (pc := 100) h zd_MO_rewrite_100 zq_ic_1 ?_
  refine zi_icmp_ne_f (pc := 101) h (tgt := 108) zd_MO_rewrite_101 rfl hk ?_
  refine zi_iconst (pc := 104) h zd_MO_rewrite_104 zq_ic_1 ?_
  refine zi_goto (pc := 105) h (tgt := 109) zd_MO_rewrite_105 rfl ?_
  refine zi_istore (pc := 109) h (i := 6) (L' := [(6, _), (5, _), (4, _), (3, _), (0, _), (1, _), (2, _)]) zd_MO_rewrite_109 (by decide) rfl ?_
  refine zi_aload_n (pc := 111) h (i := 0) zd_MO_rewrite_111 rfl 4 rfl ?_
  refine zi_iload_n (pc := 112) h (i := 1) zd_MO_rewrite_112 rfl 5 rfl ?_
  refine zi_if_eq_t (pc := 113) h (tgt := 121) zd_MO_rewrite_113 rfl (by decide) ?_
  refine zi_bipush (pc := 121) h zd_MO_rewrite_121 zq_bi_20 ?_
  refine zi_iload (pc := 123) h (i := 6) zd_MO_rewrite_123 0 rfl ?_
  refine zi_if_eq_f (pc := 125) h (tgt := 133) zd_MO_rewrite_125 rfl (by decide) ?_
  refine zi_bipush (pc := 128) h zd_MO_rewrite_128 zq_bi_26 ?_
  refine zi_goto (pc := 130) h (tgt := 144) zd_MO_rewrite_130 rfl ?_
  refine zi_iload (pc := 144) h (i := 4) zd_MO_rewrite_144 2 rfl ?_
  refine zi_iload (pc := 146) h (i := 5) zd_MO_rewrite_146 1 rfl ?_
  refine zi_callVv (pc := 148) h (st := []) hM2 zm_MO_changeOther zw_733 zx_MO zq_k26 rfl ⟨by decide, by decide⟩ zd_MO_rewrite_148 (Nat.le_of_ble_eq_true rfl) rfl ?_
  refine zi_goto (pc := 151) h (tgt := 182) zd_MO_rewrite_151 rfl ?_
  refine zi_aload_n (pc := 182) h (i := 0) zd_MO_rewrite_182 rfl 4 rfl ?_
  refine zi_iload_n (pc := 183) h (i := 3) zd_MO_rewrite_183 rfl 3 rfl ?_
  refine zi_callVv (pc := 184) h (st := []) hM3 zm_MO_writeSums zw_740 zx_MO zq_k26 rfl ⟨by decide, by decide⟩ zd_MO_rewrite_184 (Nat.le_of_ble_eq_true rfl) rfl ?_
  exact zi_vreturn (pc := 187) h hr zd_MO_rewrite_187 rfl rfl

set_option maxRecDepth 20000 in
theorem zc_MO_rw_0e0 {l : Launch} {G : zz_G} {F : Nat → va_E} {w : Nat → Int32} {sz : Int32} {la : Nat → Int32} {lz : Int32} {ra : Nat → Nat → Int32} {fn : Int32} {fa : Nat → Nat → Int32} {cd : Int32} {i : Nat} {w3 w4 : Nat → Int32} (hi : i < 12) (he : ¬ zv_err (zv_w2i w (fa 1 i)) = 0) (hk : ¬ (zv_w2i w (fa 1 i)) 18 &&& 255 = 1) (hM2 : zz_M l zy_MO_changeOther zb_MO_changeOther 11 none 1 22 G [.ref (G.2.2 26), .int 20, .int 24, .int (fa 1 i), .int (fa 2 i)] (zz_N G F (zv_w2i w (fa 1 i)) sz la lz ra fn fa cd) none (zz_N G F w3 sz la lz ra fn fa cd)) (hM3 : zz_M l zy_MO_writeSums zb_MO_writeSums 4 none 2 46 G [.ref (G.2.2 26), .int (w 4 &&& 255)] (zz_N G F w3 sz la lz ra fn fa cd) none (zz_N G F w4 sz la lz ra fn fa cd)) : zz_M l zy_MO_rewrite zb_MO_rewrite 7 none 3 69 G [.ref (G.2.2 26), .int 0, .int (nI i)] (zz_N G F w sz la lz ra fn fa cd) none (zz_N G F w4 sz la lz ra fn fa cd) := by
  refine zz_M.of (by decide) (Nat.le_of_ble_eq_true rfl) ?_
  intro X hX h hr
  subst hX
  have h : zz_C X G (zz_A G.2.2) 7 zb_MO_rewrite "PortTranslatorModel" 3 69 0 0 := h
  refine zi_aload_n (pc := 0) h (i := 0) zd_MO_rewrite_0 rfl 0 rfl ?_
  refine zi_get (pc := 1) h zx_MO 26 0 zq_k26 rfl zq_j_0_18 zw_584 rfl zd_MO_rewrite_1 ?_
  refine zi_iconst (pc := 4) h zd_MO_rewrite_4 zq_ic_4 ?_
  refine zi_iald (pc := 5) h 27 zq_k27 rfl zq_in_4_48 zd_MO_rewrite_5 ?_
  refine zi_sipush (pc := 6) h zd_MO_rewrite_6 zq_si_255 ?_
  refine zi_iand (pc := 9) h zd_MO_rewrite_9 ?_
  refine zi_istore_n (pc := 10) h (i := 3) (L' := [(3, _), (0, _), (1, _), (2, _)]) zd_MO_rewrite_10 rfl (by decide) rfl ?_
  refine zi_iload_n (pc := 11) h (i := 1) zd_MO_rewrite_11 rfl 2 rfl ?_
  refine zi_if_eq_t (pc := 12) h (tgt := 20) zd_MO_rewrite_12 rfl (by decide) ?_
  refine zi_aload_n (pc := 20) h (i := 0) zd_MO_rewrite_20 rfl 1 rfl ?_
  refine zi_get (pc := 21) h zx_MO 26 10 zq_k26 rfl zq_j_10_18 zw_594 rfl zd_MO_rewrite_21 ?_
  refine zi_iload_n (pc := 24) h (i := 2) zd_MO_rewrite_24 rfl 3 rfl ?_
  refine zi_iald (pc := 25) h 34 zq_k34 rfl (zz_ixN (j := i) (by omega)) zd_MO_rewrite_25 ?_
  refine zi_istore (pc := 26) h (i := 4) (L' := [(4, _), (3, _), (0, _), (1, _), (2, _)]) zd_MO_rewrite_26 (by decide) rfl ?_
  refine zi_iload_n (pc := 28) h (i := 1) zd_MO_rewrite_28 rfl 3 rfl ?_
  refine zi_if_eq_t (pc := 29) h (tgt := 41) zd_MO_rewrite_29 rfl (by decide) ?_
  refine zi_aload_n (pc := 41) h (i := 0) zd_MO_rewrite_41 rfl 2 rfl ?_
  refine zi_get (pc := 42) h zx_MO 26 11 zq_k26 rfl zq_j_11_18 zw_595 rfl zd_MO_rewrite_42 ?_
  refine zi_iload_n (pc := 45) h (i := 2) zd_MO_rewrite_45 rfl 4 rfl ?_
  refine zi_iald (pc := 46) h 35 zq_k35 rfl (zz_ixN (j := i) (by omega)) zd_MO_rewrite_46 ?_
  refine zi_istore (pc := 47) h (i := 5) (L' := [(5, _), (4, _), (3, _), (0, _), (1, _), (2, _)]) zd_MO_rewrite_47 (by decide) rfl ?_
  refine zi_aload_n (pc := 49) h (i := 0) zd_MO_rewrite_49 rfl 3 rfl ?_
  refine zi_get (pc := 50) h zx_MO 26 0 zq_k26 rfl zq_j_0_18 zw_584 rfl zd_MO_rewrite_50 ?_
  refine zi_iconst (pc := 53) h zd_MO_rewrite_53 zq_ic_4 ?_
  refine zi_aload_n (pc := 54) h (i := 0) zd_MO_rewrite_54 rfl 3 rfl ?_
  refine zi_get (pc := 55) h zx_MO 26 0 zq_k26 rfl zq_j_0_18 zw_584 rfl zd_MO_rewrite_55 ?_
  refine zi_iconst (pc := 58) h zd_MO_rewrite_58 zq_ic_4 ?_
  refine zi_iald (pc := 59) h 27 zq_k27 rfl zq_in_4_48 zd_MO_rewrite_59 ?_
  refine zi_sipush (pc := 60) h zd_MO_rewrite_60 zq_si_256 ?_
  refine zi_isub (pc := 63) h zd_MO_rewrite_63 ?_
  refine zi_iast (pc := 64) h 27 zq_k27 rfl zq_in_4_48 zd_MO_rewrite_64 zn_u_w ?_
  refine zi_aload_n (pc := 65) h (i := 0) zd_MO_rewrite_65 rfl 3 rfl ?_
  refine zi_iload_n (pc := 66) h (i := 1) zd_MO_rewrite_66 rfl 4 rfl ?_
  refine zi_if_eq_t (pc := 67) h (tgt := 75) zd_MO_rewrite_67 rfl (by decide) ?_
  refine zi_bipush (pc := 75) h zd_MO_rewrite_75 zq_bi_8 ?_
  refine zi_iload (pc := 77) h (i := 4) zd_MO_rewrite_77 1 rfl ?_
  refine zi_callVv (pc := 79) h (st := []) (zc_MO_setAddress (a := 8) (b := 9) zq_in_8_48 ⟨by decide, by decide, by decide⟩) zm_MO_setAddress zw_729 zx_MO zq_k26 rfl ⟨by decide, by decide⟩ zd_MO_rewrite_79 (Nat.le_of_ble_eq_true rfl) rfl ?_
  refine zi_eqF (F' := (zz_N G F (zv_w2i w (fa 1 i)) sz la lz ra fn fa cd)) rfl ?_
  refine zi_aload_n (pc := 82) h (i := 0) zd_MO_rewrite_82 rfl 3 rfl ?_
  refine zi_callV (pc := 83) h (st := []) (zc_MO_isError) zm_MO_isError zw_682 zx_MO zq_k26 rfl ⟨by decide, by decide⟩ zd_MO_rewrite_83 (Nat.le_of_ble_eq_true rfl) rfl ?_
  refine zi_if_eq_f (pc := 86) h (tgt := 154) zd_MO_rewrite_86 rfl he ?_
  refine zi_aload_n (pc := 89) h (i := 0) zd_MO_rewrite_89 rfl 3 rfl ?_
  refine zi_get (pc := 90) h zx_MO 26 0 zq_k26 rfl zq_j_0_18 zw_584 rfl zd_MO_rewrite_90 ?_
  refine zi_bipush (pc := 93) h zd_MO_rewrite_93 zq_bi_18 ?_
  refine zi_iald (pc := 95) h 27 zq_k27 rfl zq_in_18_48 zd_MO_rewrite_95 ?_
  refine zi_sipush (pc := 96) h zd_MO_rewrite_96 zq_si_255 ?_
  refine zi_iand (pc := 99) h zd_MO_rewrite_99 ?_
  refine zi_iconst (pc := 100) h zd_MO_rewrite_100 zq_ic_1 ?_
  refine zi_icmp_ne_t (pc := 101) h (tgt := 108) zd_MO_rewrite_101 rfl hk ?_
  refine zi_iconst (pc := 108) h zd_MO_rewrite_108 zq_ic_0 ?_
  refine zi_istore (pc := 109) h (i := 6) (L' := [(6, _), (5, _), (4, _), (3, _), (0, _), (1, _), (2, _)]) zd_MO_rewrite_109 (by decide) rfl ?_
  refine zi_aload_n (pc := 111) h (i := 0) zd_MO_rewrite_111 rfl 4 rfl ?_
  refine zi_iload_n (pc := 112) h (i := 1) zd_MO_rewrite_112 rfl 5 rfl ?_
  refine zi_if_eq_t (pc := 113) h (tgt := 121) zd_MO_rewrite_113 rfl (by decide) ?_
  refine zi_bipush (pc := 121) h zd_MO_rewrite_121 zq_bi_20 ?_
  refine zi_iload (pc := 123) h (i := 6) zd_MO_rewrite_123 0 rfl ?_
  refine zi_if_eq_t (pc := 125) h (tgt := 133) zd_MO_rewrite_125 rfl (by decide) ?_
  refine zi_iload_n (pc := 133) h (i := 1) zd_MO_rewrite_133 rfl 5 rfl ?_
  refine zi_if_eq_t (pc := 134) h (tgt := 142) zd_MO_rewrite_134 rfl (by decide) ?_
  refine zi_bipush (pc := 142) h zd_MO_rewrite_142 zq_bi_24 ?_
  refine zi_iload (pc := 144) h (i := 4) zd_MO_rewrite_144 2 rfl ?_
  refine zi_iload (pc := 146) h (i := 5) zd_MO_rewrite_146 1 rfl ?_
  refine zi_callVv (pc := 148) h (st := []) hM2 zm_MO_changeOther zw_733 zx_MO zq_k26 rfl ⟨by decide, by decide⟩ zd_MO_rewrite_148 (Nat.le_of_ble_eq_true rfl) rfl ?_
  refine zi_goto (pc := 151) h (tgt := 182) zd_MO_rewrite_151 rfl ?_
  refine zi_aload_n (pc := 182) h (i := 0) zd_MO_rewrite_182 rfl 4 rfl ?_
  refine zi_iload_n (pc := 183) h (i := 3) zd_MO_rewrite_183 rfl 3 rfl ?_
  refine zi_callVv (pc := 184) h (st := []) hM3 zm_MO_writeSums zw_740 zx_MO zq_k26 rfl ⟨by decide, by decide⟩ zd_MO_rewrite_184 (Nat.le_of_ble_eq_true rfl) rfl ?_
  exact zi_vreturn (pc := 187) h hr zd_MO_rewrite_187 rfl rfl

set_option maxRecDepth 20000 in
theorem zc_MO_rw_0n1 {l : Launch} {G : zz_G} {F : Nat → va_E} {w : Nat → Int32} {sz : Int32} {la : Nat → Int32} {lz : Int32} {ra : Nat → Nat → Int32} {fn : Int32} {fa : Nat → Nat → Int32} {cd : Int32} {i : Nat} {w4 : Nat → Int32} (hi : i < 12) (he : zv_err (zv_w2i w (fa 1 i)) = 0) (hk : w 4 &&& 255 = 1) (hM3 : zz_M l zy_MO_writeSums zb_MO_writeSums 4 none 2 46 G [.ref (G.2.2 26), .int (w 4 &&& 255)] (zz_N G F (upd (zv_w2i w (fa 1 i)) 12 (fa 2 i)) sz la lz ra fn fa cd) none (zz_N G F w4 sz la lz ra fn fa cd)) : zz_M l zy_MO_rewrite zb_MO_rewrite 7 none 3 69 G [.ref (G.2.2 26), .int 0, .int (nI i)] (zz_N G F w sz la lz ra fn fa cd) none (zz_N G F w4 sz la lz ra fn fa cd) := by
  refine zz_M.of (by decide) (Nat.le_of_ble_eq_true rfl) ?_
  intro X hX h hr
  subst hX
  have h : zz_C X G (zz_A G.2.2) 7 zb_MO_rewrite "PortTranslatorModel" 3 69 0 0 := h
  refine zi_aload_n (pc := 0) h (i := 0) zd_MO_rewrite_0 rfl 0 rfl ?_
  refine zi_get (pc := 1) h zx_MO 26 0 zq_k26 rfl zq_j_0_18 zw_584 rfl zd_MO_rewrite_1 ?_
  refine zi_iconst (pc := 4) h zd_MO_rewrite_4 zq_ic_4 ?_
  refine zi_iald (pc := 5) h 27 zq_k27 rfl zq_in_4_48 zd_MO_rewrite_5 ?_
  refine zi_sipush (pc := 6) h zd_MO_rewrite_6 zq_si_255 ?_
  refine zi_iand (pc := 9) h zd_MO_rewrite_9 ?_
  refine zi_istore_n (pc := 10) h (i := 3) (L' := [(3, _), (0, _), (1, _), (2, _)]) zd_MO_rewrite_10 rfl (by decide) rfl ?_
  refine zi_iload_n (pc := 11) h (i := 1) zd_MO_rewrite_11 rfl 2 rfl ?_
  refine zi_if_eq_t (pc := 12) h (tgt := 20) zd_MO_rewrite_12 rfl (by decide) ?_
  refine zi_aload_n (pc := 20) h (i := 0) zd_MO_rewrite_20 rfl 1 rfl ?_
  refine zi_get (pc := 21) h zx_MO 26 10 zq_k26 rfl zq_j_10_18 zw_594 rfl zd_MO_rewrite_21 ?_
  refine zi_iload_n (pc := 24) h (i := 2) zd_MO_rewrite_24 rfl 3 rfl ?_
  refine zi_iald (pc := 25) h 34 zq_k34 rfl (zz_ixN (j := i) (by omega)) zd_MO_rewrite_25 ?_
  refine zi_istore (pc := 26) h (i := 4) (L' := [(4, _), (3, _), (0, _), (1, _), (2, _)]) zd_MO_rewrite_26 (by decide) rfl ?_
  refine zi_iload_n (pc := 28) h (i := 1) zd_MO_rewrite_28 rfl 3 rfl ?_
  refine zi_if_eq_t (pc := 29) h (tgt := 41) zd_MO_rewrite_29 rfl (by decide) ?_
  refine zi_aload_n (pc := 41) h (i := 0) zd_MO_rewrite_41 rfl 2 rfl ?_
  refine zi_get (pc := 42) h zx_MO 26 11 zq_k26 rfl zq_j_11_18 zw_595 rfl zd_MO_rewrite_42 ?_
  refine zi_iload_n (pc := 45) h (i := 2) zd_MO_rewrite_45 rfl 4 rfl ?_
  refine zi_iald (pc := 46) h 35 zq_k35 rfl (zz_ixN (j := i) (by omega)) zd_MO_rewrite_46 ?_
  refine zi_istore (pc := 47) h (i := 5) (L' := [(5, _), (4, _), (3, _), (0, _), (1, _), (2, _)]) zd_MO_rewrite_47 (by decide) rfl ?_
  refine zi_aload_n (pc := 49) h (i := 0) zd_MO_rewrite_49 rfl 3 rfl ?_
  refine zi_get (pc := 50) h zx_MO 26 0 zq_k26 rfl zq_j_0_18 zw_584 rfl zd_MO_rewrite_50 ?_
  refine zi_iconst (pc := 53) h zd_MO_rewrite_53 zq_ic_4 ?_
  refine zi_aload_n (pc := 54) h (i := 0) zd_MO_rewrite_54 rfl 3 rfl ?_
  refine zi_get (pc := 55) h zx_MO 26 0 zq_k26 rfl zq_j_0_18 zw_584 rfl zd_MO_rewrite_55 ?_
  refine zi_iconst (pc := 58) h zd_MO_rewrite_58 zq_ic_4 ?_
  refine zi_iald (pc := 59) h 27 zq_k27 rfl zq_in_4_48 zd_MO_rewrite_59 ?_
  refine zi_sipush (pc := 60) h zd_MO_rewrite_60 zq_si_256 ?_
  refine zi_isub (pc := 63) h zd_MO_rewrite_63 ?_
  refine zi_iast (pc := 64) h 27 zq_k27 rfl zq_in_4_48 zd_MO_rewrite_64 zn_u_w ?_
  refine zi_aload_n (pc := 65) h (i := 0) zd_MO_rewrite_65 rfl 3 rfl ?_
  refine zi_iload_n (pc := 66) h (i := 1) zd_MO_rewrite_66 rfl 4 rfl ?_
  refine zi_if_eq_t (pc := 67) h (tgt := 75) zd_MO_rewrite_67 rfl (by decide) ?_
  refine zi_bipush (pc := 75) h zd_MO_rewrite_75 zq_bi_8 ?_
  refine zi_iload (pc := 77) h (i := 4) zd_MO_rewrite_77 1 rfl ?_
  refine zi_callVv (pc := 79) h (st := []) (zc_MO_setAddress (a := 8) (b := 9) zq_in_8_48 ⟨by decide, by decide, by decide⟩) zm_MO_setAddress zw_729 zx_MO zq_k26 rfl ⟨by decide, by decide⟩ zd_MO_rewrite_79 (Nat.le_of_ble_eq_true rfl) rfl ?_
  refine zi_eqF (F' := (zz_N G F (zv_w2i w (fa 1 i)) sz la lz ra fn fa cd)) rfl ?_
  refine zi_aload_n (pc := 82) h (i := 0) zd_MO_rewrite_82 rfl 3 rfl ?_
  refine zi_callV (pc := 83) h (st := []) (zc_MO_isError) zm_MO_isError zw_682 zx_MO zq_k26 rfl ⟨by decide, by decide⟩ zd_MO_rewrite_83 (Nat.le_of_ble_eq_true rfl) rfl ?_
  refine zi_if_eq_t (pc := 86) h (tgt := 154) zd_MO_rewrite_86 rfl he ?_
  refine zi_aload_n (pc := 154) h (i := 0) zd_MO_rewrite_154 rfl 3 rfl ?_
  refine zi_get (pc := 155) h zx_MO 26 0 zq_k26 rfl zq_j_0_18 zw_584 rfl zd_MO_rewrite_155 ?_
  refine zi_iload_n (pc := 158) h (i := 3) zd_MO_rewrite_158 rfl 2 rfl ?_
  refine zi_iconst (pc := 159) h zd_MO_rewrite_159 zq_ic_1 ?_
  refine zi_icmp_ne_f (pc := 160) h (tgt := 168) zd_MO_rewrite_160 rfl hk ?_
  refine zi_bipush (pc := 163) h zd_MO_rewrite_163 zq_bi_12 ?_
  refine zi_goto (pc := 165) h (tgt := 179) zd_MO_rewrite_165 rfl ?_
  refine zi_iload (pc := 179) h (i := 5) zd_MO_rewrite_179 0 rfl ?_
  refine zi_iast (pc := 181) h 27 zq_k27 rfl zq_in_12_48 zd_MO_rewrite_181 zn_u_w ?_
  refine zi_aload_n (pc := 182) h (i := 0) zd_MO_rewrite_182 rfl 3 rfl ?_
  refine zi_iload_n (pc := 183) h (i := 3) zd_MO_rewrite_183 rfl 2 rfl ?_
  refine zi_callVv (pc := 184) h (st := []) hM3 zm_MO_writeSums zw_740 zx_MO zq_k26 rfl ⟨by decide, by decide⟩ zd_MO_rewrite_184 (Nat.le_of_ble_eq_true rfl) rfl ?_
  exact zi_vreturn (pc := 187) h hr zd_MO_rewrite_187 rfl rfl

set_option maxRecDepth 20000 in
theorem zc_MO_rw_0n0 {l : Launch} {G : zz_G} {F : Nat → va_E} {w : Nat → Int32} {sz : Int32} {la : Nat → Int32} {lz : Int32} {ra : Nat → Nat → Int32} {fn : Int32} {fa : Nat → Nat → Int32} {cd : Int32} {i : Nat} {w4 : Nat → Int32} (hi : i < 12) (he : zv_err (zv_w2i w (fa 1 i)) = 0) (hk : ¬ w 4 &&& 255 = 1) (hM3 : zz_M l zy_MO_writeSums zb_MO_writeSums 4 none 2 46 G [.ref (G.2.2 26), .int (w 4 &&& 255)] (zz_N G F (upd (zv_w2i w (fa 1 i)) 11 (fa 2 i)) sz la lz ra fn fa cd) none (zz_N G F w4 sz la lz ra fn fa cd)) : zz_M l zy_MO_rewrite zb_MO_rewrite 7 none 3 69 G [.ref (G.2.2 26), .int 0, .int (nI i)] (zz_N G F w sz la lz ra fn fa cd) none (zz_N G F w4 sz la lz ra fn fa cd) := by
  refine zz_M.of (by decide) (Nat.le_of_ble_eq_true rfl) ?_
  intro X hX h hr
  subst hX
  have h : zz_C X G (zz_A G.2.2) 7 zb_MO_rewrite "PortTranslatorModel" 3 69 0 0 := h
  refine zi_aload_n (pc := 0) h (i := 0) zd_MO_rewrite_0 rfl 0 rfl ?_
  refine zi_get (pc := 1) h zx_MO 26 0 zq_k26 rfl zq_j_0_18 zw_584 rfl zd_MO_rewrite_1 ?_
  refine zi_iconst (pc := 4) h zd_MO_rewrite_4 zq_ic_4 ?_
  refine zi_iald (pc := 5) h 27 zq_k27 rfl zq_in_4_48 zd_MO_rewrite_5 ?_
  refine zi_sipush (pc := 6) h zd_MO_rewrite_6 zq_si_255 ?_
  refine zi_iand (pc := 9) h zd_MO_rewrite_9 ?_
  refine zi_istore_n (pc := 10) h (i := 3) (L' := [(3, _), (0, _), (1, _), (2, _)]) zd_MO_rewrite_10 rfl (by decide) rfl ?_
  refine zi_iload_n (pc := 11) h (i := 1) zd_MO_rewrite_11 rfl 2 rfl ?_
  refine zi_if_eq_t (pc := 12) h (tgt := 20) zd_MO_rewrite_12 rfl (by decide) ?_
  refine zi_aload_n (pc := 20) h (i := 0) zd_MO_rewrite_20 rfl 1 rfl ?_
  refine zi_get (pc := 21) h zx_MO 26 10 zq_k26 rfl zq_j_10_18 zw_594 rfl zd_MO_rewrite_21 ?_
  refine zi_iload_n (pc := 24) h (i := 2) zd_MO_rewrite_24 rfl 3 rfl ?_
  refine zi_iald (pc := 25) h 34 zq_k34 rfl (zz_ixN (j := i) (by omega)) zd_MO_rewrite_25 ?_
  refine zi_istore (pc := 26) h (i := 4) (L' := [(4, _), (3, _), (0, _), (1, _), (2, _)]) zd_MO_rewrite_26 (by decide) rfl ?_
  refine zi_iload_n (pc := 28) h (i := 1) zd_MO_rewrite_28 rfl 3 rfl ?_
  refine zi_if_eq_t (pc := 29) h (tgt := 41) zd_MO_rewrite_29 rfl (by decide) ?_
  refine zi_aload_n (pc := 41) h (i := 0) zd_MO_rewrite_41 rfl 2 rfl ?_
  refine zi_get (pc := 42) h zx_MO 26 11 zq_k26 rfl zq_j_11_18 zw_595 rfl zd_MO_rewrite_42 ?_
  refine zi_iload_n (pc := 45) h (i := 2) zd_MO_rewrite_45 rfl 4 rfl ?_
  refine zi_iald (pc := 46) h 35 zq_k35 rfl (zz_ixN (j := i) (by omega)) zd_MO_rewrite_46 ?_
  refine zi_istore (pc := 47) h (i := 5) (L' := [(5, _), (4, _), (3, _), (0, _), (1, _), (2, _)]) zd_MO_rewrite_47 (by decide) rfl ?_
  refine zi_aload_n (pc := 49) h (i := 0) zd_MO_rewrite_49 rfl 3 rfl ?_
  refine zi_get (pc := 50) h zx_MO 26 0 zq_k26 rfl zq_j_0_18 zw_584 rfl zd_MO_rewrite_50 ?_
  refine zi_iconst (pc := 53) h zd_MO_rewrite_53 zq_ic_4 ?_
  refine zi_aload_n (pc := 54) h (i := 0) zd_MO_rewrite_54 rfl 3 rfl ?_
  refine zi_get (pc := 55) h zx_MO 26 0 zq_k26 rfl zq_j_0_18 zw_584 rfl zd_MO_rewrite_55 ?_
  refine zi_iconst (pc := 58) h zd_MO_rewrite_58 zq_ic_4 ?_
  refine zi_iald (pc := 59) h 27 zq_k27 rfl zq_in_4_48 zd_MO_rewrite_59 ?_
  refine zi_sipush (pc := 60) h zd_MO_rewrite_60 zq_si_256 ?_
  refine zi_isub (pc := 63) h zd_MO_rewrite_63 ?_
  refine zi_iast (pc := 64) h 27 zq_k27 rfl zq_in_4_48 zd_MO_rewrite_64 zn_u_w ?_
  refine zi_aload_n (pc := 65) h (i := 0) zd_MO_rewrite_65 rfl 3 rfl ?_
  refine zi_iload_n (pc := 66) h (i := 1) zd_MO_rewrite_66 rfl 4 rfl ?_
  refine zi_if_eq_t (pc := 67) h (tgt := 75) zd_MO_rewrite_67 rfl (by decide) ?_
  refine zi_bipush (pc := 75) h zd_MO_rewrite_75 zq_bi_8 ?_
  refine zi_iload (pc := 77) h (i := 4) zd_MO_rewrite_77 1 rfl ?_
  refine zi_callVv (pc := 79) h (st := []) (zc_MO_setAddress (a := 8) (b := 9) zq_in_8_48 ⟨by decide, by decide, by decide⟩) zm_MO_setAddress zw_729 zx_MO zq_k26 rfl ⟨by decide, by decide⟩ zd_MO_rewrite_79 (Nat.le_of_ble_eq_true rfl) rfl ?_
  refine zi_eqF (F' := (zz_N G F (zv_w2i w (fa 1 i)) sz la lz ra fn fa cd)) rfl ?_
  refine zi_aload_n (pc := 82) h (i := 0) zd_MO_rewrite_82 rfl 3 rfl ?_
  refine zi_callV (pc := 83) h (st := []) (zc_MO_isError) zm_MO_isError zw_682 zx_MO zq_k26 rfl ⟨by decide, by decide⟩ zd_MO_rewrite_83 (Nat.le_of_ble_eq_true rfl) rfl ?_
  refine zi_if_eq_t (pc := 86) h (tgt := 154) zd_MO_rewrite_86 rfl he ?_
  refine zi_aload_n (pc := 154) h (i := 0) zd_MO_rewrite_154 rfl 3 rfl ?_
  refine zi_get (pc := 155) h zx_MO 26 0 zq_k26 rfl zq_j_0_18 zw_584 rfl zd_MO_rewrite_155 ?_
  refine zi_iload_n (pc := 158) h (i := 3) zd_MO_rewrite_158 rfl 2 rfl ?_
  refine zi_iconst (pc := 159) h zd_MO_rewrite_159 zq_ic_1 ?_
  refine zi_icmp_ne_t (pc := 160) h (tgt := 168) zd_MO_rewrite_160 rfl hk ?_
  refine zi_iload_n (pc := 168) h (i := 1) zd_MO_rewrite_168 rfl 4 rfl ?_
  refine zi_if_eq_t (pc := 169) h (tgt := 177) zd_MO_rewrite_169 rfl (by decide) ?_
  refine zi_bipush (pc := 177) h zd_MO_rewrite_177 zq_bi_11 ?_
  refine zi_iload (pc := 179) h (i := 5) zd_MO_rewrite_179 0 rfl ?_
  refine zi_iast (pc := 181) h 27 zq_k27 rfl zq_in_11_48 zd_MO_rewrite_181 zn_u_w ?_
  refine zi_aload_n (pc := 182) h (i := 0) zd_MO_rewrite_182 rfl 3 rfl ?_
  refine zi_iload_n (pc := 183) h (i := 3) zd_MO_rewrite_183 rfl 2 rfl ?_
  refine zi_callVv (pc := 184) h (st := []) hM3 zm_MO_writeSums zw_740 zx_MO zq_k26 rfl ⟨by decide, by decide⟩ zd_MO_rewrite_184 (Nat.le_of_ble_eq_true rfl) rfl ?_
  exact zi_vreturn (pc := 187) h hr zd_MO_rewrite_187 rfl rfl

set_option maxRecDepth 20000 in
theorem zl_MO_route {X : zz_X} {r : Option Value} {F' : Nat → va_E} {G : zz_G} {F : Nat → va_E} {w : Nat → Int32} {lz : Int32} {ra : Nat → Nat → Int32} {fn : Int32} {fa : Nat → Nat → Int32} {cd : Int32} {n : Nat} {x y z : Int32} (hn : n ≤ 48) (h : zz_C X G (zz_A G.2.2) 5 zb_MO_route "PortTranslatorModel" 4 95 0 0) : ∀ (m i : Nat) (la : Nat → Int32), i + m = n → (zz_W X G (zz_A G.2.2) 5 0 0 (zz_E X G r F') (zz_N G F w (nI n) (zv_cp w la i m) lz ra fn fa cd) 99 [(4, .int (nI n)), (2, .int y), (3, .int x), (0, .ref (G.2.2 26)), (1, .int z)] []) → zz_W X G (zz_A G.2.2) 5 0 0 (zz_E X G r F') (zz_N G F w (nI n) la lz ra fn fa cd) 70 [(4, .int (nI i)), (2, .int y), (3, .int x), (0, .ref (G.2.2 26)), (1, .int z)] [] := by
  intro m
  induction m with
  | zero =>
    intro i la hi kk
    obtain rfl : i = n := hi
    refine zi_iload (pc := 70) h (i := 4) zd_MO_route_70 0 rfl ?_
    refine zi_aload_n (pc := 72) h (i := 0) zd_MO_route_72 rfl 3 rfl ?_
    refine zi_get (pc := 73) h zx_MO 26 1 zq_k26 rfl zq_j_1_18 zw_585 rfl zd_MO_route_73 ?_
    refine zi_icmp_ge_t (pc := 76) h (tgt := 99) zd_MO_route_76 rfl (nI_le (by omega) (by omega)) ?_
    exact kk
  | succ m ih =>
    intro i la hi kk
    refine zi_iload (pc := 70) h (i := 4) zd_MO_route_70 0 rfl ?_
    refine zi_aload_n (pc := 72) h (i := 0) zd_MO_route_72 rfl 3 rfl ?_
    refine zi_get (pc := 73) h zx_MO 26 1 zq_k26 rfl zq_j_1_18 zw_585 rfl zd_MO_route_73 ?_
    refine zi_icmp_ge_f (pc := 76) h (tgt := 99) zd_MO_route_76 rfl (nI_ge (by omega) (by omega)) ?_
    refine zi_aload_n (pc := 79) h (i := 0) zd_MO_route_79 rfl 3 rfl ?_
    refine zi_get (pc := 80) h zx_MO 26 2 zq_k26 rfl zq_j_2_18 zw_586 rfl zd_MO_route_80 ?_
    refine zi_iload (pc := 83) h (i := 4) zd_MO_route_83 0 rfl ?_
    refine zi_aload_n (pc := 85) h (i := 0) zd_MO_route_85 rfl 3 rfl ?_
    refine zi_get (pc := 86) h zx_MO 26 0 zq_k26 rfl zq_j_0_18 zw_584 rfl zd_MO_route_86 ?_
    refine zi_iload (pc := 89) h (i := 4) zd_MO_route_89 0 rfl ?_
    refine zi_iald (pc := 91) h 27 zq_k27 rfl (zz_ixN (j := i) (by omega)) zd_MO_route_91 ?_
    refine zi_iast (pc := 92) h 28 zq_k28 rfl (zz_ixN (j := i) (by omega)) zd_MO_route_92 zn_u_la ?_
    refine zi_iinc (pc := 93) h (i := 4) (L' := [(4, _), (2, _), (3, _), (0, _), (1, _)]) zd_MO_route_93 0 rfl (zq_incN i) (by decide) rfl ?_
    refine zi_goto (pc := 96) h (tgt := 70) zd_MO_route_96 rfl ?_
    exact ih (i + 1) _ (by omega) kk

set_option maxRecDepth 20000 in
theorem zc_MO_route_m {l : Launch} {G : zz_G} {F : Nat → va_E} {w : Nat → Int32} {la : Nat → Int32} {lz : Int32} {ra : Nat → Nat → Int32} {fn : Int32} {fa : Nat → Nat → Int32} {cd : Int32} {n : Nat} {z : Int32} (hn : n ≤ 48) (hf0 : ¬ zs_tot w 0 10 0 < 0) (hf1 : 10 ≤ n → ¬ zv_bt w n (w 4 &&& 255) < 0) (hw : zv_wl w n = 0) : zz_M l zy_MO_route zb_MO_route 5 (some .int) 4 95 G [.ref (G.2.2 26), .int z] (zz_N G F w (nI n) la lz ra fn fa cd) (some (.int 1)) (zz_N G F w 0 la lz ra fn fa 0) := by
  refine zz_M.of (by decide) (Nat.le_of_ble_eq_true rfl) ?_
  intro X hX h hr
  subst hX
  have h : zz_C X G (zz_A G.2.2) 5 zb_MO_route "PortTranslatorModel" 4 95 0 0 := h
  refine zi_aload_n (pc := 0) h (i := 0) zd_MO_route_0 rfl 0 rfl ?_
  refine zi_iconst (pc := 1) h zd_MO_route_1 zq_ic_0 ?_
  refine zi_put (pc := 2) h zx_MO 26 17 zq_k26 rfl zq_j_17_18 zw_601 rfl rfl rfl (Nat.le_of_ble_eq_true rfl) zd_MO_route_2 zn_u_cd ?_
  refine zi_aload_n (pc := 5) h (i := 0) zd_MO_route_5 rfl 0 rfl ?_
  refine zi_callV (pc := 6) h (st := []) (zc_MO_well hn hf0 hf1) zm_MO_well zw_657 zx_MO zq_k26 rfl ⟨by decide, by decide⟩ zd_MO_route_6 (Nat.le_of_ble_eq_true rfl) rfl ?_
  refine zi_if_ne_f (pc := 9) h (tgt := 16) zd_MO_route_9 rfl hw ?_
  refine zi_iconst (pc := 12) h zd_MO_route_12 zq_ic_1 ?_
  refine zi_goto (pc := 13) h (tgt := 35) zd_MO_route_13 rfl ?_
  refine zi_istore_n (pc := 35) h (i := 2) (L' := [(2, _), (0, _), (1, _)]) zd_MO_route_35 rfl (by decide) rfl ?_
  refine zi_iload_n (pc := 36) h (i := 2) zd_MO_route_36 rfl 0 rfl ?_
  refine zi_if_ne_t (pc := 37) h (tgt := 120) zd_MO_route_37 rfl (by decide) ?_
  refine zi_aload_n (pc := 120) h (i := 0) zd_MO_route_120 rfl 1 rfl ?_
  refine zi_iconst (pc := 121) h zd_MO_route_121 zq_ic_0 ?_
  refine zi_put (pc := 122) h zx_MO 26 1 zq_k26 rfl zq_j_1_18 zw_585 rfl rfl rfl (Nat.le_of_ble_eq_true rfl) zd_MO_route_122 zn_u_sz ?_
  refine zi_iload_n (pc := 125) h (i := 2) zd_MO_route_125 rfl 0 rfl ?_
  exact zi_ireturn (pc := 126) h hr zd_MO_route_126 rfl rfl

set_option maxRecDepth 20000 in
theorem zc_MO_route_t {l : Launch} {G : zz_G} {F : Nat → va_E} {w : Nat → Int32} {la : Nat → Int32} {lz : Int32} {ra : Nat → Nat → Int32} {fn : Int32} {fa : Nat → Nat → Int32} {cd : Int32} {n : Nat} {z : Int32} (hn : n ≤ 48) (hf0 : ¬ zs_tot w 0 10 0 < 0) (hf1 : 10 ≤ n → ¬ zv_bt w n (w 4 &&& 255) < 0) (hw : ¬ zv_wl w n = 0) (ht : ¬ 2 ≤ w 4 / 256) : zz_M l zy_MO_route zb_MO_route 5 (some .int) 4 95 G [.ref (G.2.2 26), .int z] (zz_N G F w (nI n) la lz ra fn fa cd) (some (.int 3)) (zz_N G F w 0 la lz ra fn fa 0) := by
  refine zz_M.of (by decide) (Nat.le_of_ble_eq_true rfl) ?_
  intro X hX h hr
  subst hX
  have h : zz_C X G (zz_A G.2.2) 5 zb_MO_route "PortTranslatorModel" 4 95 0 0 := h
  refine zi_aload_n (pc := 0) h (i := 0) zd_MO_route_0 rfl 0 rfl ?_
  refine zi_iconst (pc := 1) h zd_MO_route_1 zq_ic_0 ?_
  refine zi_put (pc := 2) h zx_MO 26 17 zq_k26 rfl zq_j_17_18 zw_601 rfl rfl rfl (Nat.le_of_ble_eq_true rfl) zd_MO_route_2 zn_u_cd ?_
  refine zi_aload_n (pc := 5) h (i := 0) zd_MO_route_5 rfl 0 rfl ?_
  refine zi_callV (pc := 6) h (st := []) (zc_MO_well hn hf0 hf1) zm_MO_well zw_657 zx_MO zq_k26 rfl ⟨by decide, by decide⟩ zd_MO_route_6 (Nat.le_of_ble_eq_true rfl) rfl ?_
  refine zi_if_ne_t (pc := 9) h (tgt := 16) zd_MO_route_9 rfl hw ?_
  refine zi_aload_n (pc := 16) h (i := 0) zd_MO_route_16 rfl 0 rfl ?_
  refine zi_get (pc := 17) h zx_MO 26 0 zq_k26 rfl zq_j_0_18 zw_584 rfl zd_MO_route_17 ?_
  refine zi_iconst (pc := 20) h zd_MO_route_20 zq_ic_4 ?_
  refine zi_iald (pc := 21) h 27 zq_k27 rfl zq_in_4_48 zd_MO_route_21 ?_
  refine zi_sipush (pc := 22) h zd_MO_route_22 zq_si_256 ?_
  refine zi_idiv (pc := 25) h zd_MO_route_25 (by decide) ?_
  refine zi_iconst (pc := 26) h zd_MO_route_26 zq_ic_2 ?_
  refine zi_icmp_ge_f (pc := 27) h (tgt := 34) zd_MO_route_27 rfl ht ?_
  refine zi_iconst (pc := 30) h zd_MO_route_30 zq_ic_3 ?_
  refine zi_goto (pc := 31) h (tgt := 35) zd_MO_route_31 rfl ?_
  refine zi_istore_n (pc := 35) h (i := 2) (L' := [(2, _), (0, _), (1, _)]) zd_MO_route_35 rfl (by decide) rfl ?_
  refine zi_iload_n (pc := 36) h (i := 2) zd_MO_route_36 rfl 0 rfl ?_
  refine zi_if_ne_t (pc := 37) h (tgt := 120) zd_MO_route_37 rfl (by decide) ?_
  refine zi_aload_n (pc := 120) h (i := 0) zd_MO_route_120 rfl 1 rfl ?_
  refine zi_iconst (pc := 121) h zd_MO_route_121 zq_ic_0 ?_
  refine zi_put (pc := 122) h zx_MO 26 1 zq_k26 rfl zq_j_1_18 zw_585 rfl rfl rfl (Nat.le_of_ble_eq_true rfl) zd_MO_route_122 zn_u_sz ?_
  refine zi_iload_n (pc := 125) h (i := 2) zd_MO_route_125 rfl 0 rfl ?_
  exact zi_ireturn (pc := 126) h hr zd_MO_route_126 rfl rfl

set_option maxRecDepth 20000 in
theorem zc_MO_route_1n {l : Launch} {G : zz_G} {F : Nat → va_E} {w : Nat → Int32} {la : Nat → Int32} {lz : Int32} {ra : Nat → Nat → Int32} {fn : Int32} {fa : Nat → Nat → Int32} {cd : Int32} {n : Nat} {x fn2 : Int32} {fa2 : Nat → Nat → Int32} (hn : n ≤ 48) (hf0 : ¬ zs_tot w 0 10 0 < 0) (hf1 : 10 ≤ n → ¬ zv_bt w n (w 4 &&& 255) < 0) (hw : ¬ zv_wl w n = 0) (ht : 2 ≤ w 4 / 256) (hM1 : zz_M l zy_MO_flowOf zb_MO_flowOf 8 (some .int) 2 54 G [.ref (G.2.2 26), .int 1] (zz_N G F w (nI n) la lz ra fn fa 0) (some (.int x)) (zz_N G F w (nI n) la lz ra fn2 fa2 0)) (hx : ¬ 0 ≤ x) (hx2 : x < 0) : zz_M l zy_MO_route zb_MO_route 5 (some .int) 4 95 G [.ref (G.2.2 26), .int 1] (zz_N G F w (nI n) la lz ra fn fa cd) (some (.int (-x))) (zz_N G F w 0 la lz ra fn2 fa2 0) := by
  refine zz_M.of (by decide) (Nat.le_of_ble_eq_true rfl) ?_
  intro X hX h hr
  subst hX
  have h : zz_C X G (zz_A G.2.2) 5 zb_MO_route "PortTranslatorModel" 4 95 0 0 := h
  refine zi_aload_n (pc := 0) h (i := 0) zd_MO_route_0 rfl 0 rfl ?_
  refine zi_iconst (pc := 1) h zd_MO_route_1 zq_ic_0 ?_
  refine zi_put (pc := 2) h zx_MO 26 17 zq_k26 rfl zq_j_17_18 zw_601 rfl rfl rfl (Nat.le_of_ble_eq_true rfl) zd_MO_route_2 zn_u_cd ?_
  refine zi_aload_n (pc := 5) h (i := 0) zd_MO_route_5 rfl 0 rfl ?_
  refine zi_callV (pc := 6) h (st := []) (zc_MO_well hn hf0 hf1) zm_MO_well zw_657 zx_MO zq_k26 rfl ⟨by decide, by decide⟩ zd_MO_route_6 (Nat.le_of_ble_eq_true rfl) rfl ?_
  refine zi_if_ne_t (pc := 9) h (tgt := 16) zd_MO_route_9 rfl hw ?_
  refine zi_aload_n (pc := 16) h (i := 0) zd_MO_route_16 rfl 0 rfl ?_
  refine zi_get (pc := 17) h zx_MO 26 0 zq_k26 rfl zq_j_0_18 zw_584 rfl zd_MO_route_17 ?_
  refine zi_iconst (pc := 20) h zd_MO_route_20 zq_ic_4 ?_
  refine zi_iald (pc := 21) h 27 zq_k27 rfl zq_in_4_48 zd_MO_route_21 ?_
  refine zi_sipush (pc := 22) h zd_MO_route_22 zq_si_256 ?_
  refine zi_idiv (pc := 25) h zd_MO_route_25 (by decide) ?_
  refine zi_iconst (pc := 26) h zd_MO_route_26 zq_ic_2 ?_
  refine zi_icmp_ge_t (pc := 27) h (tgt := 34) zd_MO_route_27 rfl ht ?_
  refine zi_iconst (pc := 34) h zd_MO_route_34 zq_ic_0 ?_
  refine zi_istore_n (pc := 35) h (i := 2) (L' := [(2, _), (0, _), (1, _)]) zd_MO_route_35 rfl (by decide) rfl ?_
  refine zi_iload_n (pc := 36) h (i := 2) zd_MO_route_36 rfl 0 rfl ?_
  refine zi_if_ne_f (pc := 37) h (tgt := 120) zd_MO_route_37 rfl (by decide) ?_
  refine zi_aload_n (pc := 40) h (i := 0) zd_MO_route_40 rfl 1 rfl ?_
  refine zi_iload_n (pc := 41) h (i := 1) zd_MO_route_41 rfl 2 rfl ?_
  refine zi_callV (pc := 42) h (st := []) hM1 zm_MO_flowOf zw_686 zx_MO zq_k26 rfl ⟨by decide, by decide⟩ zd_MO_route_42 (Nat.le_of_ble_eq_true rfl) rfl ?_
  refine zi_istore_n (pc := 45) h (i := 3) (L' := [(3, _), (2, _), (0, _), (1, _)]) zd_MO_route_45 rfl (by decide) rfl ?_
  refine zi_iload_n (pc := 46) h (i := 3) zd_MO_route_46 rfl 0 rfl ?_
  refine zi_if_ge_f (pc := 47) h (tgt := 55) zd_MO_route_47 rfl hx ?_
  refine zi_iload_n (pc := 50) h (i := 3) zd_MO_route_50 rfl 0 rfl ?_
  refine zi_ineg (pc := 51) h zd_MO_route_51 ?_
  refine zi_goto (pc := 52) h (tgt := 56) zd_MO_route_52 rfl ?_
  refine zi_istore_n (pc := 56) h (i := 2) (L' := [(2, _), (3, _), (0, _), (1, _)]) zd_MO_route_56 rfl (by decide) rfl ?_
  refine zi_iload_n (pc := 57) h (i := 3) zd_MO_route_57 rfl 1 rfl ?_
  refine zi_if_lt_t (pc := 58) h (tgt := 120) zd_MO_route_58 rfl hx2 ?_
  refine zi_aload_n (pc := 120) h (i := 0) zd_MO_route_120 rfl 2 rfl ?_
  refine zi_iconst (pc := 121) h zd_MO_route_121 zq_ic_0 ?_
  refine zi_put (pc := 122) h zx_MO 26 1 zq_k26 rfl zq_j_1_18 zw_585 rfl rfl rfl (Nat.le_of_ble_eq_true rfl) zd_MO_route_122 zn_u_sz ?_
  refine zi_iload_n (pc := 125) h (i := 2) zd_MO_route_125 rfl 0 rfl ?_
  exact zi_ireturn (pc := 126) h hr zd_MO_route_126 rfl rfl

set_option maxRecDepth 20000 in
theorem zc_MO_route_1e {l : Launch} {G : zz_G} {F : Nat → va_E} {w : Nat → Int32} {la : Nat → Int32} {lz : Int32} {ra : Nat → Nat → Int32} {fn : Int32} {fa : Nat → Nat → Int32} {cd : Int32} {n i : Nat} {fn2 : Int32} {fa2 : Nat → Nat → Int32} {w2 : Nat → Int32} (hn : n ≤ 48) (hf0 : ¬ zs_tot w 0 10 0 < 0) (hf1 : 10 ≤ n → ¬ zv_bt w n (w 4 &&& 255) < 0) (hw : ¬ zv_wl w n = 0) (ht : 2 ≤ w 4 / 256) (hi : i < 12) (hM1 : zz_M l zy_MO_flowOf zb_MO_flowOf 8 (some .int) 2 54 G [.ref (G.2.2 26), .int 1] (zz_N G F w (nI n) la lz ra fn fa 0) (some (.int (nI i))) (zz_N G F w (nI n) la lz ra fn2 fa2 0)) (hM2 : zz_M l zy_MO_rewrite zb_MO_rewrite 7 none 3 69 G [.ref (G.2.2 26), .int 1, .int (nI i)] (zz_N G F w (nI n) la lz ra fn2 fa2 0) none (zz_N G F w2 (nI n) la lz ra fn2 fa2 0)) (he : ¬ zv_err w2 = 0) : zz_M l zy_MO_route zb_MO_route 5 (some .int) 4 95 G [.ref (G.2.2 26), .int 1] (zz_N G F w (nI n) la lz ra fn fa cd) (some (.int 0)) (zz_N G F w2 0 (zv_cp w2 la 0 n) (nI n) ra fn2 fa2 0) := by
  refine zz_M.of (by decide) (Nat.le_of_ble_eq_true rfl) ?_
  intro X hX h hr
  subst hX
  have h : zz_C X G (zz_A G.2.2) 5 zb_MO_route "PortTranslatorModel" 4 95 0 0 := h
  refine zi_aload_n (pc := 0) h (i := 0) zd_MO_route_0 rfl 0 rfl ?_
  refine zi_iconst (pc := 1) h zd_MO_route_1 zq_ic_0 ?_
  refine zi_put (pc := 2) h zx_MO 26 17 zq_k26 rfl zq_j_17_18 zw_601 rfl rfl rfl (Nat.le_of_ble_eq_true rfl) zd_MO_route_2 zn_u_cd ?_
  refine zi_aload_n (pc := 5) h (i := 0) zd_MO_route_5 rfl 0 rfl ?_
  refine zi_callV (pc := 6) h (st := []) (zc_MO_well hn hf0 hf1) zm_MO_well zw_657 zx_MO zq_k26 rfl ⟨by decide, by decide⟩ zd_MO_route_6 (Nat.le_of_ble_eq_true rfl) rfl ?_
  refine zi_if_ne_t (pc := 9) h (tgt := 16) zd_MO_route_9 rfl hw ?_
  refine zi_aload_n (pc := 16) h (i := 0) zd_MO_route_16 rfl 0 rfl ?_
  refine zi_get (pc := 17) h zx_MO 26 0 zq_k26 rfl zq_j_0_18 zw_584 rfl zd_MO_route_17 ?_
  refine zi_iconst (pc := 20) h zd_MO_route_20 zq_ic_4 ?_
  refine zi_iald (pc := 21) h 27 zq_k27 rfl zq_in_4_48 zd_MO_route_21 ?_
  refine zi_sipush (pc := 22) h zd_MO_route_22 zq_si_256 ?_
  refine zi_idiv (pc := 25) h zd_MO_route_25 (by decide) ?_
  refine zi_iconst (pc := 26) h zd_MO_route_26 zq_ic_2 ?_
  refine zi_icmp_ge_t (pc := 27) h (tgt := 34) zd_MO_route_27 rfl ht ?_
  refine zi_iconst (pc := 34) h zd_MO_route_34 zq_ic_0 ?_
  refine zi_istore_n (pc := 35) h (i := 2) (L' := [(2, _), (0, _), (1, _)]) zd_MO_route_35 rfl (by decide) rfl ?_
  refine zi_iload_n (pc := 36) h (i := 2) zd_MO_route_36 rfl 0 rfl ?_
  refine zi_if_ne_f (pc := 37) h (tgt := 120) zd_MO_route_37 rfl (by decide) ?_
  refine zi_aload_n (pc := 40) h (i := 0) zd_MO_route_40 rfl 1 rfl ?_
  refine zi_iload_n (pc := 41) h (i := 1) zd_MO_route_41 rfl 2 rfl ?_
  refine zi_callV (pc := 42) h (st := []) hM1 zm_MO_flowOf zw_686 zx_MO zq_k26 rfl ⟨by decide, by decide⟩ zd_MO_route_42 (Nat.le_of_ble_eq_true rfl) rfl ?_
  refine zi_istore_n (pc := 45) h (i := 3) (L' := [(3, _), (2, _), (0, _), (1, _)]) zd_MO_route_45 rfl (by decide) rfl ?_
  refine zi_iload_n (pc := 46) h (i := 3) zd_MO_route_46 rfl 0 rfl ?_
  refine zi_if_ge_t (pc := 47) h (tgt := 55) zd_MO_route_47 rfl (nI_pos' (by omega)) ?_
  refine zi_iconst (pc := 55) h zd_MO_route_55 zq_ic_0 ?_
  refine zi_istore_n (pc := 56) h (i := 2) (L' := [(2, _), (3, _), (0, _), (1, _)]) zd_MO_route_56 rfl (by decide) rfl ?_
  refine zi_iload_n (pc := 57) h (i := 3) zd_MO_route_57 rfl 1 rfl ?_
  refine zi_if_lt_f (pc := 58) h (tgt := 120) zd_MO_route_58 rfl (nI_pos (by omega)) ?_
  refine zi_aload_n (pc := 61) h (i := 0) zd_MO_route_61 rfl 2 rfl ?_
  refine zi_iload_n (pc := 62) h (i := 1) zd_MO_route_62 rfl 3 rfl ?_
  refine zi_iload_n (pc := 63) h (i := 3) zd_MO_route_63 rfl 1 rfl ?_
  refine zi_callVv (pc := 64) h (st := []) hM2 zm_MO_rewrite zw_725 zx_MO zq_k26 rfl ⟨by decide, by decide⟩ zd_MO_route_64 (Nat.le_of_ble_eq_true rfl) rfl ?_
  refine zi_iconst (pc := 67) h zd_MO_route_67 zq_ic_0 ?_
  refine zi_istore (pc := 68) h (i := 4) (L' := [(4, _), (2, _), (3, _), (0, _), (1, _)]) zd_MO_route_68 (by decide) rfl ?_
  refine zl_MO_route hn h n 0 la (by omega) ?_
  refine zi_aload_n (pc := 99) h (i := 0) zd_MO_route_99 rfl 3 rfl ?_
  refine zi_aload_n (pc := 100) h (i := 0) zd_MO_route_100 rfl 3 rfl ?_
  refine zi_get (pc := 101) h zx_MO 26 1 zq_k26 rfl zq_j_1_18 zw_585 rfl zd_MO_route_101 ?_
  refine zi_put (pc := 104) h zx_MO 26 3 zq_k26 rfl zq_j_3_18 zw_587 rfl rfl rfl (Nat.le_of_ble_eq_true rfl) zd_MO_route_104 zn_u_lz ?_
  refine zi_aload_n (pc := 107) h (i := 0) zd_MO_route_107 rfl 3 rfl ?_
  refine zi_callV (pc := 108) h (st := []) (zc_MO_isError) zm_MO_isError zw_682 zx_MO zq_k26 rfl ⟨by decide, by decide⟩ zd_MO_route_108 (Nat.le_of_ble_eq_true rfl) rfl ?_
  refine zi_if_ne_t (pc := 111) h (tgt := 120) zd_MO_route_111 rfl he ?_
  refine zi_aload_n (pc := 120) h (i := 0) zd_MO_route_120 rfl 3 rfl ?_
  refine zi_iconst (pc := 121) h zd_MO_route_121 zq_ic_0 ?_
  refine zi_put (pc := 122) h zx_MO 26 1 zq_k26 rfl zq_j_1_18 zw_585 rfl rfl rfl (Nat.le_of_ble_eq_true rfl) zd_MO_route_122 zn_u_sz ?_
  refine zi_iload_n (pc := 125) h (i := 2) zd_MO_route_125 rfl 1 rfl ?_
  exact zi_ireturn (pc := 126) h hr zd_MO_route_126 rfl rfl

set_option maxRecDepth 20000 in
theorem zc_MO_route_1k {l : Launch} {G : zz_G} {F : Nat → va_E} {w : Nat → Int32} {la : Nat → Int32} {lz : Int32} {ra : Nat → Nat → Int32} {fn : Int32} {fa : Nat → Nat → Int32} {cd : Int32} {n i : Nat} {fn2 : Int32} {fa2 : Nat → Nat → Int32} {fn3 : Int32} {fa3 : Nat → Nat → Int32} {w2 : Nat → Int32} (hn : n ≤ 48) (hf0 : ¬ zs_tot w 0 10 0 < 0) (hf1 : 10 ≤ n → ¬ zv_bt w n (w 4 &&& 255) < 0) (hw : ¬ zv_wl w n = 0) (ht : 2 ≤ w 4 / 256) (hi : i < 12) (hM1 : zz_M l zy_MO_flowOf zb_MO_flowOf 8 (some .int) 2 54 G [.ref (G.2.2 26), .int 1] (zz_N G F w (nI n) la lz ra fn fa 0) (some (.int (nI i))) (zz_N G F w (nI n) la lz ra fn2 fa2 0)) (hM2 : zz_M l zy_MO_rewrite zb_MO_rewrite 7 none 3 69 G [.ref (G.2.2 26), .int 1, .int (nI i)] (zz_N G F w (nI n) la lz ra fn2 fa2 0) none (zz_N G F w2 (nI n) la lz ra fn2 fa2 0)) (he : zv_err w2 = 0) (hM3 : zz_M l zy_MO_touch zb_MO_touch 4 none 1 22 G [.ref (G.2.2 26), .int 1, .int (nI i)] (zz_N G F w2 (nI n) (zv_cp w2 la 0 n) (nI n) ra fn2 fa2 0) none (zz_N G F w2 (nI n) (zv_cp w2 la 0 n) (nI n) ra fn3 fa3 0)) : zz_M l zy_MO_route zb_MO_route 5 (some .int) 4 95 G [.ref (G.2.2 26), .int 1] (zz_N G F w (nI n) la lz ra fn fa cd) (some (.int 0)) (zz_N G F w2 0 (zv_cp w2 la 0 n) (nI n) ra fn3 fa3 0) := by
  refine zz_M.of (by decide) (Nat.le_of_ble_eq_true rfl) ?_
  intro X hX h hr
  subst hX
  have h : zz_C X G (zz_A G.2.2) 5 zb_MO_route "PortTranslatorModel" 4 95 0 0 := h
  refine zi_aload_n (pc := 0) h (i := 0) zd_MO_route_0 rfl 0 rfl ?_
  refine zi_iconst (pc := 1) h zd_MO_route_1 zq_ic_0 ?_
  refine zi_put (pc := 2) h zx_MO 26 17 zq_k26 rfl zq_j_17_18 zw_601 rfl rfl rfl (Nat.le_of_ble_eq_true rfl) zd_MO_route_2 zn_u_cd ?_
  refine zi_aload_n (pc := 5) h (i := 0) zd_MO_route_5 rfl 0 rfl ?_
  refine zi_callV (pc := 6) h (st := []) (zc_MO_well hn hf0 hf1) zm_MO_well zw_657 zx_MO zq_k26 rfl ⟨by decide, by decide⟩ zd_MO_route_6 (Nat.le_of_ble_eq_true rfl) rfl ?_
  refine zi_if_ne_t (pc := 9) h (tgt := 16) zd_MO_route_9 rfl hw ?_
  refine zi_aload_n (pc := 16) h (i := 0) zd_MO_route_16 rfl 0 rfl ?_
  refine zi_get (pc := 17) h zx_MO 26 0 zq_k26 rfl zq_j_0_18 zw_584 rfl zd_MO_route_17 ?_
  refine zi_iconst (pc := 20) h zd_MO_route_20 zq_ic_4 ?_
  refine zi_iald (pc := 21) h 27 zq_k27 rfl zq_in_4_48 zd_MO_route_21 ?_
  refine zi_sipush (pc := 22) h zd_MO_route_22 zq_si_256 ?_
  refine zi_idiv (pc := 25) h zd_MO_route_25 (by decide) ?_
  refine zi_iconst (pc := 26) h zd_MO_route_26 zq_ic_2 ?_
  refine zi_icmp_ge_t (pc := 27) h (tgt := 34) zd_MO_route_27 rfl ht ?_
  refine zi_iconst (pc := 34) h zd_MO_route_34 zq_ic_0 ?_
  refine zi_istore_n (pc := 35) h (i := 2) (L' := [(2, _), (0, _), (1, _)]) zd_MO_route_35 rfl (by decide) rfl ?_
  refine zi_iload_n (pc := 36) h (i := 2) zd_MO_route_36 rfl 0 rfl ?_
  refine zi_if_ne_f (pc := 37) h (tgt := 120) zd_MO_route_37 rfl (by decide) ?_
  refine zi_aload_n (pc := 40) h (i := 0) zd_MO_route_40 rfl 1 rfl ?_
  refine zi_iload_n (pc := 41) h (i := 1) zd_MO_route_41 rfl 2 rfl ?_
  refine zi_callV (pc := 42) h (st := []) hM1 zm_MO_flowOf zw_686 zx_MO zq_k26 rfl ⟨by decide, by decide⟩ zd_MO_route_42 (Nat.le_of_ble_eq_true rfl) rfl ?_
  refine zi_istore_n (pc := 45) h (i := 3) (L' := [(3, _), (2, _), (0, _), (1, _)]) zd_MO_route_45 rfl (by decide) rfl ?_
  refine zi_iload_n (pc := 46) h (i := 3) zd_MO_route_46 rfl 0 rfl ?_
  refine zi_if_ge_t (pc := 47) h (tgt := 55) zd_MO_route_47 rfl (nI_pos' (by omega)) ?_
  refine zi_iconst (pc := 55) h zd_MO_route_55 zq_ic_0 ?_
  refine zi_istore_n (pc := 56) h (i := 2) (L' := [(2, _), (3, _), (0, _), (1, _)]) zd_MO_route_56 rfl (by decide) rfl ?_
  refine zi_iload_n (pc := 57) h (i := 3) zd_MO_route_57 rfl 1 rfl ?_
  refine zi_if_lt_f (pc := 58) h (tgt := 120) zd_MO_route_58 rfl (nI_pos (by omega)) ?_
  refine zi_aload_n (pc := 61) h (i := 0) zd_MO_route_61 rfl 2 rfl ?_
  refine zi_iload_n (pc := 62) h (i := 1) zd_MO_route_62 rfl 3 rfl ?_
  refine zi_iload_n (pc := 63) h (i := 3) zd_MO_route_63 rfl 1 rfl ?_
  refine zi_callVv (pc := 64) h (st := []) hM2 zm_MO_rewrite zw_725 zx_MO zq_k26 rfl ⟨by decide, by decide⟩ zd_MO_route_64 (Nat.le_of_ble_eq_true rfl) rfl ?_
  refine zi_iconst (pc := 67) h zd_MO_route_67 zq_ic_0 ?_
  refine zi_istore (pc := 68) h (i := 4) (L' := [(4, _), (2, _), (3, _), (0, _), (1, _)]) zd_MO_route_68 (by decide) rfl ?_
  refine zl_MO_route hn h n 0 la (by omega) ?_
  refine zi_aload_n (pc := 99) h (i := 0) zd_MO_route_99 rfl 3 rfl ?_
  refine zi_aload_n (pc := 100) h (i := 0) zd_MO_route_100 rfl 3 rfl ?_
  refine zi_get (pc := 101) h zx_MO 26 1 zq_k26 rfl zq_j_1_18 zw_585 rfl zd_MO_route_101 ?_
  refine zi_put (pc := 104) h zx_MO 26 3 zq_k26 rfl zq_j_3_18 zw_587 rfl rfl rfl (Nat.le_of_ble_eq_true rfl) zd_MO_route_104 zn_u_lz ?_
  refine zi_aload_n (pc := 107) h (i := 0) zd_MO_route_107 rfl 3 rfl ?_
  refine zi_callV (pc := 108) h (st := []) (zc_MO_isError) zm_MO_isError zw_682 zx_MO zq_k26 rfl ⟨by decide, by decide⟩ zd_MO_route_108 (Nat.le_of_ble_eq_true rfl) rfl ?_
  refine zi_if_ne_f (pc := 111) h (tgt := 120) zd_MO_route_111 rfl he ?_
  refine zi_aload_n (pc := 114) h (i := 0) zd_MO_route_114 rfl 3 rfl ?_
  refine zi_iload_n (pc := 115) h (i := 1) zd_MO_route_115 rfl 4 rfl ?_
  refine zi_iload_n (pc := 116) h (i := 3) zd_MO_route_116 rfl 2 rfl ?_
  refine zi_callVv (pc := 117) h (st := []) hM3 zm_MO_touch zw_744 zx_MO zq_k26 rfl ⟨by decide, by decide⟩ zd_MO_route_117 (Nat.le_of_ble_eq_true rfl) rfl ?_
  refine zi_aload_n (pc := 120) h (i := 0) zd_MO_route_120 rfl 3 rfl ?_
  refine zi_iconst (pc := 121) h zd_MO_route_121 zq_ic_0 ?_
  refine zi_put (pc := 122) h zx_MO 26 1 zq_k26 rfl zq_j_1_18 zw_585 rfl rfl rfl (Nat.le_of_ble_eq_true rfl) zd_MO_route_122 zn_u_sz ?_
  refine zi_iload_n (pc := 125) h (i := 2) zd_MO_route_125 rfl 1 rfl ?_
  exact zi_ireturn (pc := 126) h hr zd_MO_route_126 rfl rfl

set_option maxRecDepth 20000 in
theorem zc_MO_route_0n {l : Launch} {G : zz_G} {F : Nat → va_E} {w : Nat → Int32} {la : Nat → Int32} {lz : Int32} {ra : Nat → Nat → Int32} {fn : Int32} {fa : Nat → Nat → Int32} {cd : Int32} {n : Nat} {x fn2 : Int32} {fa2 : Nat → Nat → Int32} (hn : n ≤ 48) (hf0 : ¬ zs_tot w 0 10 0 < 0) (hf1 : 10 ≤ n → ¬ zv_bt w n (w 4 &&& 255) < 0) (hw : ¬ zv_wl w n = 0) (ht : 2 ≤ w 4 / 256) (hM1 : zz_M l zy_MO_flowOf zb_MO_flowOf 8 (some .int) 2 54 G [.ref (G.2.2 26), .int 0] (zz_N G F w (nI n) la lz ra fn fa 0) (some (.int x)) (zz_N G F w (nI n) la lz ra fn2 fa2 0)) (hx : ¬ 0 ≤ x) (hx2 : x < 0) : zz_M l zy_MO_route zb_MO_route 5 (some .int) 4 95 G [.ref (G.2.2 26), .int 0] (zz_N G F w (nI n) la lz ra fn fa cd) (some (.int (-x))) (zz_N G F w 0 la lz ra fn2 fa2 0) := by
  refine zz_M.of (by decide) (Nat.le_of_ble_eq_true rfl) ?_
  intro X hX h hr
  subst hX
  have h : zz_C X G (zz_A G.2.2) 5 zb_MO_route "PortTranslatorModel" 4 95 0 0 := h
  refine zi_aload_n (pc := 0) h (i := 0) zd_MO_route_0 rfl 0 rfl ?_
  refine zi_iconst (pc := 1) h zd_MO_route_1 zq_ic_0 ?_
  refine zi_put (pc := 2) h zx_MO 26 17 zq_k26 rfl zq_j_17_18 zw_601 rfl rfl rfl (Nat.le_of_ble_eq_true rfl) zd_MO_route_2 zn_u_cd ?_
  refine zi_aload_n (pc := 5) h (i := 0) zd_MO_route_5 rfl 0 rfl ?_
  refine zi_callV (pc := 6) h (st := []) (zc_MO_well hn hf0 hf1) zm_MO_well zw_657 zx_MO zq_k26 rfl ⟨by decide, by decide⟩ zd_MO_route_6 (Nat.le_of_ble_eq_true rfl) rfl ?_
  refine zi_if_ne_t (pc := 9) h (tgt := 16) zd_MO_route_9 rfl hw ?_
  refine zi_aload_n (pc := 16) h (i := 0) zd_MO_route_16 rfl 0 rfl ?_
  refine zi_get (pc := 17) h zx_MO 26 0 zq_k26 rfl zq_j_0_18 zw_584 rfl zd_MO_route_17 ?_
  refine zi_iconst (pc := 20) h zd_MO_route_20 zq_ic_4 ?_
  refine zi_iald (pc := 21) h 27 zq_k27 rfl zq_in_4_48 zd_MO_route_21 ?_
  refine zi_sipush (pc := 22) h zd_MO_route_22 zq_si_256 ?_
  refine zi_idiv (pc := 25) h zd_MO_route_25 (by decide) ?_
  refine zi_iconst (pc := 26) h zd_MO_route_26 zq_ic_2 ?_
  refine zi_icmp_ge_t (pc := 27) h (tgt := 34) zd_MO_route_27 rfl ht ?_
  refine zi_iconst (pc := 34) h zd_MO_route_34 zq_ic_0 ?_
  refine zi_istore_n (pc := 35) h (i := 2) (L' := [(2, _), (0, _), (1, _)]) zd_MO_route_35 rfl (by decide) rfl ?_
  refine zi_iload_n (pc := 36) h (i := 2) zd_MO_route_36 rfl 0 rfl ?_
  refine zi_if_ne_f (pc := 37) h (tgt := 120) zd_MO_route_37 rfl (by decide) ?_
  refine zi_aload_n (pc := 40) h (i := 0) zd_MO_route_40 rfl 1 rfl ?_
  refine zi_iload_n (pc := 41) h (i := 1) zd_MO_route_41 rfl 2 rfl ?_
  refine zi_callV (pc := 42) h (st := []) hM1 zm_MO_flowOf zw_686 zx_MO zq_k26 rfl ⟨by decide, by decide⟩ zd_MO_route_42 (Nat.le_of_ble_eq_true rfl) rfl ?_
  refine zi_istore_n (pc := 45) h (i := 3) (L' := [(3, _), (2, _), (0, _), (1, _)]) zd_MO_route_45 rfl (by decide) rfl ?_
  refine zi_iload_n (pc := 46) h (i := 3) zd_MO_route_46 rfl 0 rfl ?_
  refine zi_if_ge_f (pc := 47) h (tgt := 55) zd_MO_route_47 rfl hx ?_
  refine zi_iload_n (pc := 50) h (i := 3) zd_MO_route_50 rfl 0 rfl ?_
  refine zi_ineg (pc := 51) h zd_MO_route_51 ?_
  refine zi_goto (pc := 52) h (tgt := 56) zd_MO_route_52 rfl ?_
  refine zi_istore_n (pc := 56) h (i := 2) (L' := [(2, _), (3, _), (0, _), (1, _)]) zd_MO_route_56 rfl (by decide) rfl ?_
  refine zi_iload_n (pc := 57) h (i := 3) zd_MO_route_57 rfl 1 rfl ?_
  refine zi_if_lt_t (pc := 58) h (tgt := 120) zd_MO_route_58 rfl hx2 ?_
  refine zi_aload_n (pc := 120) h (i := 0) zd_MO_route_120 rfl 2 rfl ?_
  refine zi_iconst (pc := 121) h zd_MO_route_121 zq_ic_0 ?_
  refine zi_put (pc := 122) h zx_MO 26 1 zq_k26 rfl zq_j_1_18 zw_585 rfl rfl rfl (Nat.le_of_ble_eq_true rfl) zd_MO_route_122 zn_u_sz ?_
  refine zi_iload_n (pc := 125) h (i := 2) zd_MO_route_125 rfl 0 rfl ?_
  exact zi_ireturn (pc := 126) h hr zd_MO_route_126 rfl rfl

set_option maxRecDepth 20000 in
theorem zc_MO_route_0e {l : Launch} {G : zz_G} {F : Nat → va_E} {w : Nat → Int32} {la : Nat → Int32} {lz : Int32} {ra : Nat → Nat → Int32} {fn : Int32} {fa : Nat → Nat → Int32} {cd : Int32} {n i : Nat} {fn2 : Int32} {fa2 : Nat → Nat → Int32} {w2 : Nat → Int32} (hn : n ≤ 48) (hf0 : ¬ zs_tot w 0 10 0 < 0) (hf1 : 10 ≤ n → ¬ zv_bt w n (w 4 &&& 255) < 0) (hw : ¬ zv_wl w n = 0) (ht : 2 ≤ w 4 / 256) (hi : i < 12) (hM1 : zz_M l zy_MO_flowOf zb_MO_flowOf 8 (some .int) 2 54 G [.ref (G.2.2 26), .int 0] (zz_N G F w (nI n) la lz ra fn fa 0) (some (.int (nI i))) (zz_N G F w (nI n) la lz ra fn2 fa2 0)) (hM2 : zz_M l zy_MO_rewrite zb_MO_rewrite 7 none 3 69 G [.ref (G.2.2 26), .int 0, .int (nI i)] (zz_N G F w (nI n) la lz ra fn2 fa2 0) none (zz_N G F w2 (nI n) la lz ra fn2 fa2 0)) (he : ¬ zv_err w2 = 0) : zz_M l zy_MO_route zb_MO_route 5 (some .int) 4 95 G [.ref (G.2.2 26), .int 0] (zz_N G F w (nI n) la lz ra fn fa cd) (some (.int 0)) (zz_N G F w2 0 (zv_cp w2 la 0 n) (nI n) ra fn2 fa2 0) := by
  refine zz_M.of (by decide) (Nat.le_of_ble_eq_true rfl) ?_
  intro X hX h hr
  subst hX
  have h : zz_C X G (zz_A G.2.2) 5 zb_MO_route "PortTranslatorModel" 4 95 0 0 := h
  refine zi_aload_n (pc := 0) h (i := 0) zd_MO_route_0 rfl 0 rfl ?_
  refine zi_iconst (pc := 1) h zd_MO_route_1 zq_ic_0 ?_
  refine zi_put (pc := 2) h zx_MO 26 17 zq_k26 rfl zq_j_17_18 zw_601 rfl rfl rfl (Nat.le_of_ble_eq_true rfl) zd_MO_route_2 zn_u_cd ?_
  refine zi_aload_n (pc := 5) h (i := 0) zd_MO_route_5 rfl 0 rfl ?_
  refine zi_callV (pc := 6) h (st := []) (zc_MO_well hn hf0 hf1) zm_MO_well zw_657 zx_MO zq_k26 rfl ⟨by decide, by decide⟩ zd_MO_route_6 (Nat.le_of_ble_eq_true rfl) rfl ?_
  refine zi_if_ne_t (pc := 9) h (tgt := 16) zd_MO_route_9 rfl hw ?_
  refine zi_aload_n (pc := 16) h (i := 0) zd_MO_route_16 rfl 0 rfl ?_
  refine zi_get (pc := 17) h zx_MO 26 0 zq_k26 rfl zq_j_0_18 zw_584 rfl zd_MO_route_17 ?_
  refine zi_iconst (pc := 20) h zd_MO_route_20 zq_ic_4 ?_
  refine zi_iald (pc := 21) h 27 zq_k27 rfl zq_in_4_48 zd_MO_route_21 ?_
  refine zi_sipush (pc := 22) h zd_MO_route_22 zq_si_256 ?_
  refine zi_idiv (pc := 25) h zd_MO_route_25 (by decide) ?_
  refine zi_iconst (pc := 26) h zd_MO_route_26 zq_ic_2 ?_
  refine zi_icmp_ge_t (pc := 27) h (tgt := 34) zd_MO_route_27 rfl ht ?_
  refine zi_iconst (pc := 34) h zd_MO_route_34 zq_ic_0 ?_
  refine zi_istore_n (pc := 35) h (i := 2) (L' := [(2, _), (0, _), (1, _)]) zd_MO_route_35 rfl (by decide) rfl ?_
  refine zi_iload_n (pc := 36) h (i := 2) zd_MO_route_36 rfl 0 rfl ?_
  refine zi_if_ne_f (pc := 37) h (tgt := 120) zd_MO_route_37 rfl (by decide) ?_
  refine zi_aload_n (pc := 40) h (i := 0) zd_MO_route_40 rfl 1 rfl ?_
  refine zi_iload_n (pc := 41) h (i := 1) zd_MO_route_41 rfl 2 rfl ?_
  refine zi_callV (pc := 42) h (st := []) hM1 zm_MO_flowOf zw_686 zx_MO zq_k26 rfl ⟨by decide, by decide⟩ zd_MO_route_42 (Nat.le_of_ble_eq_true rfl) rfl ?_
  refine zi_istore_n (pc := 45) h (i := 3) (L' := [(3, _), (2, _), (0, _), (1, _)]) zd_MO_route_45 rfl (by decide) rfl ?_
  refine zi_iload_n (pc := 46) h (i := 3) zd_MO_route_46 rfl 0 rfl ?_
  refine zi_if_ge_t (pc := 47) h (tgt := 55) zd_MO_route_47 rfl (nI_pos' (by omega)) ?_
  refine zi_iconst (pc := 55) h zd_MO_route_55 zq_ic_0 ?_
  refine zi_istore_n (pc := 56) h (i := 2) (L' := [(2, _), (3, _), (0, _), (1, _)]) zd_MO_route_56 rfl (by decide) rfl ?_
  refine zi_iload_n (pc := 57) h (i := 3) zd_MO_route_57 rfl 1 rfl ?_
  refine zi_if_lt_f (pc := 58) h (tgt := 120) zd_MO_route_58 rfl (nI_pos (by omega)) ?_
  refine zi_aload_n (pc := 61) h (i := 0) zd_MO_route_61 rfl 2 rfl ?_
  refine zi_iload_n (pc := 62) h (i := 1) zd_MO_route_62 rfl 3 rfl ?_
  refine zi_iload_n (pc := 63) h (i := 3) zd_MO_route_63 rfl 1 rfl ?_
  refine zi_callVv (pc := 64) h (st := []) hM2 zm_MO_rewrite zw_725 zx_MO zq_k26 rfl ⟨by decide, by decide⟩ zd_MO_route_64 (Nat.le_of_ble_eq_true rfl) rfl ?_
  refine zi_iconst (pc := 67) h zd_MO_route_67 zq_ic_0 ?_
  refine zi_istore (pc := 68) h (i := 4) (L' := [(4, _), (2, _), (3, _), (0, _), (1, _)]) zd_MO_route_68 (by decide) rfl ?_
  refine zl_MO_route hn h n 0 la (by omega) ?_
  refine zi_aload_n (pc := 99) h (i := 0) zd_MO_route_99 rfl 3 rfl ?_
  refine zi_aload_n (pc := 100) h (i := 0) zd_MO_route_100 rfl 3 rfl ?_
  refine zi_get (pc := 101) h zx_MO 26 1 zq_k26 rfl zq_j_1_18 zw_585 rfl zd_MO_route_101 ?_
  refine zi_put (pc := 104) h zx_MO 26 3 zq_k26 rfl zq_j_3_18 zw_587 rfl rfl rfl (Nat.le_of_ble_eq_true rfl) zd_MO_route_104 zn_u_lz ?_
  refine zi_aload_n (pc := 107) h (i := 0) zd_MO_route_107 rfl 3 rfl ?_
  refine zi_callV (pc := 108) h (st := []) (zc_MO_isError) zm_MO_isError zw_682 zx_MO zq_k26 rfl ⟨by decide, by decide⟩ zd_MO_route_108 (Nat.le_of_ble_eq_true rfl) rfl ?_
  refine zi_if_ne_t (pc := 111) h (tgt := 120) zd_MO_route_111 rfl he ?_
  refine zi_aload_n (pc := 120) h (i := 0) zd_MO_route_120 rfl 3 rfl ?_
  refine zi_iconst (pc := 121) h zd_MO_route_121 zq_ic_0 ?_
  refine zi_put (pc := 122) h zx_MO 26 1 zq_k26 rfl zq_j_1_18 zw_585 rfl rfl rfl (Nat.le_of_ble_eq_true rfl) zd_MO_route_122 zn_u_sz ?_
  refine zi_iload_n (pc := 125) h (i := 2) zd_MO_route_125 rfl 1 rfl ?_
  exact zi_ireturn (pc := 126) h hr zd_MO_route_126 rfl rfl

set_option maxRecDepth 20000 in
theorem zc_MO_route_0k {l : Launch} {G : zz_G} {F : Nat → va_E} {w : Nat → Int32} {la : Nat → Int32} {lz : Int32} {ra : Nat → Nat → Int32} {fn : Int32} {fa : Nat → Nat → Int32} {cd : Int32} {n i : Nat} {fn2 : Int32} {fa2 : Nat → Nat → Int32} {fn3 : Int32} {fa3 : Nat → Nat → Int32} {w2 : Nat → Int32} (hn : n ≤ 48) (hf0 : ¬ zs_tot w 0 10 0 < 0) (hf1 : 10 ≤ n → ¬ zv_bt w n (w 4 &&& 255) < 0) (hw : ¬ zv_wl w n = 0) (ht : 2 ≤ w 4 / 256) (hi : i < 12) (hM1 : zz_M l zy_MO_flowOf zb_MO_flowOf 8 (some .int) 2 54 G [.ref (G.2.2 26), .int 0] (zz_N G F w (nI n) la lz ra fn fa 0) (some (.int (nI i))) (zz_N G F w (nI n) la lz ra fn2 fa2 0)) (hM2 : zz_M l zy_MO_rewrite zb_MO_rewrite 7 none 3 69 G [.ref (G.2.2 26), .int 0, .int (nI i)] (zz_N G F w (nI n) la lz ra fn2 fa2 0) none (zz_N G F w2 (nI n) la lz ra fn2 fa2 0)) (he : zv_err w2 = 0) (hM3 : zz_M l zy_MO_touch zb_MO_touch 4 none 1 22 G [.ref (G.2.2 26), .int 0, .int (nI i)] (zz_N G F w2 (nI n) (zv_cp w2 la 0 n) (nI n) ra fn2 fa2 0) none (zz_N G F w2 (nI n) (zv_cp w2 la 0 n) (nI n) ra fn3 fa3 0)) : zz_M l zy_MO_route zb_MO_route 5 (some .int) 4 95 G [.ref (G.2.2 26), .int 0] (zz_N G F w (nI n) la lz ra fn fa cd) (some (.int 0)) (zz_N G F w2 0 (zv_cp w2 la 0 n) (nI n) ra fn3 fa3 0) := by
  refine zz_M.of (by decide) (Nat.le_of_ble_eq_true rfl) ?_
  intro X hX h hr
  subst hX
  have h : zz_C X G (zz_A G.2.2) 5 zb_MO_route "PortTranslatorModel" 4 95 0 0 := h
  refine zi_aload_n (pc := 0) h (i := 0) zd_MO_route_0 rfl 0 rfl ?_
  refine zi_iconst (pc := 1) h zd_MO_route_1 zq_ic_0 ?_
  refine zi_put (pc := 2) h zx_MO 26 17 zq_k26 rfl zq_j_17_18 zw_601 rfl rfl rfl (Nat.le_of_ble_eq_true rfl) zd_MO_route_2 zn_u_cd ?_
  refine zi_aload_n (pc := 5) h (i := 0) zd_MO_route_5 rfl 0 rfl ?_
  refine zi_callV (pc := 6) h (st := []) (zc_MO_well hn hf0 hf1) zm_MO_well zw_657 zx_MO zq_k26 rfl ⟨by decide, by decide⟩ zd_MO_route_6 (Nat.le_of_ble_eq_true rfl) rfl ?_
  refine zi_if_ne_t (pc := 9) h (tgt := 16) zd_MO_route_9 rfl hw ?_
  refine zi_aload_n (pc := 16) h (i := 0) zd_MO_route_16 rfl 0 rfl ?_
  refine zi_get (pc := 17) h zx_MO 26 0 zq_k26 rfl zq_j_0_18 zw_584 rfl zd_MO_route_17 ?_
  refine zi_iconst (pc := 20) h zd_MO_route_20 zq_ic_4 ?_
  refine zi_iald (pc := 21) h 27 zq_k27 rfl zq_in_4_48 zd_MO_route_21 ?_
  refine zi_sipush (pc := 22) h zd_MO_route_22 zq_si_256 ?_
  refine zi_idiv (pc := 25) h zd_MO_route_25 (by decide) ?_
  refine zi_iconst (pc := 26) h zd_MO_route_26 zq_ic_2 ?_
  refine zi_icmp_ge_t (pc := 27) h (tgt := 34) zd_MO_route_27 rfl ht ?_
  refine zi_iconst (pc := 34) h zd_MO_route_34 zq_ic_0 ?_
  refine zi_istore_n (pc := 35) h (i := 2) (L' := [(2, _), (0, _), (1, _)]) zd_MO_route_35 rfl (by decide) rfl ?_
  refine zi_iload_n (pc := 36) h (i := 2) zd_MO_route_36 rfl 0 rfl ?_
  refine zi_if_ne_f (pc := 37) h (tgt := 120) zd_MO_route_37 rfl (by decide) ?_
  refine zi_aload_n (pc := 40) h (i := 0) zd_MO_route_40 rfl 1 rfl ?_
  refine zi_iload_n (pc := 41) h (i := 1) zd_MO_route_41 rfl 2 rfl ?_
  refine zi_callV (pc := 42) h (st := []) hM1 zm_MO_flowOf zw_686 zx_MO zq_k26 rfl ⟨by decide, by decide⟩ zd_MO_route_42 (Nat.le_of_ble_eq_true rfl) rfl ?_
  refine zi_istore_n (pc := 45) h (i := 3) (L' := [(3, _), (2, _), (0, _), (1, _)]) zd_MO_route_45 rfl (by decide) rfl ?_
  refine zi_iload_n (pc := 46) h (i := 3) zd_MO_route_46 rfl 0 rfl ?_
  refine zi_if_ge_t (pc := 47) h (tgt := 55) zd_MO_route_47 rfl (nI_pos' (by omega)) ?_
  refine zi_iconst (pc := 55) h zd_MO_route_55 zq_ic_0 ?_
  refine zi_istore_n (pc := 56) h (i := 2) (L' := [(2, _), (3, _), (0, _), (1, _)]) zd_MO_route_56 rfl (by decide) rfl ?_
  refine zi_iload_n (pc := 57) h (i := 3) zd_MO_route_57 rfl 1 rfl ?_
  refine zi_if_lt_f (pc := 58) h (tgt := 120) zd_MO_route_58 rfl (nI_pos (by omega)) ?_
  refine zi_aload_n (pc := 61) h (i := 0) zd_MO_route_61 rfl 2 rfl ?_
  refine zi_iload_n (pc := 62) h (i := 1) zd_MO_route_62 rfl 3 rfl ?_
  refine zi_iload_n (pc := 63) h (i := 3) zd_MO_route_63 rfl 1 rfl ?_
  refine zi_callVv (pc := 64) h (st := []) hM2 zm_MO_rewrite zw_725 zx_MO zq_k26 rfl ⟨by decide, by decide⟩ zd_MO_route_64 (Nat.le_of_ble_eq_true rfl) rfl ?_
  refine zi_iconst (pc := 67) h zd_MO_route_67 zq_ic_0 ?_
  refine zi_istore (pc := 68) h (i := 4) (L' := [(4, _), (2, _), (3, _), (0, _), (1, _)]) zd_MO_route_68 (by decide) rfl ?_
  refine zl_MO_route hn h n 0 la (by omega) ?_
  refine zi_aload_n (pc := 99) h (i := 0) zd_MO_route_99 rfl 3 rfl ?_
  refine zi_aload_n (pc := 100) h (i := 0) zd_MO_route_100 rfl 3 rfl ?_
  refine zi_get (pc := 101) h zx_MO 26 1 zq_k26 rfl zq_j_1_18 zw_585 rfl zd_MO_route_101 ?_
  refine zi_put (pc := 104) h zx_MO 26 3 zq_k26 rfl zq_j_3_18 zw_587 rfl rfl rfl (Nat.le_of_ble_eq_true rfl) zd_MO_route_104 zn_u_lz ?_
  refine zi_aload_n (pc := 107) h (i := 0) zd_MO_route_107 rfl 3 rfl ?_
  refine zi_callV (pc := 108) h (st := []) (zc_MO_isError) zm_MO_isError zw_682 zx_MO zq_k26 rfl ⟨by decide, by decide⟩ zd_MO_route_108 (Nat.le_of_ble_eq_true rfl) rfl ?_
  refine zi_if_ne_f (pc := 111) h (tgt := 120) zd_MO_route_111 rfl he ?_
  refine zi_aload_n (pc := 114) h (i := 0) zd_MO_route_114 rfl 3 rfl ?_
  refine zi_iload_n (pc := 115) h (i := 1) zd_MO_route_115 rfl 4 rfl ?_
  refine zi_iload_n (pc := 116) h (i := 3) zd_MO_route_116 rfl 2 rfl ?_
  refine zi_callVv (pc := 117) h (st := []) hM3 zm_MO_touch zw_744 zx_MO zq_k26 rfl ⟨by decide, by decide⟩ zd_MO_route_117 (Nat.le_of_ble_eq_true rfl) rfl ?_
  refine zi_aload_n (pc := 120) h (i := 0) zd_MO_route_120 rfl 3 rfl ?_
  refine zi_iconst (pc := 121) h zd_MO_route_121 zq_ic_0 ?_
  refine zi_put (pc := 122) h zx_MO 26 1 zq_k26 rfl zq_j_1_18 zw_585 rfl rfl rfl (Nat.le_of_ble_eq_true rfl) zd_MO_route_122 zn_u_sz ?_
  refine zi_iload_n (pc := 125) h (i := 2) zd_MO_route_125 rfl 1 rfl ?_
  exact zi_ireturn (pc := 126) h hr zd_MO_route_126 rfl rfl
