def zs_chg (x y : Int32) : Int32 := 65535 - x + y
theorem zs_err01 (v : Nat → Int32) : zs_err v = 0 ∨ zs_err v = 1 := by
  unfold zs_err
  split
  · split
    · exact Or.inr rfl
    · split
      · exact Or.inr rfl
      · exact Or.inl rfl
  · exact Or.inl rfl
theorem zs_err1 {v : Nat → Int32} (h : ¬ zs_err v = 0) : zs_err v = 1 := (zs_err01 v).resolve_left h
/-- the subject behind read: kind, index of the near address, near and far address, index of the near port, far and near port -/
def zs_rd (su : Nat → Int32) (k ai na fa pi fp np : Int32) : Nat → Int32 := va_up (va_up (va_up (va_up (va_up (va_up (va_up su 0 k) 5 ai) 1 na) 3 fa) 6 pi) 4 fp) 2 np
def zs_wrt (v su : Nat → Int32) (a b d : Nat) (x p : Int32) : Nat → Int32 := upd (zs_set (if zs_err v = 0 then v else zs_ado v (zs_chg (zs_ush (su 1) 16) (zs_ush x 16) + zs_chg (su 1 &&& 65535) (x &&& 65535)) (zs_chg (su 2) p)) a b x) d p

set_option maxRecDepth 20000 in
theorem zc_SU_change {l : Launch} {G : zz_G} {F : Nat → va_E} {x y : Int32} : zz_M l zy_SU_change zb_SU_change 2 (some .int) 0 0 G [.int x, .int y] F (some (.int (zs_chg x y))) F := by
  refine zz_M.of (by decide) (Nat.le_of_ble_eq_true rfl) ?_
  intro X hX h hr
  subst hX
  have h : zz_C X G (zz_A G.2.2) 2 zb_SU_change "PortTranslator$Subject" 0 0 0 0 := h
  refine zi_ldc (pc := 0) h zw_370 zd_SU_change_0 ?_
  refine zi_iload_n (pc := 2) h (i := 0) zd_SU_change_2 rfl 0 rfl ?_
  refine zi_isub (pc := 3) h zd_SU_change_3 ?_
  refine zi_iload_n (pc := 4) h (i := 1) zd_SU_change_4 rfl 1 rfl ?_
  refine zi_iadd (pc := 5) h zd_SU_change_5 ?_
  exact zi_ireturn (pc := 6) h hr zd_SU_change_6 rfl rfl

set_option maxRecDepth 20000 in
theorem zc_SU_read_111 {l : Launch} {G : zz_G} {F : Nat → va_E} {v : Nat → Int32} {sz : Int32} {lv : Nat → Int32} {lz : Int32} {su : Nat → Int32} {pm : Nat → Nat} {cn : Int32} {fl : Nat → Nat → Int32} {ru : Nat → Nat → Int32} (he : ¬ zs_err v = 0) (hk : v 18 &&& 255 = 1) : zz_M l zy_SU_read zb_SU_read 5 none 2 42 G [.ref (G.2.2 5), .ref (G.2.2 1), .int 1] (zz_K G F v sz lv lz su pm cn fl ru) none (zz_K G F v sz lv lz (zs_rd su (v 18 &&& 255) 22 (zs_adr v 22 23) (zs_adr v 20 21) 26 0 (v 26)) pm cn fl ru) := by
  refine zz_M.of (by decide) (Nat.le_of_ble_eq_true rfl) ?_
  intro X hX h hr
  subst hX
  have h : zz_C X G (zz_A G.2.2) 5 zb_SU_read "PortTranslator$Subject" 2 42 0 0 := h
  refine zi_aload_n (pc := 0) h (i := 1) zd_SU_read_0 rfl 1 rfl ?_
  refine zi_callV (pc := 1) h (st := []) (zc_PK_isError) zm_PK_isError zw_271 zx_PK zq_k1 rfl ⟨by decide, by decide⟩ zd_SU_read_1 (Nat.le_of_ble_eq_true rfl) rfl ?_
  refine zi_if_eq_f (pc := 4) h (tgt := 12) zd_SU_read_4 rfl he ?_
  refine zi_bipush (pc := 7) h zd_SU_read_7 zq_bi_14 ?_
  refine zi_goto (pc := 9) h (tgt := 13) zd_SU_read_9 rfl ?_
  refine zi_istore_n (pc := 13) h (i := 3) (L' := [(3, _), (0, _), (1, _), (2, _)]) zd_SU_read_13 rfl (by decide) rfl ?_
  refine zi_iload_n (pc := 14) h (i := 2) zd_SU_read_14 rfl 3 rfl ?_
  refine zi_aload_n (pc := 15) h (i := 1) zd_SU_read_15 rfl 2 rfl ?_
  refine zi_callV (pc := 16) h (st := [_]) (zc_PK_isError) zm_PK_isError zw_271 zx_PK zq_k1 rfl ⟨by decide, by decide⟩ zd_SU_read_16 (Nat.le_of_ble_eq_true rfl) rfl ?_
  refine zi_topv (1) (zs_err1 he) ?_
  refine zi_icmp_eq_t (pc := 19) h (tgt := 26) zd_SU_read_19 rfl (by decide) ?_
  refine zi_iconst (pc := 26) h zd_SU_read_26 zq_ic_0 ?_
  refine zi_istore (pc := 27) h (i := 4) (L' := [(4, _), (3, _), (0, _), (1, _), (2, _)]) zd_SU_read_27 (by decide) rfl ?_
  refine zi_aload_n (pc := 29) h (i := 0) zd_SU_read_29 rfl 2 rfl ?_
  refine zi_aload_n (pc := 30) h (i := 1) zd_SU_read_30 rfl 3 rfl ?_
  refine zi_iload_n (pc := 31) h (i := 3) zd_SU_read_31 rfl 1 rfl ?_
  refine zi_callV (pc := 32) h (st := [_]) (zc_PK_kindAt (s := 14) (a := 18) ⟨by decide, by decide, by decide⟩) zm_PK_kindAt zw_272 zx_PK zq_k1 rfl ⟨by decide, by decide⟩ zd_SU_read_32 (Nat.le_of_ble_eq_true rfl) rfl ?_
  refine zi_put (pc := 35) h zx_SU 5 0 zq_k5 rfl zq_j_0_7 zw_47 rfl rfl rfl (Nat.le_of_ble_eq_true rfl) zd_SU_read_35 (zk_s_su 0 (by decide)) ?_
  refine zi_aload_n (pc := 38) h (i := 0) zd_SU_read_38 rfl 2 rfl ?_
  refine zi_iload_n (pc := 39) h (i := 3) zd_SU_read_39 rfl 1 rfl ?_
  refine zi_iload (pc := 40) h (i := 4) zd_SU_read_40 0 rfl ?_
  refine zi_if_eq_t (pc := 42) h (tgt := 50) zd_SU_read_42 rfl (by decide) ?_
  refine zi_bipush (pc := 50) h zd_SU_read_50 zq_bi_8 ?_
  refine zi_iadd (pc := 52) h zd_SU_read_52 ?_
  refine zi_topv (22) (by decide) ?_
  refine zi_put (pc := 53) h zx_SU 5 5 zq_k5 rfl zq_j_5_7 zw_61 rfl rfl rfl (Nat.le_of_ble_eq_true rfl) zd_SU_read_53 (zk_s_su 5 (by decide)) ?_
  refine zi_aload_n (pc := 56) h (i := 0) zd_SU_read_56 rfl 2 rfl ?_
  refine zi_aload_n (pc := 57) h (i := 1) zd_SU_read_57 rfl 3 rfl ?_
  refine zi_aload_n (pc := 58) h (i := 0) zd_SU_read_58 rfl 2 rfl ?_
  refine zi_get (pc := 59) h zx_SU 5 5 zq_k5 rfl zq_j_5_7 zw_61 rfl zd_SU_read_59 ?_
  refine zi_topv (22) rfl ?_
  refine zi_callV (pc := 62) h (st := [_]) (zc_PK_address (a := 22) (b := 23) zq_in_22_48 ⟨by decide, by decide, by decide⟩) zm_PK_address zw_273 zx_PK zq_k1 rfl ⟨by decide, by decide⟩ zd_SU_read_62 (Nat.le_of_ble_eq_true rfl) rfl ?_
  refine zi_put (pc := 65) h zx_SU 5 1 zq_k5 rfl zq_j_1_7 zw_51 rfl rfl rfl (Nat.le_of_ble_eq_true rfl) zd_SU_read_65 (zk_s_su 1 (by decide)) ?_
  refine zi_aload_n (pc := 68) h (i := 0) zd_SU_read_68 rfl 2 rfl ?_
  refine zi_aload_n (pc := 69) h (i := 1) zd_SU_read_69 rfl 3 rfl ?_
  refine zi_iload_n (pc := 70) h (i := 3) zd_SU_read_70 rfl 1 rfl ?_
  refine zi_iload (pc := 71) h (i := 4) zd_SU_read_71 0 rfl ?_
  refine zi_if_eq_t (pc := 73) h (tgt := 81) zd_SU_read_73 rfl (by decide) ?_
  refine zi_bipush (pc := 81) h zd_SU_read_81 zq_bi_6 ?_
  refine zi_iadd (pc := 83) h zd_SU_read_83 ?_
  refine zi_topv (20) (by decide) ?_
  refine zi_callV (pc := 84) h (st := [_]) (zc_PK_address (a := 20) (b := 21) zq_in_20_48 ⟨by decide, by decide, by decide⟩) zm_PK_address zw_273 zx_PK zq_k1 rfl ⟨by decide, by decide⟩ zd_SU_read_84 (Nat.le_of_ble_eq_true rfl) rfl ?_
  refine zi_put (pc := 87) h zx_SU 5 3 zq_k5 rfl zq_j_3_7 zw_57 rfl rfl rfl (Nat.le_of_ble_eq_true rfl) zd_SU_read_87 (zk_s_su 3 (by decide)) ?_
  refine zi_aload_n (pc := 90) h (i := 0) zd_SU_read_90 rfl 2 rfl ?_
  refine zi_get (pc := 91) h zx_SU 5 0 zq_k5 rfl zq_j_0_7 zw_47 rfl zd_SU_read_91 ?_
  refine zi_topv (v 18 &&& 255) rfl ?_
  refine zi_iconst (pc := 94) h zd_SU_read_94 zq_ic_1 ?_
  refine zi_icmp_ne_f (pc := 95) h (tgt := 114) zd_SU_read_95 rfl hk ?_
  refine zi_aload_n (pc := 98) h (i := 0) zd_SU_read_98 rfl 2 rfl ?_
  refine zi_iload_n (pc := 99) h (i := 3) zd_SU_read_99 rfl 1 rfl ?_
  refine zi_bipush (pc := 100) h zd_SU_read_100 zq_bi_12 ?_
  refine zi_iadd (pc := 102) h zd_SU_read_102 ?_
  refine zi_topv (26) (by decide) ?_
  refine zi_put (pc := 103) h zx_SU 5 6 zq_k5 rfl zq_j_6_7 zw_62 rfl rfl rfl (Nat.le_of_ble_eq_true rfl) zd_SU_read_103 (zk_s_su 6 (by decide)) ?_
  refine zi_aload_n (pc := 106) h (i := 0) zd_SU_read_106 rfl 2 rfl ?_
  refine zi_iconst (pc := 107) h zd_SU_read_107 zq_ic_0 ?_
  refine zi_put (pc := 108) h zx_SU 5 4 zq_k5 rfl zq_j_4_7 zw_60 rfl rfl rfl (Nat.le_of_ble_eq_true rfl) zd_SU_read_108 (zk_s_su 4 (by decide)) ?_
  refine zi_goto (pc := 111) h (tgt := 155) zd_SU_read_111 rfl ?_
  refine zi_aload_n (pc := 155) h (i := 0) zd_SU_read_155 rfl 2 rfl ?_
  refine zi_aload_n (pc := 156) h (i := 1) zd_SU_read_156 rfl 3 rfl ?_
  refine zi_get (pc := 157) h zx_PK 1 0 zq_k1 rfl zq_j_0_2 zw_30 rfl zd_SU_read_157 ?_
  refine zi_aload_n (pc := 160) h (i := 0) zd_SU_read_160 rfl 2 rfl ?_
  refine zi_get (pc := 161) h zx_SU 5 6 zq_k5 rfl zq_j_6_7 zw_62 rfl zd_SU_read_161 ?_
  refine zi_topv (26) rfl ?_
  refine zi_iald (pc := 164) h 2 zq_k2 rfl zq_in_26_48 zd_SU_read_164 ?_
  refine zi_put (pc := 165) h zx_SU 5 2 zq_k5 rfl zq_j_2_7 zw_54 rfl rfl rfl (Nat.le_of_ble_eq_true rfl) zd_SU_read_165 (zk_s_su 2 (by decide)) ?_
  exact zi_vreturn (pc := 168) h hr zd_SU_read_168 rfl rfl

set_option maxRecDepth 20000 in
theorem zc_SU_read_110 {l : Launch} {G : zz_G} {F : Nat → va_E} {v : Nat → Int32} {sz : Int32} {lv : Nat → Int32} {lz : Int32} {su : Nat → Int32} {pm : Nat → Nat} {cn : Int32} {fl : Nat → Nat → Int32} {ru : Nat → Nat → Int32} (he : ¬ zs_err v = 0) (hk : ¬ v 18 &&& 255 = 1) : zz_M l zy_SU_read zb_SU_read 5 none 2 42 G [.ref (G.2.2 5), .ref (G.2.2 1), .int 1] (zz_K G F v sz lv lz su pm cn fl ru) none (zz_K G F v sz lv lz (zs_rd su (v 18 &&& 255) 22 (zs_adr v 22 23) (zs_adr v 20 21) 25 (v 24) (v 25)) pm cn fl ru) := by
  refine zz_M.of (by decide) (Nat.le_of_ble_eq_true rfl) ?_
  intro X hX h hr
  subst hX
  have h : zz_C X G (zz_A G.2.2) 5 zb_SU_read "PortTranslator$Subject" 2 42 0 0 := h
  refine zi_aload_n (pc := 0) h (i := 1) zd_SU_read_0 rfl 1 rfl ?_
  refine zi_callV (pc := 1) h (st := []) (zc_PK_isError) zm_PK_isError zw_271 zx_PK zq_k1 rfl ⟨by decide, by decide⟩ zd_SU_read_1 (Nat.le_of_ble_eq_true rfl) rfl ?_
  refine zi_if_eq_f (pc := 4) h (tgt := 12) zd_SU_read_4 rfl he ?_
  refine zi_bipush (pc := 7) h zd_SU_read_7 zq_bi_14 ?_
  refine zi_goto (pc := 9) h (tgt := 13) zd_SU_read_9 rfl ?_
  refine zi_istore_n (pc := 13) h (i := 3) (L' := [(3, _), (0, _), (1, _), (2, _)]) zd_SU_read_13 rfl (by decide) rfl ?_
  refine zi_iload_n (pc := 14) h (i := 2) zd_SU_read_14 rfl 3 rfl ?_
  refine zi_aload_n (pc := 15) h (i := 1) zd_SU_read_15 rfl 2 rfl ?_
  refine zi_callV (pc := 16) h (st := [_]) (zc_PK_isError) zm_PK_isError zw_271 zx_PK zq_k1 rfl ⟨by decide, by decide⟩ zd_SU_read_16 (Nat.le_of_ble_eq_true rfl) rfl ?_
  refine zi_topv (1) (zs_err1 he) ?_
  refine zi_icmp_eq_t (pc := 19) h (tgt := 26) zd_SU_read_19 rfl (by decide) ?_
  refine zi_iconst (pc := 26) h zd_SU_read_26 zq_ic_0 ?_
  refine zi_istore (pc := 27) h (i := 4) (L' := [(4, _), (3, _), (0, _), (1, _), (2, _)]) zd_SU_read_27 (by decide) rfl ?_
  refine zi_aload_n (pc := 29) h (i := 0) zd_SU_read_29 rfl 2 rfl ?_
  refine zi_aload_n (pc := 30) h (i := 1) zd_SU_read_30 rfl 3 rfl ?_
  refine zi_iload_n (pc := 31) h (i := 3) zd_SU_read_31 rfl 1 rfl ?_
  refine zi_callV (pc := 32) h (st := [_]) (zc_PK_kindAt (s := 14) (a := 18) ⟨by decide, by decide, by decide⟩) zm_PK_kindAt zw_272 zx_PK zq_k1 rfl ⟨by decide, by decide⟩ zd_SU_read_32 (Nat.le_of_ble_eq_true rfl) rfl ?_
  refine zi_put (pc := 35) h zx_SU 5 0 zq_k5 rfl zq_j_0_7 zw_47 rfl rfl rfl (Nat.le_of_ble_eq_true rfl) zd_SU_read_35 (zk_s_su 0 (by decide)) ?_
  refine zi_aload_n (pc := 38) h (i := 0) zd_SU_read_38 rfl 2 rfl ?_
  refine zi_iload_n (pc := 39) h (i := 3) zd_SU_read_39 rfl 1 rfl ?_
  refine zi_iload (pc := 40) h (i := 4) zd_SU_read_40 0 rfl ?_
  refine zi_if_eq_t (pc := 42) h (tgt := 50) zd_SU_read_42 rfl (by decide) ?_
  refine zi_bipush (pc := 50) h zd_SU_read_50 zq_bi_8 ?_
  refine zi_iadd (pc := 52) h zd_SU_read_52 ?_
  refine zi_topv (22) (by decide) ?_
  refine zi_put (pc := 53) h zx_SU 5 5 zq_k5 rfl zq_j_5_7 zw_61 rfl rfl rfl (Nat.le_of_ble_eq_true rfl) zd_SU_read_53 (zk_s_su 5 (by decide)) ?_
  refine zi_aload_n (pc := 56) h (i := 0) zd_SU_read_56 rfl 2 rfl ?_
  refine zi_aload_n (pc := 57) h (i := 1) zd_SU_read_57 rfl 3 rfl ?_
  refine zi_aload_n (pc := 58) h (i := 0) zd_SU_read_58 rfl 2 rfl ?_
  refine zi_get (pc := 59) h zx_SU 5 5 zq_k5 rfl zq_j_5_7 zw_61 rfl zd_SU_read_59 ?_
  refine zi_topv (22) rfl ?_
  refine zi_callV (pc := 62) h (st := [_]) (zc_PK_address (a := 22) (b := 23) zq_in_22_48 ⟨by decide, by decide, by decide⟩) zm_PK_address zw_273 zx_PK zq_k1 rfl ⟨by decide, by decide⟩ zd_SU_read_62 (Nat.le_of_ble_eq_true rfl) rfl ?_
  refine zi_put (pc := 65) h zx_SU 5 1 zq_k5 rfl zq_j_1_7 zw_51 rfl rfl rfl (Nat.le_of_ble_eq_true rfl) zd_SU_read_65 (zk_s_su 1 (by decide)) ?_
  refine zi_aload_n (pc := 68) h (i := 0) zd_SU_read_68 rfl 2 rfl ?_
  refine zi_aload_n (pc := 69) h (i := 1) zd_SU_read_69 rfl 3 rfl ?_
  refine zi_iload_n (pc := 70) h (i := 3) zd_SU_read_70 rfl 1 rfl ?_
  refine zi_iload (pc := 71) h (i := 4) zd_SU_read_71 0 rfl ?_
  refine zi_if_eq_t (pc := 73) h (tgt := 81) zd_SU_read_73 rfl (by decide) ?_
  refine zi_bipush (pc := 81) h zd_SU_read_81 zq_bi_6 ?_
  refine zi_iadd (pc := 83) h zd_SU_read_83 ?_
  refine zi_topv (20) (by decide) ?_
  refine zi_callV (pc := 84) h (st := [_]) (zc_PK_address (a := 20) (b := 21) zq_in_20_48 ⟨by decide, by decide, by decide⟩) zm_PK_address zw_273 zx_PK zq_k1 rfl ⟨by decide, by decide⟩ zd_SU_read_84 (Nat.le_of_ble_eq_true rfl) rfl ?_
  refine zi_put (pc := 87) h zx_SU 5 3 zq_k5 rfl zq_j_3_7 zw_57 rfl rfl rfl (Nat.le_of_ble_eq_true rfl) zd_SU_read_87 (zk_s_su 3 (by decide)) ?_
  refine zi_aload_n (pc := 90) h (i := 0) zd_SU_read_90 rfl 2 rfl ?_
  refine zi_get (pc := 91) h zx_SU 5 0 zq_k5 rfl zq_j_0_7 zw_47 rfl zd_SU_read_91 ?_
  refine zi_topv (v 18 &&& 255) rfl ?_
  refine zi_iconst (pc := 94) h zd_SU_read_94 zq_ic_1 ?_
  refine zi_icmp_ne_t (pc := 95) h (tgt := 114) zd_SU_read_95 rfl hk ?_
  refine zi_aload_n (pc := 114) h (i := 0) zd_SU_read_114 rfl 2 rfl ?_
  refine zi_iload_n (pc := 115) h (i := 3) zd_SU_read_115 rfl 1 rfl ?_
  refine zi_iload (pc := 116) h (i := 4) zd_SU_read_116 0 rfl ?_
  refine zi_if_eq_t (pc := 118) h (tgt := 126) zd_SU_read_118 rfl (by decide) ?_
  refine zi_bipush (pc := 126) h zd_SU_read_126 zq_bi_11 ?_
  refine zi_iadd (pc := 128) h zd_SU_read_128 ?_
  refine zi_topv (25) (by decide) ?_
  refine zi_put (pc := 129) h zx_SU 5 6 zq_k5 rfl zq_j_6_7 zw_62 rfl rfl rfl (Nat.le_of_ble_eq_true rfl) zd_SU_read_129 (zk_s_su 6 (by decide)) ?_
  refine zi_aload_n (pc := 132) h (i := 0) zd_SU_read_132 rfl 2 rfl ?_
  refine zi_aload_n (pc := 133) h (i := 1) zd_SU_read_133 rfl 3 rfl ?_
  refine zi_get (pc := 134) h zx_PK 1 0 zq_k1 rfl zq_j_0_2 zw_30 rfl zd_SU_read_134 ?_
  refine zi_iload_n (pc := 137) h (i := 3) zd_SU_read_137 rfl 1 rfl ?_
  refine zi_iload (pc := 138) h (i := 4) zd_SU_read_138 0 rfl ?_
  refine zi_if_eq_t (pc := 140) h (tgt := 148) zd_SU_read_140 rfl (by decide) ?_
  refine zi_bipush (pc := 148) h zd_SU_read_148 zq_bi_10 ?_
  refine zi_iadd (pc := 150) h zd_SU_read_150 ?_
  refine zi_topv (24) (by decide) ?_
  refine zi_iald (pc := 151) h 2 zq_k2 rfl zq_in_24_48 zd_SU_read_151 ?_
  refine zi_put (pc := 152) h zx_SU 5 4 zq_k5 rfl zq_j_4_7 zw_60 rfl rfl rfl (Nat.le_of_ble_eq_true rfl) zd_SU_read_152 (zk_s_su 4 (by decide)) ?_
  refine zi_aload_n (pc := 155) h (i := 0) zd_SU_read_155 rfl 2 rfl ?_
  refine zi_aload_n (pc := 156) h (i := 1) zd_SU_read_156 rfl 3 rfl ?_
  refine zi_get (pc := 157) h zx_PK 1 0 zq_k1 rfl zq_j_0_2 zw_30 rfl zd_SU_read_157 ?_
  refine zi_aload_n (pc := 160) h (i := 0) zd_SU_read_160 rfl 2 rfl ?_
  refine zi_get (pc := 161) h zx_SU 5 6 zq_k5 rfl zq_j_6_7 zw_62 rfl zd_SU_read_161 ?_
  refine zi_topv (25) rfl ?_
  refine zi_iald (pc := 164) h 2 zq_k2 rfl zq_in_25_48 zd_SU_read_164 ?_
  refine zi_put (pc := 165) h zx_SU 5 2 zq_k5 rfl zq_j_2_7 zw_54 rfl rfl rfl (Nat.le_of_ble_eq_true rfl) zd_SU_read_165 (zk_s_su 2 (by decide)) ?_
  exact zi_vreturn (pc := 168) h hr zd_SU_read_168 rfl rfl

set_option maxRecDepth 20000 in
theorem zc_SU_read_101 {l : Launch} {G : zz_G} {F : Nat → va_E} {v : Nat → Int32} {sz : Int32} {lv : Nat → Int32} {lz : Int32} {su : Nat → Int32} {pm : Nat → Nat} {cn : Int32} {fl : Nat → Nat → Int32} {ru : Nat → Nat → Int32} (he : zs_err v = 0) (hk : v 4 &&& 255 = 1) : zz_M l zy_SU_read zb_SU_read 5 none 2 42 G [.ref (G.2.2 5), .ref (G.2.2 1), .int 1] (zz_K G F v sz lv lz su pm cn fl ru) none (zz_K G F v sz lv lz (zs_rd su (v 4 &&& 255) 6 (zs_adr v 6 7) (zs_adr v 8 9) 12 0 (v 12)) pm cn fl ru) := by
  refine zz_M.of (by decide) (Nat.le_of_ble_eq_true rfl) ?_
  intro X hX h hr
  subst hX
  have h : zz_C X G (zz_A G.2.2) 5 zb_SU_read "PortTranslator$Subject" 2 42 0 0 := h
  refine zi_aload_n (pc := 0) h (i := 1) zd_SU_read_0 rfl 1 rfl ?_
  refine zi_callV (pc := 1) h (st := []) (zc_PK_isError) zm_PK_isError zw_271 zx_PK zq_k1 rfl ⟨by decide, by decide⟩ zd_SU_read_1 (Nat.le_of_ble_eq_true rfl) rfl ?_
  refine zi_if_eq_t (pc := 4) h (tgt := 12) zd_SU_read_4 rfl he ?_
  refine zi_iconst (pc := 12) h zd_SU_read_12 zq_ic_0 ?_
  refine zi_istore_n (pc := 13) h (i := 3) (L' := [(3, _), (0, _), (1, _), (2, _)]) zd_SU_read_13 rfl (by decide) rfl ?_
  refine zi_iload_n (pc := 14) h (i := 2) zd_SU_read_14 rfl 3 rfl ?_
  refine zi_aload_n (pc := 15) h (i := 1) zd_SU_read_15 rfl 2 rfl ?_
  refine zi_callV (pc := 16) h (st := [_]) (zc_PK_isError) zm_PK_isError zw_271 zx_PK zq_k1 rfl ⟨by decide, by decide⟩ zd_SU_read_16 (Nat.le_of_ble_eq_true rfl) rfl ?_
  refine zi_topv (0) he ?_
  refine zi_icmp_eq_f (pc := 19) h (tgt := 26) zd_SU_read_19 rfl (by decide) ?_
  refine zi_iconst (pc := 22) h zd_SU_read_22 zq_ic_1 ?_
  refine zi_goto (pc := 23) h (tgt := 27) zd_SU_read_23 rfl ?_
  refine zi_istore (pc := 27) h (i := 4) (L' := [(4, _), (3, _), (0, _), (1, _), (2, _)]) zd_SU_read_27 (by decide) rfl ?_
  refine zi_aload_n (pc := 29) h (i := 0) zd_SU_read_29 rfl 2 rfl ?_
  refine zi_aload_n (pc := 30) h (i := 1) zd_SU_read_30 rfl 3 rfl ?_
  refine zi_iload_n (pc := 31) h (i := 3) zd_SU_read_31 rfl 1 rfl ?_
  refine zi_callV (pc := 32) h (st := [_]) (zc_PK_kindAt (s := 0) (a := 4) ⟨by decide, by decide, by decide⟩) zm_PK_kindAt zw_272 zx_PK zq_k1 rfl ⟨by decide, by decide⟩ zd_SU_read_32 (Nat.le_of_ble_eq_true rfl) rfl ?_
  refine zi_put (pc := 35) h zx_SU 5 0 zq_k5 rfl zq_j_0_7 zw_47 rfl rfl rfl (Nat.le_of_ble_eq_true rfl) zd_SU_read_35 (zk_s_su 0 (by decide)) ?_
  refine zi_aload_n (pc := 38) h (i := 0) zd_SU_read_38 rfl 2 rfl ?_
  refine zi_iload_n (pc := 39) h (i := 3) zd_SU_read_39 rfl 1 rfl ?_
  refine zi_iload (pc := 40) h (i := 4) zd_SU_read_40 0 rfl ?_
  refine zi_if_eq_f (pc := 42) h (tgt := 50) zd_SU_read_42 rfl (by decide) ?_
  refine zi_bipush (pc := 45) h zd_SU_read_45 zq_bi_6 ?_
  refine zi_goto (pc := 47) h (tgt := 52) zd_SU_read_47 rfl ?_
  refine zi_iadd (pc := 52) h zd_SU_read_52 ?_
  refine zi_topv (6) (by decide) ?_
  refine zi_put (pc := 53) h zx_SU 5 5 zq_k5 rfl zq_j_5_7 zw_61 rfl rfl rfl (Nat.le_of_ble_eq_true rfl) zd_SU_read_53 (zk_s_su 5 (by decide)) ?_
  refine zi_aload_n (pc := 56) h (i := 0) zd_SU_read_56 rfl 2 rfl ?_
  refine zi_aload_n (pc := 57) h (i := 1) zd_SU_read_57 rfl 3 rfl ?_
  refine zi_aload_n (pc := 58) h (i := 0) zd_SU_read_58 rfl 2 rfl ?_
  refine zi_get (pc := 59) h zx_SU 5 5 zq_k5 rfl zq_j_5_7 zw_61 rfl zd_SU_read_59 ?_
  refine zi_topv (6) rfl ?_
  refine zi_callV (pc := 62) h (st := [_]) (zc_PK_address (a := 6) (b := 7) zq_in_6_48 ⟨by decide, by decide, by decide⟩) zm_PK_address zw_273 zx_PK zq_k1 rfl ⟨by decide, by decide⟩ zd_SU_read_62 (Nat.le_of_ble_eq_true rfl) rfl ?_
  refine zi_put (pc := 65) h zx_SU 5 1 zq_k5 rfl zq_j_1_7 zw_51 rfl rfl rfl (Nat.le_of_ble_eq_true rfl) zd_SU_read_65 (zk_s_su 1 (by decide)) ?_
  refine zi_aload_n (pc := 68) h (i := 0) zd_SU_read_68 rfl 2 rfl ?_
  refine zi_aload_n (pc := 69) h (i := 1) zd_SU_read_69 rfl 3 rfl ?_
  refine zi_iload_n (pc := 70) h (i := 3) zd_SU_read_70 rfl 1 rfl ?_
  refine zi_iload (pc := 71) h (i := 4) zd_SU_read_71 0 rfl ?_
  refine zi_if_eq_f (pc := 73) h (tgt := 81) zd_SU_read_73 rfl (by decide) ?_
  refine zi_bipush (pc := 76) h zd_SU_read_76 zq_bi_8 ?_
  refine zi_goto (pc := 78) h (tgt := 83) zd_SU_read_78 rfl ?_
  refine zi_iadd (pc := 83) h zd_SU_read_83 ?_
  refine zi_topv (8) (by decide) ?_
  refine zi_callV (pc := 84) h (st := [_]) (zc_PK_address (a := 8) (b := 9) zq_in_8_48 ⟨by decide, by decide, by decide⟩) zm_PK_address zw_273 zx_PK zq_k1 rfl ⟨by decide, by decide⟩ zd_SU_read_84 (Nat.le_of_ble_eq_true rfl) rfl ?_
  refine zi_put (pc := 87) h zx_SU 5 3 zq_k5 rfl zq_j_3_7 zw_57 rfl rfl rfl (Nat.le_of_ble_eq_true rfl) zd_SU_read_87 (zk_s_su 3 (by decide)) ?_
  refine zi_aload_n (pc := 90) h (i := 0) zd_SU_read_90 rfl 2 rfl ?_
  refine zi_get (pc := 91) h zx_SU 5 0 zq_k5 rfl zq_j_0_7 zw_47 rfl zd_SU_read_91 ?_
  refine zi_topv (v 4 &&& 255) rfl ?_
  refine zi_iconst (pc := 94) h zd_SU_read_94 zq_ic_1 ?_
  refine zi_icmp_ne_f (pc := 95) h (tgt := 114) zd_SU_read_95 rfl hk ?_
  refine zi_aload_n (pc := 98) h (i := 0) zd_SU_read_98 rfl 2 rfl ?_
  refine zi_iload_n (pc := 99) h (i := 3) zd_SU_read_99 rfl 1 rfl ?_
  refine zi_bipush (pc := 100) h zd_SU_read_100 zq_bi_12 ?_
  refine zi_iadd (pc := 102) h zd_SU_read_102 ?_
  refine zi_topv (12) (by decide) ?_
  refine zi_put (pc := 103) h zx_SU 5 6 zq_k5 rfl zq_j_6_7 zw_62 rfl rfl rfl (Nat.le_of_ble_eq_true rfl) zd_SU_read_103 (zk_s_su 6 (by decide)) ?_
  refine zi_aload_n (pc := 106) h (i := 0) zd_SU_read_106 rfl 2 rfl ?_
  refine zi_iconst (pc := 107) h zd_SU_read_107 zq_ic_0 ?_
  refine zi_put (pc := 108) h zx_SU 5 4 zq_k5 rfl zq_j_4_7 zw_60 rfl rfl rfl (Nat.le_of_ble_eq_true rfl) zd_SU_read_108 (zk_s_su 4 (by decide)) ?_
  refine zi_goto (pc := 111) h (tgt := 155) zd_SU_read_111 rfl ?_
  refine zi_aload_n (pc := 155) h (i := 0) zd_SU_read_155 rfl 2 rfl ?_
  refine zi_aload_n (pc := 156) h (i := 1) zd_SU_read_156 rfl 3 rfl ?_
  refine zi_get (pc := 157) h zx_PK 1 0 zq_k1 rfl zq_j_0_2 zw_30 rfl zd_SU_read_157 ?_
  refine zi_aload_n (pc := 160) h (i := 0) zd_SU_read_160 rfl 2 rfl ?_
  refine zi_get (pc := 161) h zx_SU 5 6 zq_k5 rfl zq_j_6_7 zw_62 rfl zd_SU_read_161 ?_
  refine zi_topv (12) rfl ?_
  refine zi_iald (pc := 164) h 2 zq_k2 rfl zq_in_12_48 zd_SU_read_164 ?_
  refine zi_put (pc := 165) h zx_SU 5 2 zq_k5 rfl zq_j_2_7 zw_54 rfl rfl rfl (Nat.le_of_ble_eq_true rfl) zd_SU_read_165 (zk_s_su 2 (by decide)) ?_
  exact zi_vreturn (pc := 168) h hr zd_SU_read_168 rfl rfl

set_option maxRecDepth 20000 in
theorem zc_SU_read_100 {l : Launch} {G : zz_G} {F : Nat → va_E} {v : Nat → Int32} {sz : Int32} {lv : Nat → Int32} {lz : Int32} {su : Nat → Int32} {pm : Nat → Nat} {cn : Int32} {fl : Nat → Nat → Int32} {ru : Nat → Nat → Int32} (he : zs_err v = 0) (hk : ¬ v 4 &&& 255 = 1) : zz_M l zy_SU_read zb_SU_read 5 none 2 42 G [.ref (G.2.2 5), .ref (G.2.2 1), .int 1] (zz_K G F v sz lv lz su pm cn fl ru) none (zz_K G F v sz lv lz (zs_rd su (v 4 &&& 255) 6 (zs_adr v 6 7) (zs_adr v 8 9) 10 (v 11) (v 10)) pm cn fl ru) := by
  refine zz_M.of (by decide) (Nat.le_of_ble_eq_true rfl) ?_
  intro X hX h hr
  subst hX
  have h : zz_C X G (zz_A G.2.2) 5 zb_SU_read "PortTranslator$Subject" 2 42 0 0 := h
  refine zi_aload_n (pc := 0) h (i := 1) zd_SU_read_0 rfl 1 rfl ?_
  refine zi_callV (pc := 1) h (st := []) (zc_PK_isError) zm_PK_isError zw_271 zx_PK zq_k1 rfl ⟨by decide, by decide⟩ zd_SU_read_1 (Nat.le_of_ble_eq_true rfl) rfl ?_
  refine zi_if_eq_t (pc := 4) h (tgt := 12) zd_SU_read_4 rfl he ?_
  refine zi_iconst (pc := 12) h zd_SU_read_12 zq_ic_0 ?_
  refine zi_istore_n (pc := 13) h (i := 3) (L' := [(3, _), (0, _), (1, _), (2, _)]) zd_SU_read_13 rfl (by decide) rfl ?_
  refine zi_iload_n (pc := 14) h (i := 2) zd_SU_read_14 rfl 3 rfl ?_
  refine zi_aload_n (pc := 15) h (i := 1) zd_SU_read_15 rfl 2 rfl ?_
  refine zi_callV (pc := 16) h (st := [_]) (zc_PK_isError) zm_PK_isError zw_271 zx_PK zq_k1 rfl ⟨by decide, by decide⟩ zd_SU_read_16 (Nat.le_of_ble_eq_true rfl) rfl ?_
  refine zi_topv (0) he ?_
  refine zi_icmp_eq_f (pc := 19) h (tgt := 26) zd_SU_read_19 rfl (by decide) ?_
  refine zi_iconst (pc := 22) h zd_SU_read_22 zq_ic_1 ?_
  refine zi_goto (pc := 23) h (tgt := 27) zd_SU_read_23 rfl ?_
  refine zi_istore (pc := 27) h (i := 4) (L' := [(4, _), (3, _), (0, _), (1, _), (2, _)]) zd_SU_read_27 (by decide) rfl ?_
  refine zi_aload_n (pc := 29) h (i := 0) zd_SU_read_29 rfl 2 rfl ?_
  refine zi_aload_n (pc := 30) h (i := 1) zd_SU_read_30 rfl 3 rfl ?_
  refine zi_iload_n (pc := 31) h (i := 3) zd_SU_read_31 rfl 1 rfl ?_
  refine zi_callV (pc := 32) h (st := [_]) (zc_PK_kindAt (s := 0) (a := 4) ⟨by decide, by decide, by decide⟩) zm_PK_kindAt zw_272 zx_PK zq_k1 rfl ⟨by decide, by decide⟩ zd_SU_read_32 (Nat.le_of_ble_eq_true rfl) rfl ?_
  refine zi_put (pc := 35) h zx_SU 5 0 zq_k5 rfl zq_j_0_7 zw_47 rfl rfl rfl (Nat.le_of_ble_eq_true rfl) zd_SU_read_35 (zk_s_su 0 (by decide)) ?_
  refine zi_aload_n (pc := 38) h (i := 0) zd_SU_read_38 rfl 2 rfl ?_
  refine zi_iload_n (pc := 39) h (i := 3) zd_SU_read_39 rfl 1 rfl ?_
  refine zi_iload (pc := 40) h (i := 4) zd_SU_read_40 0 rfl ?_
  refine zi_if_eq_f (pc := 42) h (tgt := 50) zd_SU_read_42 rfl (by decide) ?_
  refine zi_bipush (pc := 45) h zd_SU_read_45 zq_bi_6 ?_
  refine zi_goto (pc := 47) h (tgt := 52) zd_SU_read_47 rfl ?_
  refine zi_iadd (pc := 52) h zd_SU_read_52 ?_
  refine zi_topv (6) (by decide) ?_
  refine zi_put (pc := 53) h zx_SU 5 5 zq_k5 rfl zq_j_5_7 zw_61 rfl rfl rfl (Nat.le_of_ble_eq_true rfl) zd_SU_read_53 (zk_s_su 5 (by decide)) ?_
  refine zi_aload_n (pc := 56) h (i := 0) zd_SU_read_56 rfl 2 rfl ?_
  refine zi_aload_n (pc := 57) h (i := 1) zd_SU_read_57 rfl 3 rfl ?_
  refine zi_aload_n (pc := 58) h (i := 0) zd_SU_read_58 rfl 2 rfl ?_
  refine zi_get (pc := 59) h zx_SU 5 5 zq_k5 rfl zq_j_5_7 zw_61 rfl zd_SU_read_59 ?_
  refine zi_topv (6) rfl ?_
  refine zi_callV (pc := 62) h (st := [_]) (zc_PK_address (a := 6) (b := 7) zq_in_6_48 ⟨by decide, by decide, by decide⟩) zm_PK_address zw_273 zx_PK zq_k1 rfl ⟨by decide, by decide⟩ zd_SU_read_62 (Nat.le_of_ble_eq_true rfl) rfl ?_
  refine zi_put (pc := 65) h zx_SU 5 1 zq_k5 rfl zq_j_1_7 zw_51 rfl rfl rfl (Nat.le_of_ble_eq_true rfl) zd_SU_read_65 (zk_s_su 1 (by decide)) ?_
  refine zi_aload_n (pc := 68) h (i := 0) zd_SU_read_68 rfl 2 rfl ?_
  refine zi_aload_n (pc := 69) h (i := 1) zd_SU_read_69 rfl 3 rfl ?_
  refine zi_iload_n (pc := 70) h (i := 3) zd_SU_read_70 rfl 1 rfl ?_
  refine zi_iload (pc := 71) h (i := 4) zd_SU_read_71 0 rfl ?_
  refine zi_if_eq_f (pc := 73) h (tgt := 81) zd_SU_read_73 rfl (by decide) ?_
  refine zi_bipush (pc := 76) h zd_SU_read_76 zq_bi_8 ?_
  refine zi_goto (pc := 78) h (tgt := 83) zd_SU_read_78 rfl ?_
  refine zi_iadd (pc := 83) h zd_SU_read_83 ?_
  refine zi_topv (8) (by decide) ?_
  refine zi_callV (pc := 84) h (st := [_]) (zc_PK_address (a := 8) (b := 9) zq_in_8_48 ⟨by decide, by decide, by decide⟩) zm_PK_address zw_273 zx_PK zq_k1 rfl ⟨by decide, by decide⟩ zd_SU_read_84 (Nat.le_of_ble_eq_true rfl) rfl ?_
  refine zi_put (pc := 87) h zx_SU 5 3 zq_k5 rfl zq_j_3_7 zw_57 rfl rfl rfl (Nat.le_of_ble_eq_true rfl) zd_SU_read_87 (zk_s_su 3 (by decide)) ?_
  refine zi_aload_n (pc := 90) h (i := 0) zd_SU_read_90 rfl 2 rfl ?_
  refine zi_get (pc := 91) h zx_SU 5 0 zq_k5 rfl zq_j_0_7 zw_47 rfl zd_SU_read_91 ?_
  refine zi_topv (v 4 &&& 255) rfl ?_
  refine zi_iconst (pc := 94) h zd_SU_read_94 zq_ic_1 ?_
  refine zi_icmp_ne_t (pc := 95) h (tgt := 114) zd_SU_read_95 rfl hk ?_
  refine zi_aload_n (pc := 114) h (i := 0) zd_SU_read_114 rfl 2 rfl ?_
  refine zi_iload_n (pc := 115) h (i := 3) zd_SU_read_115 rfl 1 rfl ?_
  refine zi_iload (pc := 116) h (i := 4) zd_SU_read_116 0 rfl ?_
  refine zi_if_eq_f (pc := 118) h (tgt := 126) zd_SU_read_118 rfl (by decide) ?_
  refine zi_bipush (pc := 121) h zd_SU_read_121 zq_bi_10 ?_
  refine zi_goto (pc := 123) h (tgt := 128) zd_SU_read_123 rfl ?_
  refine zi_iadd (pc := 128) h zd_SU_read_128 ?_
  refine zi_topv (10) (by decide) ?_
  refine zi_put (pc := 129) h zx_SU 5 6 zq_k5 rfl zq_j_6_7 zw_62 rfl rfl rfl (Nat.le_of_ble_eq_true rfl) zd_SU_read_129 (zk_s_su 6 (by decide)) ?_
  refine zi_aload_n (pc := 132) h (i := 0) zd_SU_read_132 rfl 2 rfl ?_
  refine zi_aload_n (pc := 133) h (i := 1) zd_SU_read_133 rfl 3 rfl ?_
  refine zi_get (pc := 134) h zx_PK 1 0 zq_k1 rfl zq_j_0_2 zw_30 rfl zd_SU_read_134 ?_
  refine zi_iload_n (pc := 137) h (i := 3) zd_SU_read_137 rfl 1 rfl ?_
  refine zi_iload (pc := 138) h (i := 4) zd_SU_read_138 0 rfl ?_
  refine zi_if_eq_f (pc := 140) h (tgt := 148) zd_SU_read_140 rfl (by decide) ?_
  refine zi_bipush (pc := 143) h zd_SU_read_143 zq_bi_11 ?_
  refine zi_goto (pc := 145) h (tgt := 150) zd_SU_read_145 rfl ?_
  refine zi_iadd (pc := 150) h zd_SU_read_150 ?_
  refine zi_topv (11) (by decide) ?_
  refine zi_iald (pc := 151) h 2 zq_k2 rfl zq_in_11_48 zd_SU_read_151 ?_
  refine zi_put (pc := 152) h zx_SU 5 4 zq_k5 rfl zq_j_4_7 zw_60 rfl rfl rfl (Nat.le_of_ble_eq_true rfl) zd_SU_read_152 (zk_s_su 4 (by decide)) ?_
  refine zi_aload_n (pc := 155) h (i := 0) zd_SU_read_155 rfl 2 rfl ?_
  refine zi_aload_n (pc := 156) h (i := 1) zd_SU_read_156 rfl 3 rfl ?_
  refine zi_get (pc := 157) h zx_PK 1 0 zq_k1 rfl zq_j_0_2 zw_30 rfl zd_SU_read_157 ?_
  refine zi_aload_n (pc := 160) h (i := 0) zd_SU_read_160 rfl 2 rfl ?_
  refine zi_get (pc := 161) h zx_SU 5 6 zq_k5 rfl zq_j_6_7 zw_62 rfl zd_SU_read_161 ?_
  refine zi_topv (10) rfl ?_
  refine zi_iald (pc := 164) h 2 zq_k2 rfl zq_in_10_48 zd_SU_read_164 ?_
  refine zi_put (pc := 165) h zx_SU 5 2 zq_k5 rfl zq_j_2_7 zw_54 rfl rfl rfl (Nat.le_of_ble_eq_true rfl) zd_SU_read_165 (zk_s_su 2 (by decide)) ?_
  exact zi_vreturn (pc := 168) h hr zd_SU_read_168 rfl rfl

set_option maxRecDepth 20000 in
theorem zc_SU_read_011 {l : Launch} {G : zz_G} {F : Nat → va_E} {v : Nat → Int32} {sz : Int32} {lv : Nat → Int32} {lz : Int32} {su : Nat → Int32} {pm : Nat → Nat} {cn : Int32} {fl : Nat → Nat → Int32} {ru : Nat → Nat → Int32} (he : ¬ zs_err v = 0) (hk : v 18 &&& 255 = 1) : zz_M l zy_SU_read zb_SU_read 5 none 2 42 G [.ref (G.2.2 5), .ref (G.2.2 1), .int 0] (zz_K G F v sz lv lz su pm cn fl ru) none (zz_K G F v sz lv lz (zs_rd su (v 18 &&& 255) 20 (zs_adr v 20 21) (zs_adr v 22 23) 26 0 (v 26)) pm cn fl ru) := by
  refine zz_M.of (by decide) (Nat.le_of_ble_eq_true rfl) ?_
  intro X hX h hr
  subst hX
  have h : zz_C X G (zz_A G.2.2) 5 zb_SU_read "PortTranslator$Subject" 2 42 0 0 := h
  refine zi_aload_n (pc := 0) h (i := 1) zd_SU_read_0 rfl 1 rfl ?_
  refine zi_callV (pc := 1) h (st := []) (zc_PK_isError) zm_PK_isError zw_271 zx_PK zq_k1 rfl ⟨by decide, by decide⟩ zd_SU_read_1 (Nat.le_of_ble_eq_true rfl) rfl ?_
  refine zi_if_eq_f (pc := 4) h (tgt := 12) zd_SU_read_4 rfl he ?_
  refine zi_bipush (pc := 7) h zd_SU_read_7 zq_bi_14 ?_
  refine zi_goto (pc := 9) h (tgt := 13) zd_SU_read_9 rfl ?_
  refine zi_istore_n (pc := 13) h (i := 3) (L' := [(3, _), (0, _), (1, _), (2, _)]) zd_SU_read_13 rfl (by decide) rfl ?_
  refine zi_iload_n (pc := 14) h (i := 2) zd_SU_read_14 rfl 3 rfl ?_
  refine zi_aload_n (pc := 15) h (i := 1) zd_SU_read_15 rfl 2 rfl ?_
  refine zi_callV (pc := 16) h (st := [_]) (zc_PK_isError) zm_PK_isError zw_271 zx_PK zq_k1 rfl ⟨by decide, by decide⟩ zd_SU_read_16 (Nat.le_of_ble_eq_true rfl) rfl ?_
  refine zi_topv (1) (zs_err1 he) ?_
  refine zi_icmp_eq_f (pc := 19) h (tgt := 26) zd_SU_read_19 rfl (by decide) ?_
  refine zi_iconst (pc := 22) h zd_SU_read_22 zq_ic_1 ?_
  refine zi_goto (pc := 23) h (tgt := 27) zd_SU_read_23 rfl ?_
  refine zi_istore (pc := 27) h (i := 4) (L' := [(4, _), (3, _), (0, _), (1, _), (2, _)]) zd_SU_read_27 (by decide) rfl ?_
  refine zi_aload_n (pc := 29) h (i := 0) zd_SU_read_29 rfl 2 rfl ?_
  refine zi_aload_n (pc := 30) h (i := 1) zd_SU_read_30 rfl 3 rfl ?_
  refine zi_iload_n (pc := 31) h (i := 3) zd_SU_read_31 rfl 1 rfl ?_
  refine zi_callV (pc := 32) h (st := [_]) (zc_PK_kindAt (s := 14) (a := 18) ⟨by decide, by decide, by decide⟩) zm_PK_kindAt zw_272 zx_PK zq_k1 rfl ⟨by decide, by decide⟩ zd_SU_read_32 (Nat.le_of_ble_eq_true rfl) rfl ?_
  refine zi_put (pc := 35) h zx_SU 5 0 zq_k5 rfl zq_j_0_7 zw_47 rfl rfl rfl (Nat.le_of_ble_eq_true rfl) zd_SU_read_35 (zk_s_su 0 (by decide)) ?_
  refine zi_aload_n (pc := 38) h (i := 0) zd_SU_read_38 rfl 2 rfl ?_
  refine zi_iload_n (pc := 39) h (i := 3) zd_SU_read_39 rfl 1 rfl ?_
  refine zi_iload (pc := 40) h (i := 4) zd_SU_read_40 0 rfl ?_
  refine zi_if_eq_f (pc := 42) h (tgt := 50) zd_SU_read_42 rfl (by decide) ?_
  refine zi_bipush (pc := 45) h zd_SU_read_45 zq_bi_6 ?_
  refine zi_goto (pc := 47) h (tgt := 52) zd_SU_read_47 rfl ?_
  refine zi_iadd (pc := 52) h zd_SU_read_52 ?_
  refine zi_topv (20) (by decide) ?_
  refine zi_put (pc := 53) h zx_SU 5 5 zq_k5 rfl zq_j_5_7 zw_61 rfl rfl rfl (Nat.le_of_ble_eq_true rfl) zd_SU_read_53 (zk_s_su 5 (by decide)) ?_
  refine zi_aload_n (pc := 56) h (i := 0) zd_SU_read_56 rfl 2 rfl ?_
  refine zi_aload_n (pc := 57) h (i := 1) zd_SU_read_57 rfl 3 rfl ?_
  refine zi_aload_n (pc := 58) h (i := 0) zd_SU_read_58 rfl 2 rfl ?_
  refine zi_get (pc := 59) h zx_SU 5 5 zq_k5 rfl zq_j_5_7 zw_61 rfl zd_SU_read_59 ?_
  refine zi_topv (20) rfl ?_
  refine zi_callV (pc := 62) h (st := [_]) (zc_PK_address (a := 20) (b := 21) zq_in_20_48 ⟨by decide, by decide, by decide⟩) zm_PK_address zw_273 zx_PK zq_k1 rfl ⟨by decide, by decide⟩ zd_SU_read_62 (Nat.le_of_ble_eq_true rfl) rfl ?_
  refine zi_put (pc := 65) h zx_SU 5 1 zq_k5 rfl zq_j_1_7 zw_51 rfl rfl rfl (Nat.le_of_ble_eq_true rfl) zd_SU_read_65 (zk_s_su 1 (by decide)) ?_
  refine zi_aload_n (pc := 68) h (i := 0) zd_SU_read_68 rfl 2 rfl ?_
  refine zi_aload_n (pc := 69) h (i := 1) zd_SU_read_69 rfl 3 rfl ?_
  refine zi_iload_n (pc := 70) h (i := 3) zd_SU_read_70 rfl 1 rfl ?_
  refine zi_iload (pc := 71) h (i := 4) zd_SU_read_71 0 rfl ?_
  refine zi_if_eq_f (pc := 73) h (tgt := 81) zd_SU_read_73 rfl (by decide) ?_
  refine zi_bipush (pc := 76) h zd_SU_read_76 zq_bi_8 ?_
  refine zi_goto (pc := 78) h (tgt := 83) zd_SU_read_78 rfl ?_
  refine zi_iadd (pc := 83) h zd_SU_read_83 ?_
  refine zi_topv (22) (by decide) ?_
  refine zi_callV (pc := 84) h (st := [_]) (zc_PK_address (a := 22) (b := 23) zq_in_22_48 ⟨by decide, by decide, by decide⟩) zm_PK_address zw_273 zx_PK zq_k1 rfl ⟨by decide, by decide⟩ zd_SU_read_84 (Nat.le_of_ble_eq_true rfl) rfl ?_
  refine zi_put (pc := 87) h zx_SU 5 3 zq_k5 rfl zq_j_3_7 zw_57 rfl rfl rfl (Nat.le_of_ble_eq_true rfl) zd_SU_read_87 (zk_s_su 3 (by decide)) ?_
  refine zi_aload_n (pc := 90) h (i := 0) zd_SU_read_90 rfl 2 rfl ?_
  refine zi_get (pc := 91) h zx_SU 5 0 zq_k5 rfl zq_j_0_7 zw_47 rfl zd_SU_read_91 ?_
  refine zi_topv (v 18 &&& 255) rfl ?_
  refine zi_iconst (pc := 94) h zd_SU_read_94 zq_ic_1 ?_
  refine zi_icmp_ne_f (pc := 95) h (tgt := 114) zd_SU_read_95 rfl hk ?_
  refine zi_aload_n (pc := 98) h (i := 0) zd_SU_read_98 rfl 2 rfl ?_
  refine zi_iload_n (pc := 99) h (i := 3) zd_SU_read_99 rfl 1 rfl ?_
  refine zi_bipush (pc := 100) h zd_SU_read_100 zq_bi_12 ?_
  refine zi_iadd (pc := 102) h zd_SU_read_102 ?_
  refine zi_topv (26) (by decide) ?_
  refine zi_put (pc := 103) h zx_SU 5 6 zq_k5 rfl zq_j_6_7 zw_62 rfl rfl rfl (Nat.le_of_ble_eq_true rfl) zd_SU_read_103 (zk_s_su 6 (by decide)) ?_
  refine zi_aload_n (pc := 106) h (i := 0) zd_SU_read_106 rfl 2 rfl ?_
  refine zi_iconst (pc := 107) h zd_SU_read_107 zq_ic_0 ?_
  refine zi_put (pc := 108) h zx_SU 5 4 zq_k5 rfl zq_j_4_7 zw_60 rfl rfl rfl (Nat.le_of_ble_eq_true rfl) zd_SU_read_108 (zk_s_su 4 (by decide)) ?_
  refine zi_goto (pc := 111) h (tgt := 155) zd_SU_read_111 rfl ?_
  refine zi_aload_n (pc := 155) h (i := 0) zd_SU_read_155 rfl 2 rfl ?_
  refine zi_aload_n (pc := 156) h (i := 1) zd_SU_read_156 rfl 3 rfl ?_
  refine zi_get (pc := 157) h zx_PK 1 0 zq_k1 rfl zq_j_0_2 zw_30 rfl zd_SU_read_157 ?_
  refine zi_aload_n (pc := 160) h (i := 0) zd_SU_read_160 rfl 2 rfl ?_
  refine zi_get (pc := 161) h zx_SU 5 6 zq_k5 rfl zq_j_6_7 zw_62 rfl zd_SU_read_161 ?_
  refine zi_topv (26) rfl ?_
  refine zi_iald (pc := 164) h 2 zq_k2 rfl zq_in_26_48 zd_SU_read_164 ?_
  refine zi_put (pc := 165) h zx_SU 5 2 zq_k5 rfl zq_j_2_7 zw_54 rfl rfl rfl (Nat.le_of_ble_eq_true rfl) zd_SU_read_165 (zk_s_su 2 (by decide)) ?_
  exact zi_vreturn (pc := 168) h hr zd_SU_read_168 rfl rfl

set_option maxRecDepth 20000 in
theorem zc_SU_read_010 {l : Launch} {G : zz_G} {F : Nat → va_E} {v : Nat → Int32} {sz : Int32} {lv : Nat → Int32} {lz : Int32} {su : Nat → Int32} {pm : Nat → Nat} {cn : Int32} {fl : Nat → Nat → Int32} {ru : Nat → Nat → Int32} (he : ¬ zs_err v = 0) (hk : ¬ v 18 &&& 255 = 1) : zz_M l zy_SU_read zb_SU_read 5 none 2 42 G [.ref (G.2.2 5), .ref (G.2.2 1), .int 0] (zz_K G F v sz lv lz su pm cn fl ru) none (zz_K G F v sz lv lz (zs_rd su (v 18 &&& 255) 20 (zs_adr v 20 21) (zs_adr v 22 23) 24 (v 25) (v 24)) pm cn fl ru) := by
  refine zz_M.of (by decide) (Nat.le_of_ble_eq_true rfl) ?_
  intro X hX h hr
  subst hX
  have h : zz_C X G (zz_A G.2.2) 5 zb_SU_read "PortTranslator$Subject" 2 42 0 0 := h
  refine zi_aload_n (pc := 0) h (i := 1) zd_SU_read_0 rfl 1 rfl ?_
  refine zi_callV (pc := 1) h (st := []) (zc_PK_isError) zm_PK_isError zw_271 zx_PK zq_k1 rfl ⟨by decide, by decide⟩ zd_SU_read_1 (Nat.le_of_ble_eq_true rfl) rfl ?_
  refine zi_if_eq_f (pc := 4) h (tgt := 12) zd_SU_read_4 rfl he ?_
  refine zi_bipush (pc := 7) h zd_SU_read_7 zq_bi_14 ?_
  refine zi_goto (pc := 9) h (tgt := 13) zd_SU_read_9 rfl ?_
  refine zi_istore_n (pc := 13) h (i := 3) (L' := [(3, _), (0, _), (1, _), (2, _)]) zd_SU_read_13 rfl (by decide) rfl ?_
  refine zi_iload_n (pc := 14) h (i := 2) zd_SU_read_14 rfl 3 rfl ?_
  refine zi_aload_n (pc := 15) h (i := 1) zd_SU_read_15 rfl 2 rfl ?_
  refine zi_callV (pc := 16) h (st := [_]) (zc_PK_isError) zm_PK_isError zw_271 zx_PK zq_k1 rfl ⟨by decide, by decide⟩ zd_SU_read_16 (Nat.le_of_ble_eq_true rfl) rfl ?_
  refine zi_topv (1) (zs_err1 he) ?_
  refine zi_icmp_eq_f (pc := 19) h (tgt := 26) zd_SU_read_19 rfl (by decide) ?_
  refine zi_iconst (pc := 22) h zd_SU_read_22 zq_ic_1 ?_
  refine zi_goto (pc := 23) h (tgt := 27) zd_SU_read_23 rfl ?_
  refine zi_istore (pc := 27) h (i := 4) (L' := [(4, _), (3, _), (0, _), (1, _), (2, _)]) zd_SU_read_27 (by decide) rfl ?_
  refine zi_aload_n (pc := 29) h (i := 0) zd_SU_read_29 rfl 2 rfl ?_
  refine zi_aload_n (pc := 30) h (i := 1) zd_SU_read_30 rfl 3 rfl ?_
  refine zi_iload_n (pc := 31) h (i := 3) zd_SU_read_31 rfl 1 rfl ?_
  refine zi_callV (pc := 32) h (st := [_]) (zc_PK_kindAt (s := 14) (a := 18) ⟨by decide, by decide, by decide⟩) zm_PK_kindAt zw_272 zx_PK zq_k1 rfl ⟨by decide, by decide⟩ zd_SU_read_32 (Nat.le_of_ble_eq_true rfl) rfl ?_
  refine zi_put (pc := 35) h zx_SU 5 0 zq_k5 rfl zq_j_0_7 zw_47 rfl rfl rfl (Nat.le_of_ble_eq_true rfl) zd_SU_read_35 (zk_s_su 0 (by decide)) ?_
  refine zi_aload_n (pc := 38) h (i := 0) zd_SU_read_38 rfl 2 rfl ?_
  refine zi_iload_n (pc := 39) h (i := 3) zd_SU_read_39 rfl 1 rfl ?_
  refine zi_iload (pc := 40) h (i := 4) zd_SU_read_40 0 rfl ?_
  refine zi_if_eq_f (pc := 42) h (tgt := 50) zd_SU_read_42 rfl (by decide) ?_
  refine zi_bipush (pc := 45) h zd_SU_read_45 zq_bi_6 ?_
  refine zi_goto (pc := 47) h (tgt := 52) zd_SU_read_47 rfl ?_
  refine zi_iadd (pc := 52) h zd_SU_read_52 ?_
  refine zi_topv (20) (by decide) ?_
  refine zi_put (pc := 53) h zx_SU 5 5 zq_k5 rfl zq_j_5_7 zw_61 rfl rfl rfl (Nat.le_of_ble_eq_true rfl) zd_SU_read_53 (zk_s_su 5 (by decide)) ?_
  refine zi_aload_n (pc := 56) h (i := 0) zd_SU_read_56 rfl 2 rfl ?_
  refine zi_aload_n (pc := 57) h (i := 1) zd_SU_read_57 rfl 3 rfl ?_
  refine zi_aload_n (pc := 58) h (i := 0) zd_SU_read_58 rfl 2 rfl ?_
  refine zi_get (pc := 59) h zx_SU 5 5 zq_k5 rfl zq_j_5_7 zw_61 rfl zd_SU_read_59 ?_
  refine zi_topv (20) rfl ?_
  refine zi_callV (pc := 62) h (st := [_]) (zc_PK_address (a := 20) (b := 21) zq_in_20_48 ⟨by decide, by decide, by decide⟩) zm_PK_address zw_273 zx_PK zq_k1 rfl ⟨by decide, by decide⟩ zd_SU_read_62 (Nat.le_of_ble_eq_true rfl) rfl ?_
  refine zi_put (pc := 65) h zx_SU 5 1 zq_k5 rfl zq_j_1_7 zw_51 rfl rfl rfl (Nat.le_of_ble_eq_true rfl) zd_SU_read_65 (zk_s_su 1 (by decide)) ?_
  refine zi_aload_n (pc := 68) h (i := 0) zd_SU_read_68 rfl 2 rfl ?_
  refine zi_aload_n (pc := 69) h (i := 1) zd_SU_read_69 rfl 3 rfl ?_
  refine zi_iload_n (pc := 70) h (i := 3) zd_SU_read_70 rfl 1 rfl ?_
  refine zi_iload (pc := 71) h (i := 4) zd_SU_read_71 0 rfl ?_
  refine zi_if_eq_f (pc := 73) h (tgt := 81) zd_SU_read_73 rfl (by decide) ?_
  refine zi_bipush (pc := 76) h zd_SU_read_76 zq_bi_8 ?_
  refine zi_goto (pc := 78) h (tgt := 83) zd_SU_read_78 rfl ?_
  refine zi_iadd (pc := 83) h zd_SU_read_83 ?_
  refine zi_topv (22) (by decide) ?_
  refine zi_callV (pc := 84) h (st := [_]) (zc_PK_address (a := 22) (b := 23) zq_in_22_48 ⟨by decide, by decide, by decide⟩) zm_PK_address zw_273 zx_PK zq_k1 rfl ⟨by decide, by decide⟩ zd_SU_read_84 (Nat.le_of_ble_eq_true rfl) rfl ?_
  refine zi_put (pc := 87) h zx_SU 5 3 zq_k5 rfl zq_j_3_7 zw_57 rfl rfl rfl (Nat.le_of_ble_eq_true rfl) zd_SU_read_87 (zk_s_su 3 (by decide)) ?_
  refine zi_aload_n (pc := 90) h (i := 0) zd_SU_read_90 rfl 2 rfl ?_
  refine zi_get (pc := 91) h zx_SU 5 0 zq_k5 rfl zq_j_0_7 zw_47 rfl zd_SU_read_91 ?_
  refine zi_topv (v 18 &&& 255) rfl ?_
  refine zi_iconst (pc := 94) h zd_SU_read_94 zq_ic_1 ?_
  refine zi_icmp_ne_t (pc := 95) h (tgt := 114) zd_SU_read_95 rfl hk ?_
  refine zi_aload_n (pc := 114) h (i := 0) zd_SU_read_114 rfl 2 rfl ?_
  refine zi_iload_n (pc := 115) h (i := 3) zd_SU_read_115 rfl 1 rfl ?_
  refine zi_iload (pc := 116) h (i := 4) zd_SU_read_116 0 rfl ?_
  refine zi_if_eq_f (pc := 118) h (tgt := 126) zd_SU_read_118 rfl (by decide) ?_
  refine zi_bipush (pc := 121) h zd_SU_read_121 zq_bi_10 ?_
  refine zi_goto (pc := 123) h (tgt := 128) zd_SU_read_123 rfl ?_
  refine zi_iadd (pc := 128) h zd_SU_read_128 ?_
  refine zi_topv (24) (by decide) ?_
  refine zi_put (pc := 129) h zx_SU 5 6 zq_k5 rfl zq_j_6_7 zw_62 rfl rfl rfl (Nat.le_of_ble_eq_true rfl) zd_SU_read_129 (zk_s_su 6 (by decide)) ?_
  refine zi_aload_n (pc := 132) h (i := 0) zd_SU_read_132 rfl 2 rfl ?_
  refine zi_aload_n (pc := 133) h (i := 1) zd_SU_read_133 rfl 3 rfl ?_
  refine zi_get (pc := 134) h zx_PK 1 0 zq_k1 rfl zq_j_0_2 zw_30 rfl zd_SU_read_134 ?_
  refine zi_iload_n (pc := 137) h (i := 3) zd_SU_read_137 rfl 1 rfl ?_
  refine zi_iload (pc := 138) h (i := 4) zd_SU_read_138 0 rfl ?_
  refine zi_if_eq_f (pc := 140) h (tgt := 148) zd_SU_read_140 rfl (by decide) ?_
  refine zi_bipush (pc := 143) h zd_SU_read_143 zq_bi_11 ?_
  refine zi_goto (pc := 145) h (tgt := 150) zd_SU_read_145 rfl ?_
  refine zi_iadd (pc := 150) h zd_SU_read_150 ?_
  refine zi_topv (25) (by decide) ?_
  refine zi_iald (pc := 151) h 2 zq_k2 rfl zq_in_25_48 zd_SU_read_151 ?_
  refine zi_put (pc := 152) h zx_SU 5 4 zq_k5 rfl zq_j_4_7 zw_60 rfl rfl rfl (Nat.le_of_ble_eq_true rfl) zd_SU_read_152 (zk_s_su 4 (by decide)) ?_
  refine zi_aload_n (pc := 155) h (i := 0) zd_SU_read_155 rfl 2 rfl ?_
  refine zi_aload_n (pc := 156) h (i := 1) zd_SU_read_156 rfl 3 rfl ?_
  refine zi_get (pc := 157) h zx_PK 1 0 zq_k1 rfl zq_j_0_2 zw_30 rfl zd_SU_read_157 ?_
  refine zi_aload_n (pc := 160) h (i := 0) zd_SU_read_160 rfl 2 rfl ?_
  refine zi_get (pc := 161) h zx_SU 5 6 zq_k5 rfl zq_j_6_7 zw_62 rfl zd_SU_read_161 ?_
  refine zi_topv (24) rfl ?_
  refine zi_iald (pc := 164) h 2 zq_k2 rfl zq_in_24_48 zd_SU_read_164 ?_
  refine zi_put (pc := 165) h zx_SU 5 2 zq_k5 rfl zq_j_2_7 zw_54 rfl rfl rfl (Nat.le_of_ble_eq_true rfl) zd_SU_read_165 (zk_s_su 2 (by decide)) ?_
  exact zi_vreturn (pc := 168) h hr zd_SU_read_168 rfl rfl

set_option maxRecDepth 20000 in
theorem zc_SU_read_001 {l : Launch} {G : zz_G} {F : Nat → va_E} {v : Nat → Int32} {sz : Int32} {lv : Nat → Int32} {lz : Int32} {su : Nat → Int32} {pm : Nat → Nat} {cn : Int32} {fl : Nat → Nat → Int32} {ru : Nat → Nat → Int32} (he : zs_err v = 0) (hk : v 4 &&& 255 = 1) : zz_M l zy_SU_read zb_SU_read 5 none 2 42 G [.ref (G.2.2 5), .ref (G.2.2 1), .int 0] (zz_K G F v sz lv lz su pm cn fl ru) none (zz_K G F v sz lv lz (zs_rd su (v 4 &&& 255) 8 (zs_adr v 8 9) (zs_adr v 6 7) 12 0 (v 12)) pm cn fl ru) := by
  refine zz_M.of (by decide) (Nat.le_of_ble_eq_true rfl) ?_
  intro X hX h hr
  subst hX
  have h : zz_C X G (zz_A G.2.2) 5 zb_SU_read "PortTranslator$Subject" 2 42 0 0 := h
  refine zi_aload_n (pc := 0) h (i := 1) zd_SU_read_0 rfl 1 rfl ?_
  refine zi_callV (pc := 1) h (st := []) (zc_PK_isError) zm_PK_isError zw_271 zx_PK zq_k1 rfl ⟨by decide, by decide⟩ zd_SU_read_1 (Nat.le_of_ble_eq_true rfl) rfl ?_
  refine zi_if_eq_t (pc := 4) h (tgt := 12) zd_SU_read_4 rfl he ?_
  refine zi_iconst (pc := 12) h zd_SU_read_12 zq_ic_0 ?_
  refine zi_istore_n (pc := 13) h (i := 3) (L' := [(3, _), (0, _), (1, _), (2, _)]) zd_SU_read_13 rfl (by decide) rfl ?_
  refine zi_iload_n (pc := 14) h (i := 2) zd_SU_read_14 rfl 3 rfl ?_
  refine zi_aload_n (pc := 15) h (i := 1) zd_SU_read_15 rfl 2 rfl ?_
  refine zi_callV (pc := 16) h (st := [_]) (zc_PK_isError) zm_PK_isError zw_271 zx_PK zq_k1 rfl ⟨by decide, by decide⟩ zd_SU_read_16 (Nat.le_of_ble_eq_true rfl) rfl ?_
  refine zi_topv (0) he ?_
  refine zi_icmp_eq_t (pc := 19) h (tgt := 26) zd_SU_read_19 rfl (by decide) ?_
  refine zi_iconst (pc := 26) h zd_SU_read_26 zq_ic_0 ?_
  refine zi_istore (pc := 27) h (i := 4) (L' := [(4, _), (3, _), (0, _), (1, _), (2, _)]) zd_SU_read_27 (by decide) rfl ?_
  refine zi_aload_n (pc := 29) h (i := 0) zd_SU_read_29 rfl 2 rfl ?_
  refine zi_aload_n (pc := 30) h (i := 1) zd_SU_read_30 rfl 3 rfl ?_
  refine zi_iload_n (pc := 31) h (i := 3) zd_SU_read_31 rfl 1 rfl ?_
  refine zi_callV (pc := 32) h (st := [_]) (zc_PK_kindAt (s := 0) (a := 4) ⟨by decide, by decide, by decide⟩) zm_PK_kindAt zw_272 zx_PK zq_k1 rfl ⟨by decide, by decide⟩ zd_SU_read_32 (Nat.le_of_ble_eq_true rfl) rfl ?_
  refine zi_put (pc := 35) h zx_SU 5 0 zq_k5 rfl zq_j_0_7 zw_47 rfl rfl rfl (Nat.le_of_ble_eq_true rfl) zd_SU_read_35 (zk_s_su 0 (by decide)) ?_
  refine zi_aload_n (pc := 38) h (i := 0) zd_SU_read_38 rfl 2 rfl ?_
  refine zi_iload_n (pc := 39) h (i := 3) zd_SU_read_39 rfl 1 rfl ?_
  refine zi_iload (pc := 40) h (i := 4) zd_SU_read_40 0 rfl ?_
  refine zi_if_eq_t (pc := 42) h (tgt := 50) zd_SU_read_42 rfl (by decide) ?_
  refine zi_bipush (pc := 50) h zd_SU_read_50 zq_bi_8 ?_
  refine zi_iadd (pc := 52) h zd_SU_read_52 ?_
  refine zi_topv (8) (by decide) ?_
  refine zi_put (pc := 53) h zx_SU 5 5 zq_k5 rfl zq_j_5_7 zw_61 rfl rfl rfl (Nat.le_of_ble_eq_true rfl) zd_SU_read_53 (zk_s_su 5 (by decide)) ?_
  refine zi_aload_n (pc := 56) h (i := 0) zd_SU_read_56 rfl 2 rfl ?_
  refine zi_aload_n (pc := 57) h (i := 1) zd_SU_read_57 rfl 3 rfl ?_
  refine zi_aload_n (pc := 58) h (i := 0) zd_SU_read_58 rfl 2 rfl ?_
  refine zi_get (pc := 59) h zx_SU 5 5 zq_k5 rfl zq_j_5_7 zw_61 rfl zd_SU_read_59 ?_
  refine zi_topv (8) rfl ?_
  refine zi_callV (pc := 62) h (st := [_]) (zc_PK_address (a := 8) (b := 9) zq_in_8_48 ⟨by decide, by decide, by decide⟩) zm_PK_address zw_273 zx_PK zq_k1 rfl ⟨by decide, by decide⟩ zd_SU_read_62 (Nat.le_of_ble_eq_true rfl) rfl ?_
  refine zi_put (pc := 65) h zx_SU 5 1 zq_k5 rfl zq_j_1_7 zw_51 rfl rfl rfl (Nat.le_of_ble_eq_true rfl) zd_SU_read_65 (zk_s_su 1 (by decide)) ?_
  refine zi_aload_n (pc := 68) h (i := 0) zd_SU_read_68 rfl 2 rfl ?_
  refine zi_aload_n (pc := 69) h (i := 1) zd_SU_read_69 rfl 3 rfl ?_
  refine zi_iload_n (pc := 70) h (i := 3) zd_SU_read_70 rfl 1 rfl ?_
  refine zi_iload (pc := 71) h (i := 4) zd_SU_read_71 0 rfl ?_
  refine zi_if_eq_t (pc := 73) h (tgt := 81) zd_SU_read_73 rfl (by decide) ?_
  refine zi_bipush (pc := 81) h zd_SU_read_81 zq_bi_6 ?_
  refine zi_iadd (pc := 83) h zd_SU_read_83 ?_
  refine zi_topv (6) (by decide) ?_
  refine zi_callV (pc := 84) h (st := [_]) (zc_PK_address (a := 6) (b := 7) zq_in_6_48 ⟨by decide, by decide, by decide⟩) zm_PK_address zw_273 zx_PK zq_k1 rfl ⟨by decide, by decide⟩ zd_SU_read_84 (Nat.le_of_ble_eq_true rfl) rfl ?_
  refine zi_put (pc := 87) h zx_SU 5 3 zq_k5 rfl zq_j_3_7 zw_57 rfl rfl rfl (Nat.le_of_ble_eq_true rfl) zd_SU_read_87 (zk_s_su 3 (by decide)) ?_
  refine zi_aload_n (pc := 90) h (i := 0) zd_SU_read_90 rfl 2 rfl ?_
  refine zi_get (pc := 91) h zx_SU 5 0 zq_k5 rfl zq_j_0_7 zw_47 rfl zd_SU_read_91 ?_
  refine zi_topv (v 4 &&& 255) rfl ?_
  refine zi_iconst (pc := 94) h zd_SU_read_94 zq_ic_1 ?_
  refine zi_icmp_ne_f (pc := 95) h (tgt := 114) zd_SU_read_95 rfl hk ?_
  refine zi_aload_n (pc := 98) h (i := 0) zd_SU_read_98 rfl 2 rfl ?_
  refine zi_iload_n (pc := 99) h (i := 3) zd_SU_read_99 rfl 1 rfl ?_
  refine zi_bipush (pc := 100) h zd_SU_read_100 zq_bi_12 ?_
  refine zi_iadd (pc := 102) h zd_SU_read_102 ?_
  refine zi_topv (12) (by decide) ?_
  refine zi_put (pc := 103) h zx_SU 5 6 zq_k5 rfl zq_j_6_7 zw_62 rfl rfl rfl (Nat.le_of_ble_eq_true rfl) zd_SU_read_103 (zk_s_su 6 (by decide)) ?_
  refine zi_aload_n (pc := 106) h (i := 0) zd_SU_read_106 rfl 2 rfl ?_
  refine zi_iconst (pc := 107) h zd_SU_read_107 zq_ic_0 ?_
  refine zi_put (pc := 108) h zx_SU 5 4 zq_k5 rfl zq_j_4_7 zw_60 rfl rfl rfl (Nat.le_of_ble_eq_true rfl) zd_SU_read_108 (zk_s_su 4 (by decide)) ?_
  refine zi_goto (pc := 111) h (tgt := 155) zd_SU_read_111 rfl ?_
  refine zi_aload_n (pc := 155) h (i := 0) zd_SU_read_155 rfl 2 rfl ?_
  refine zi_aload_n (pc := 156) h (i := 1) zd_SU_read_156 rfl 3 rfl ?_
  refine zi_get (pc := 157) h zx_PK 1 0 zq_k1 rfl zq_j_0_2 zw_30 rfl zd_SU_read_157 ?_
  refine zi_aload_n (pc := 160) h (i := 0) zd_SU_read_160 rfl 2 rfl ?_
  refine zi_get (pc := 161) h zx_SU 5 6 zq_k5 rfl zq_j_6_7 zw_62 rfl zd_SU_read_161 ?_
  refine zi_topv (12) rfl ?_
  refine zi_iald (pc := 164) h 2 zq_k2 rfl zq_in_12_48 zd_SU_read_164 ?_
  refine zi_put (pc := 165) h zx_SU 5 2 zq_k5 rfl zq_j_2_7 zw_54 rfl rfl rfl (Nat.le_of_ble_eq_true rfl) zd_SU_read_165 (zk_s_su 2 (by decide)) ?_
  exact zi_vreturn (pc := 168) h hr zd_SU_read_168 rfl rfl

set_option maxRecDepth 20000 in
theorem zc_SU_read_000 {l : Launch} {G : zz_G} {F : Nat → va_E} {v : Nat → Int32} {sz : Int32} {lv : Nat → Int32} {lz : Int32} {su : Nat → Int32} {pm : Nat → Nat} {cn : Int32} {fl : Nat → Nat → Int32} {ru : Nat → Nat → Int32} (he : zs_err v = 0) (hk : ¬ v 4 &&& 255 = 1) : zz_M l zy_SU_read zb_SU_read 5 none 2 42 G [.ref (G.2.2 5), .ref (G.2.2 1), .int 0] (zz_K G F v sz lv lz su pm cn fl ru) none (zz_K G F v sz lv lz (zs_rd su (v 4 &&& 255) 8 (zs_adr v 8 9) (zs_adr v 6 7) 11 (v 10) (v 11)) pm cn fl ru) := by
  refine zz_M.of (by decide) (Nat.le_of_ble_eq_true rfl) ?_
  intro X hX h hr
  subst hX
  have h : zz_C X G (zz_A G.2.2) 5 zb_SU_read "PortTranslator$Subject" 2 42 0 0 := h
  refine zi_aload_n (pc := 0) h (i := 1) zd_SU_read_0 rfl 1 rfl ?_
  refine zi_callV (pc := 1) h (st := []) (zc_PK_isError) zm_PK_isError zw_271 zx_PK zq_k1 rfl ⟨by decide, by decide⟩ zd_SU_read_1 (Nat.le_of_ble_eq_true rfl) rfl ?_
  refine zi_if_eq_t (pc := 4) h (tgt := 12) zd_SU_read_4 rfl he ?_
  refine zi_iconst (pc := 12) h zd_SU_read_12 zq_ic_0 ?_
  refine zi_istore_n (pc := 13) h (i := 3) (L' := [(3, _), (0, _), (1, _), (2, _)]) zd_SU_read_13 rfl (by decide) rfl ?_
  refine zi_iload_n (pc := 14) h (i := 2) zd_SU_read_14 rfl 3 rfl ?_
  refine zi_aload_n (pc := 15) h (i := 1) zd_SU_read_15 rfl 2 rfl ?_
  refine zi_callV (pc := 16) h (st := [_]) (zc_PK_isError) zm_PK_isError zw_271 zx_PK zq_k1 rfl ⟨by decide, by decide⟩ zd_SU_read_16 (Nat.le_of_ble_eq_true rfl) rfl ?_
  refine zi_topv (0) he ?_
  refine zi_icmp_eq_t (pc := 19) h (tgt := 26) zd_SU_read_19 rfl (by decide) ?_
  refine zi_iconst (pc := 26) h zd_SU_read_26 zq_ic_0 ?_
  refine zi_istore (pc := 27) h (i := 4) (L' := [(4, _), (3, _), (0, _), (1, _), (2, _)]) zd_SU_read_27 (by decide) rfl ?_
  refine zi_aload_n (pc := 29) h (i := 0) zd_SU_read_29 rfl 2 rfl ?_
  refine zi_aload_n (pc := 30) h (i := 1) zd_SU_read_30 rfl 3 rfl ?_
  refine zi_iload_n (pc := 31) h (i := 3) zd_SU_read_31 rfl 1 rfl ?_
  refine zi_callV (pc := 32) h (st := [_]) (zc_PK_kindAt (s := 0) (a := 4) ⟨by decide, by decide, by decide⟩) zm_PK_kindAt zw_272 zx_PK zq_k1 rfl ⟨by decide, by decide⟩ zd_SU_read_32 (Nat.le_of_ble_eq_true rfl) rfl ?_
  refine zi_put (pc := 35) h zx_SU 5 0 zq_k5 rfl zq_j_0_7 zw_47 rfl rfl rfl (Nat.le_of_ble_eq_true rfl) zd_SU_read_35 (zk_s_su 0 (by decide)) ?_
  refine zi_aload_n (pc := 38) h (i := 0) zd_SU_read_38 rfl 2 rfl ?_
  refine zi_iload_n (pc := 39) h (i := 3) zd_SU_read_39 rfl 1 rfl ?_
  refine zi_iload (pc := 40) h (i := 4) zd_SU_read_40 0 rfl ?_
  refine zi_if_eq_t (pc := 42) h (tgt := 50) zd_SU_read_42 rfl (by decide) ?_
  refine zi_bipush (pc := 50) h zd_SU_read_50 zq_bi_8 ?_
  refine zi_iadd (pc := 52) h zd_SU_read_52 ?_
  refine zi_topv (8) (by decide) ?_
  refine zi_put (pc := 53) h zx_SU 5 5 zq_k5 rfl zq_j_5_7 zw_61 rfl rfl rfl (Nat.le_of_ble_eq_true rfl) zd_SU_read_53 (zk_s_su 5 (by decide)) ?_
  refine zi_aload_n (pc := 56) h (i := 0) zd_SU_read_56 rfl 2 rfl ?_
  refine zi_aload_n (pc := 57) h (i := 1) zd_SU_read_57 rfl 3 rfl ?_
  refine zi_aload_n (pc := 58) h (i := 0) zd_SU_read_58 rfl 2 rfl ?_
  refine zi_get (pc := 59) h zx_SU 5 5 zq_k5 rfl zq_j_5_7 zw_61 rfl zd_SU_read_59 ?_
  refine zi_topv (8) rfl ?_
  refine zi_callV (pc := 62) h (st := [_]) (zc_PK_address (a := 8) (b := 9) zq_in_8_48 ⟨by decide, by decide, by decide⟩) zm_PK_address zw_273 zx_PK zq_k1 rfl ⟨by decide, by decide⟩ zd_SU_read_62 (Nat.le_of_ble_eq_true rfl) rfl ?_
  refine zi_put (pc := 65) h zx_SU 5 1 zq_k5 rfl zq_j_1_7 zw_51 rfl rfl rfl (Nat.le_of_ble_eq_true rfl) zd_SU_read_65 (zk_s_su 1 (by decide)) ?_
  refine zi_aload_n (pc := 68) h (i := 0) zd_SU_read_68 rfl 2 rfl ?_
  refine zi_aload_n (pc := 69) h (i := 1) zd_SU_read_69 rfl 3 rfl ?_
  refine zi_iload_n (pc := 70) h (i := 3) zd_SU_read_70 rfl 1 rfl ?_
  refine zi_iload (pc := 71) h (i := 4) zd_SU_read_71 0 rfl ?_
  refine zi_if_eq_t (pc := 73) h (tgt := 81) zd_SU_read_73 rfl (by decide) ?_
  refine zi_bipush (pc := 81) h zd_SU_read_81 zq_bi_6 ?_
  refine zi_iadd (pc := 83) h zd_SU_read_83 ?_
  refine zi_topv (6) (by decide) ?_
  refine zi_callV (pc := 84) h (st := [_]) (zc_PK_address (a := 6) (b := 7) zq_in_6_48 ⟨by decide, by decide, by decide⟩) zm_PK_address zw_273 zx_PK zq_k1 rfl ⟨by decide, by decide⟩ zd_SU_read_84 (Nat.le_of_ble_eq_true rfl) rfl ?_
  refine zi_put (pc := 87) h zx_SU 5 3 zq_k5 rfl zq_j_3_7 zw_57 rfl rfl rfl (Nat.le_of_ble_eq_true rfl) zd_SU_read_87 (zk_s_su 3 (by decide)) ?_
  refine zi_aload_n (pc := 90) h (i := 0) zd_SU_read_90 rfl 2 rfl ?_
  refine zi_get (pc := 91) h zx_SU 5 0 zq_k5 rfl zq_j_0_7 zw_47 rfl zd_SU_read_91 ?_
  refine zi_topv (v 4 &&& 255) rfl ?_
  refine zi_iconst (pc := 94) h zd_SU_read_94 zq_ic_1 ?_
  refine zi_icmp_ne_t (pc := 95) h (tgt := 114) zd_SU_read_95 rfl hk ?_
  refine zi_aload_n (pc := 114) h (i := 0) zd_SU_read_114 rfl 2 rfl ?_
  refine zi_iload_n (pc := 115) h (i := 3) zd_SU_read_115 rfl 1 rfl ?_
  refine zi_iload (pc := 116) h (i := 4) zd_SU_read_116 0 rfl ?_
  refine zi_if_eq_t (pc := 118) h (tgt := 126) zd_SU_read_118 rfl (by decide) ?_
  refine zi_bipush (pc := 126) h zd_SU_read_126 zq_bi_11 ?_
  refine zi_iadd (pc := 128) h zd_SU_read_128 ?_
  refine zi_topv (11) (by decide) ?_
  refine zi_put (pc := 129) h zx_SU 5 6 zq_k5 rfl zq_j_6_7 zw_62 rfl rfl rfl (Nat.le_of_ble_eq_true rfl) zd_SU_read_129 (zk_s_su 6 (by decide)) ?_
  refine zi_aload_n (pc := 132) h (i := 0) zd_SU_read_132 rfl 2 rfl ?_
  refine zi_aload_n (pc := 133) h (i := 1) zd_SU_read_133 rfl 3 rfl ?_
  refine zi_get (pc := 134) h zx_PK 1 0 zq_k1 rfl zq_j_0_2 zw_30 rfl zd_SU_read_134 ?_
  refine zi_iload_n (pc := 137) h (i := 3) zd_SU_read_137 rfl 1 rfl ?_
  refine zi_iload (pc := 138) h (i := 4) zd_SU_read_138 0 rfl ?_
  refine zi_if_eq_t (pc := 140) h (tgt := 148) zd_SU_read_140 rfl (by decide) ?_
  refine zi_bipush (pc := 148) h zd_SU_read_148 zq_bi_10 ?_
  refine zi_iadd (pc := 150) h zd_SU_read_150 ?_
  refine zi_topv (10) (by decide) ?_
  refine zi_iald (pc := 151) h 2 zq_k2 rfl zq_in_10_48 zd_SU_read_151 ?_
  refine zi_put (pc := 152) h zx_SU 5 4 zq_k5 rfl zq_j_4_7 zw_60 rfl rfl rfl (Nat.le_of_ble_eq_true rfl) zd_SU_read_152 (zk_s_su 4 (by decide)) ?_
  refine zi_aload_n (pc := 155) h (i := 0) zd_SU_read_155 rfl 2 rfl ?_
  refine zi_aload_n (pc := 156) h (i := 1) zd_SU_read_156 rfl 3 rfl ?_
  refine zi_get (pc := 157) h zx_PK 1 0 zq_k1 rfl zq_j_0_2 zw_30 rfl zd_SU_read_157 ?_
  refine zi_aload_n (pc := 160) h (i := 0) zd_SU_read_160 rfl 2 rfl ?_
  refine zi_get (pc := 161) h zx_SU 5 6 zq_k5 rfl zq_j_6_7 zw_62 rfl zd_SU_read_161 ?_
  refine zi_topv (11) rfl ?_
  refine zi_iald (pc := 164) h 2 zq_k2 rfl zq_in_11_48 zd_SU_read_164 ?_
  refine zi_put (pc := 165) h zx_SU 5 2 zq_k5 rfl zq_j_2_7 zw_54 rfl rfl rfl (Nat.le_of_ble_eq_true rfl) zd_SU_read_165 (zk_s_su 2 (by decide)) ?_
  exact zi_vreturn (pc := 168) h hr zd_SU_read_168 rfl rfl

set_option maxRecDepth 20000 in
theorem zc_SU_write {l : Launch} {G : zz_G} {F : Nat → va_E} {v : Nat → Int32} {sz : Int32} {lv : Nat → Int32} {lz : Int32} {su : Nat → Int32} {pm : Nat → Nat} {cn : Int32} {fl : Nat → Nat → Int32} {ru : Nat → Nat → Int32} {a b d : Nat} {x p : Int32} (h1 : zz_ix (su 5) a 48) (h2 : zz_ix (su 5 + 1) b 48) (h3 : zz_ix (su 6) d 48) : zz_M l zy_SU_write zb_SU_write 5 none 3 66 G [.ref (G.2.2 5), .ref (G.2.2 1), .int x, .int p] (zz_K G F v sz lv lz su pm cn fl ru) none (zz_K G F (zs_wrt v su a b d x p) sz lv lz su pm cn fl ru) := by
  refine zz_M.of (by decide) (Nat.le_of_ble_eq_true rfl) ?_
  intro X hX h hr
  subst hX
  have h : zz_C X G (zz_A G.2.2) 5 zb_SU_write "PortTranslator$Subject" 3 66 0 0 := h
  refine zi_aload_n (pc := 0) h (i := 1) zd_SU_write_0 rfl 1 rfl ?_
  refine zi_callV (pc := 1) h (st := []) (zc_PK_isError) zm_PK_isError zw_271 zx_PK zq_k1 rfl ⟨by decide, by decide⟩ zd_SU_write_1 (Nat.le_of_ble_eq_true rfl) rfl ?_
  refine zi_if_eq (pc := 4) h (tgt := 52) zd_SU_write_4 rfl ?_ ?_
  · intro b4
    refine zi_aload_n (pc := 52) h (i := 1) zd_SU_write_52 rfl 1 rfl ?_
    refine zi_aload_n (pc := 53) h (i := 0) zd_SU_write_53 rfl 0 rfl ?_
    refine zi_get (pc := 54) h zx_SU 5 5 zq_k5 rfl zq_j_5_7 zw_61 rfl zd_SU_write_54 ?_
    refine zi_iload_n (pc := 57) h (i := 2) zd_SU_write_57 rfl 2 rfl ?_
    refine zi_callVv (pc := 58) h (st := []) (zc_PK_setAddress (a := a) (b := b) h1 h2) zm_PK_setAddress zw_379 zx_PK zq_k1 rfl ⟨by decide, by decide⟩ zd_SU_write_58 (Nat.le_of_ble_eq_true rfl) rfl ?_
    refine zi_aload_n (pc := 61) h (i := 1) zd_SU_write_61 rfl 1 rfl ?_
    refine zi_get (pc := 62) h zx_PK 1 0 zq_k1 rfl zq_j_0_2 zw_30 rfl zd_SU_write_62 ?_
    refine zi_aload_n (pc := 65) h (i := 0) zd_SU_write_65 rfl 0 rfl ?_
    refine zi_get (pc := 66) h zx_SU 5 6 zq_k5 rfl zq_j_6_7 zw_62 rfl zd_SU_write_66 ?_
    refine zi_iload_n (pc := 69) h (i := 3) zd_SU_write_69 rfl 3 rfl ?_
    refine zi_iast (pc := 70) h 2 zq_k2 rfl h3 zd_SU_write_70 zk_u_v ?_
    exact zi_vreturn (pc := 71) h hr zd_SU_write_71 rfl (by rw [zs_wrt, if_pos b4])
  · intro b4
    refine zi_aload_n (pc := 7) h (i := 0) zd_SU_write_7 rfl 0 rfl ?_
    refine zi_get (pc := 8) h zx_SU 5 1 zq_k5 rfl zq_j_1_7 zw_51 rfl zd_SU_write_8 ?_
    refine zi_bipush (pc := 11) h zd_SU_write_11 zq_bi_16 ?_
    refine zi_iushr (pc := 13) h zd_SU_write_13 (show _ = zs_ush _ _ from rfl) ?_
    refine zi_iload_n (pc := 14) h (i := 2) zd_SU_write_14 rfl 2 rfl ?_
    refine zi_bipush (pc := 15) h zd_SU_write_15 zq_bi_16 ?_
    refine zi_iushr (pc := 17) h zd_SU_write_17 (show _ = zs_ush _ _ from rfl) ?_
    refine zi_callS (pc := 18) h (st := []) (zc_SU_change) zm_SU_change zw_367 ⟨by decide, by decide⟩ zd_SU_write_18 (Nat.le_of_ble_eq_true rfl) rfl ?_
    refine zi_aload_n (pc := 21) h (i := 0) zd_SU_write_21 rfl 0 rfl ?_
    refine zi_get (pc := 22) h zx_SU 5 1 zq_k5 rfl zq_j_1_7 zw_51 rfl zd_SU_write_22 ?_
    refine zi_ldc (pc := 25) h zw_370 zd_SU_write_25 ?_
    refine zi_iand (pc := 27) h zd_SU_write_27 ?_
    refine zi_iload_n (pc := 28) h (i := 2) zd_SU_write_28 rfl 2 rfl ?_
    refine zi_ldc (pc := 29) h zw_370 zd_SU_write_29 ?_
    refine zi_iand (pc := 31) h zd_SU_write_31 ?_
    refine zi_callS (pc := 32) h (st := [_]) (zc_SU_change) zm_SU_change zw_367 ⟨by decide, by decide⟩ zd_SU_write_32 (Nat.le_of_ble_eq_true rfl) rfl ?_
    refine zi_iadd (pc := 35) h zd_SU_write_35 ?_
    refine zi_istore (pc := 36) h (i := 4) (L' := [(4, _), (0, _), (1, _), (2, _), (3, _)]) zd_SU_write_36 (by decide) rfl ?_
    refine zi_aload_n (pc := 38) h (i := 1) zd_SU_write_38 rfl 2 rfl ?_
    refine zi_iload (pc := 39) h (i := 4) zd_SU_write_39 0 rfl ?_
    refine zi_aload_n (pc := 41) h (i := 0) zd_SU_write_41 rfl 1 rfl ?_
    refine zi_get (pc := 42) h zx_SU 5 2 zq_k5 rfl zq_j_2_7 zw_54 rfl zd_SU_write_42 ?_
    refine zi_iload_n (pc := 45) h (i := 3) zd_SU_write_45 rfl 4 rfl ?_
    refine zi_callS (pc := 46) h (st := [_, _]) (zc_SU_change) zm_SU_change zw_367 ⟨by decide, by decide⟩ zd_SU_write_46 (Nat.le_of_ble_eq_true rfl) rfl ?_
    refine zi_callVv (pc := 49) h (st := []) (zc_PK_adjustOther) zm_PK_adjustOther zw_371 zx_PK zq_k1 rfl ⟨by decide, by decide⟩ zd_SU_write_49 (Nat.le_of_ble_eq_true rfl) rfl ?_
    refine zi_aload_n (pc := 52) h (i := 1) zd_SU_write_52 rfl 2 rfl ?_
    refine zi_aload_n (pc := 53) h (i := 0) zd_SU_write_53 rfl 1 rfl ?_
    refine zi_get (pc := 54) h zx_SU 5 5 zq_k5 rfl zq_j_5_7 zw_61 rfl zd_SU_write_54 ?_
    refine zi_iload_n (pc := 57) h (i := 2) zd_SU_write_57 rfl 3 rfl ?_
    refine zi_callVv (pc := 58) h (st := []) (zc_PK_setAddress (a := a) (b := b) h1 h2) zm_PK_setAddress zw_379 zx_PK zq_k1 rfl ⟨by decide, by decide⟩ zd_SU_write_58 (Nat.le_of_ble_eq_true rfl) rfl ?_
    refine zi_aload_n (pc := 61) h (i := 1) zd_SU_write_61 rfl 2 rfl ?_
    refine zi_get (pc := 62) h zx_PK 1 0 zq_k1 rfl zq_j_0_2 zw_30 rfl zd_SU_write_62 ?_
    refine zi_aload_n (pc := 65) h (i := 0) zd_SU_write_65 rfl 1 rfl ?_
    refine zi_get (pc := 66) h zx_SU 5 6 zq_k5 rfl zq_j_6_7 zw_62 rfl zd_SU_write_66 ?_
    refine zi_iload_n (pc := 69) h (i := 3) zd_SU_write_69 rfl 4 rfl ?_
    refine zi_iast (pc := 70) h 2 zq_k2 rfl h3 zd_SU_write_70 zk_u_v ?_
    exact zi_vreturn (pc := 71) h hr zd_SU_write_71 rfl (by rw [zs_wrt, if_neg b4])
