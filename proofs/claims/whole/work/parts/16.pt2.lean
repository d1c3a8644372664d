def zs_inj (pm : Nat → Nat) : Prop := ∀ i j, i < 12 → j < 12 → pm i = pm j → i = j
def zs_vo (v su : Nat → Int32) (pm : Nat → Nat) (fl : Nat → Nat → Int32) (i a b d : Nat) : Nat → Int32 := zs_trl v su 6 7 a b d (-969710591) (fl (pm i) 5)
def zs_vi (v su : Nat → Int32) (pm : Nat → Nat) (fl : Nat → Nat → Int32) (i a b d : Nat) : Nat → Int32 := zs_trl v su 8 9 a b d (fl (pm i) 1) (fl (pm i) 2)
section
variable {l : Launch} {G : zz_G} {F : Nat → va_E} {v : Nat → Int32} {sz : Int32} {lv : Nat → Int32} {lz : Int32} {su : Nat → Int32} {pm : Nat → Nat} {fl ru : Nat → Nat → Int32} {c : Nat}
theorem zc_FT_findByInner_n (hpm : ∀ i, pm i < 12) (hc : c ≤ 12) (hq : zs_ff (zs_mi pm fl su) 0 c = none) : zz_M l zy_FT_findByInner zb_FT_findByInner 4 (some (.object "PortTranslator$Flow")) 1 21 G [.ref (G.2.2 6), .ref (G.2.2 5)] (zz_K G F v sz lv lz su pm (nI c) fl ru) (some .null) (zz_K G F v sz lv lz su pm (nI c) fl ru) := by
  have h := zc_FT_findByInner (l := l) (G := G) (F := F) (v := v) (sz := sz) (lv := lv) (lz := lz) (su := su) (fl := fl) (ru := ru) hpm hc
  rw [hq] at h
  exact h
theorem zc_FT_findByInner_s {i : Nat} (hpm : ∀ i, pm i < 12) (hc : c ≤ 12) (hq : zs_ff (zs_mi pm fl su) 0 c = some i) : zz_M l zy_FT_findByInner zb_FT_findByInner 4 (some (.object "PortTranslator$Flow")) 1 21 G [.ref (G.2.2 6), .ref (G.2.2 5)] (zz_K G F v sz lv lz su pm (nI c) fl ru) (some (.ref (G.2.2 (10 + pm i)))) (zz_K G F v sz lv lz su pm (nI c) fl ru) := by
  have h := zc_FT_findByInner (l := l) (G := G) (F := F) (v := v) (sz := sz) (lv := lv) (lz := lz) (su := su) (fl := fl) (ru := ru) hpm hc
  rw [hq] at h
  exact h
theorem zc_FT_findByOwn_n (hpm : ∀ i, pm i < 12) (hc : c ≤ 12) (hq : zs_ff (zs_mo pm fl su) 0 c = none) : zz_M l zy_FT_findByOwn zb_FT_findByOwn 4 (some (.object "PortTranslator$Flow")) 1 22 G [.ref (G.2.2 6), .ref (G.2.2 5)] (zz_K G F v sz lv lz su pm (nI c) fl ru) (some .null) (zz_K G F v sz lv lz su pm (nI c) fl ru) := by
  have h := zc_FT_findByOwn (l := l) (G := G) (F := F) (v := v) (sz := sz) (lv := lv) (lz := lz) (su := su) (fl := fl) (ru := ru) hpm hc
  rw [hq] at h
  exact h
theorem zc_FT_findByOwn_s {i : Nat} (hpm : ∀ i, pm i < 12) (hc : c ≤ 12) (hq : zs_ff (zs_mo pm fl su) 0 c = some i) : zz_M l zy_FT_findByOwn zb_FT_findByOwn 4 (some (.object "PortTranslator$Flow")) 1 22 G [.ref (G.2.2 6), .ref (G.2.2 5)] (zz_K G F v sz lv lz su pm (nI c) fl ru) (some (.ref (G.2.2 (10 + pm i)))) (zz_K G F v sz lv lz su pm (nI c) fl ru) := by
  have h := zc_FT_findByOwn (l := l) (G := G) (F := F) (v := v) (sz := sz) (lv := lv) (lz := lz) (su := su) (fl := fl) (ru := ru) hpm hc
  rw [hq] at h
  exact h
end
def zs_sbo (v su : Nat → Int32) : Nat → Int32 := if zs_err v = 0 then (if v 4 &&& 255 = 1 then (zs_rd su (v 4 &&& 255) 6 (zs_adr v 6 7) (zs_adr v 8 9) 12 0 (v 12)) else (zs_rd su (v 4 &&& 255) 6 (zs_adr v 6 7) (zs_adr v 8 9) 10 (v 11) (v 10))) else (if v 18 &&& 255 = 1 then (zs_rd su (v 18 &&& 255) 22 (zs_adr v 22 23) (zs_adr v 20 21) 26 0 (v 26)) else (zs_rd su (v 18 &&& 255) 22 (zs_adr v 22 23) (zs_adr v 20 21) 25 (v 24) (v 25)))
def zs_sbi (v su : Nat → Int32) : Nat → Int32 := if zs_err v = 0 then (if v 4 &&& 255 = 1 then (zs_rd su (v 4 &&& 255) 8 (zs_adr v 8 9) (zs_adr v 6 7) 12 0 (v 12)) else (zs_rd su (v 4 &&& 255) 8 (zs_adr v 8 9) (zs_adr v 6 7) 11 (v 10) (v 11))) else (if v 18 &&& 255 = 1 then (zs_rd su (v 18 &&& 255) 20 (zs_adr v 20 21) (zs_adr v 22 23) 26 0 (v 26)) else (zs_rd su (v 18 &&& 255) 20 (zs_adr v 20 21) (zs_adr v 22 23) 24 (v 25) (v 24)))

set_option maxRecDepth 20000 in
theorem zc_PT_so_a {l : Launch} {G : zz_G} {F : Nat → va_E} {v : Nat → Int32} {sz : Int32} {lv : Nat → Int32} {lz : Int32} {su : Nat → Int32} {pm : Nat → Nat} {fl : Nat → Nat → Int32} {ru : Nat → Nat → Int32} {c : Nat} (hi1 : zv_ins (zs_adr v 6 7) = 0) : zz_M l zy_PT_sendOut zb_PT_sendOut 3 (some .int) 5 113 G [.ref (G.2.2 0)] (zz_K G F v sz lv lz su pm (nI c) fl ru) (some (.int 5)) (zz_K G F v sz lv lz su pm (nI c) fl ru) := by
  refine zz_M.of (by decide) (Nat.le_of_ble_eq_true rfl) ?_
  intro X hX h hr
  subst hX
  have h : zz_C X G (zz_A G.2.2) 3 zb_PT_sendOut "PortTranslator" 5 113 0 0 := h
  refine zi_aload_n (pc := 0) h (i := 0) zd_PT_sendOut_0 rfl 0 rfl ?_
  refine zi_get (pc := 1) h zx_PT 0 0 zq_k0 rfl zq_j_0_5 zw_174 rfl zd_PT_sendOut_1 ?_
  refine zi_bipush (pc := 4) h zd_PT_sendOut_4 zq_bi_6 ?_
  refine zi_callV (pc := 6) h (st := []) (zc_PK_address (a := 6) (b := 7) zq_in_6_48 ⟨by decide, by decide, by decide⟩) zm_PK_address zw_281 zx_PK zq_k1 rfl ⟨by decide, by decide⟩ zd_PT_sendOut_6 (Nat.le_of_ble_eq_true rfl) rfl ?_
  refine zi_istore_n (pc := 9) h (i := 1) (L' := [(1, _), (0, _)]) zd_PT_sendOut_9 rfl (by decide) rfl ?_
  refine zi_iload_n (pc := 10) h (i := 1) zd_PT_sendOut_10 rfl 0 rfl ?_
  refine zi_callS (pc := 11) h (st := []) (zc_PT_isInside) zm_PT_isInside zw_282 ⟨by decide, by decide⟩ zd_PT_sendOut_11 (Nat.le_of_ble_eq_true rfl) rfl ?_
  refine zi_if_eq_t (pc := 14) h (tgt := 32) zd_PT_sendOut_14 rfl hi1 ?_
  refine zi_iconst (pc := 32) h zd_PT_sendOut_32 zq_ic_5 ?_
  exact zi_ireturn (pc := 33) h hr zd_PT_sendOut_33 rfl rfl

set_option maxRecDepth 20000 in
theorem zc_PT_so_b {l : Launch} {G : zz_G} {F : Nat → va_E} {v : Nat → Int32} {sz : Int32} {lv : Nat → Int32} {lz : Int32} {su : Nat → Int32} {pm : Nat → Nat} {fl : Nat → Nat → Int32} {ru : Nat → Nat → Int32} {c : Nat} (hi1 : ¬ zv_ins (zs_adr v 6 7) = 0) (ho1 : zv_out (zs_adr v 8 9) = 0) : zz_M l zy_PT_sendOut zb_PT_sendOut 3 (some .int) 5 113 G [.ref (G.2.2 0)] (zz_K G F v sz lv lz su pm (nI c) fl ru) (some (.int 5)) (zz_K G F v sz lv lz su pm (nI c) fl ru) := by
  refine zz_M.of (by decide) (Nat.le_of_ble_eq_true rfl) ?_
  intro X hX h hr
  subst hX
  have h : zz_C X G (zz_A G.2.2) 3 zb_PT_sendOut "PortTranslator" 5 113 0 0 := h
  refine zi_aload_n (pc := 0) h (i := 0) zd_PT_sendOut_0 rfl 0 rfl ?_
  refine zi_get (pc := 1) h zx_PT 0 0 zq_k0 rfl zq_j_0_5 zw_174 rfl zd_PT_sendOut_1 ?_
  refine zi_bipush (pc := 4) h zd_PT_sendOut_4 zq_bi_6 ?_
  refine zi_callV (pc := 6) h (st := []) (zc_PK_address (a := 6) (b := 7) zq_in_6_48 ⟨by decide, by decide, by decide⟩) zm_PK_address zw_281 zx_PK zq_k1 rfl ⟨by decide, by decide⟩ zd_PT_sendOut_6 (Nat.le_of_ble_eq_true rfl) rfl ?_
  refine zi_istore_n (pc := 9) h (i := 1) (L' := [(1, _), (0, _)]) zd_PT_sendOut_9 rfl (by decide) rfl ?_
  refine zi_iload_n (pc := 10) h (i := 1) zd_PT_sendOut_10 rfl 0 rfl ?_
  refine zi_callS (pc := 11) h (st := []) (zc_PT_isInside) zm_PT_isInside zw_282 ⟨by decide, by decide⟩ zd_PT_sendOut_11 (Nat.le_of_ble_eq_true rfl) rfl ?_
  refine zi_if_eq_f (pc := 14) h (tgt := 32) zd_PT_sendOut_14 rfl hi1 ?_
  refine zi_aload_n (pc := 17) h (i := 0) zd_PT_sendOut_17 rfl 1 rfl ?_
  refine zi_get (pc := 18) h zx_PT 0 0 zq_k0 rfl zq_j_0_5 zw_174 rfl zd_PT_sendOut_18 ?_
  refine zi_bipush (pc := 21) h zd_PT_sendOut_21 zq_bi_8 ?_
  refine zi_callV (pc := 23) h (st := []) (zc_PK_address (a := 8) (b := 9) zq_in_8_48 ⟨by decide, by decide, by decide⟩) zm_PK_address zw_281 zx_PK zq_k1 rfl ⟨by decide, by decide⟩ zd_PT_sendOut_23 (Nat.le_of_ble_eq_true rfl) rfl ?_
  refine zi_callS (pc := 26) h (st := []) (zc_PT_isOutside) zm_PT_isOutside zw_287 ⟨by decide, by decide⟩ zd_PT_sendOut_26 (Nat.le_of_ble_eq_true rfl) rfl ?_
  refine zi_if_ne_f (pc := 29) h (tgt := 34) zd_PT_sendOut_29 rfl ho1 ?_
  refine zi_iconst (pc := 32) h zd_PT_sendOut_32 zq_ic_5 ?_
  exact zi_ireturn (pc := 33) h hr zd_PT_sendOut_33 rfl rfl

set_option maxRecDepth 20000 in
theorem zc_PT_so_c {l : Launch} {G : zz_G} {F : Nat → va_E} {v : Nat → Int32} {sz : Int32} {lv : Nat → Int32} {lz : Int32} {su : Nat → Int32} {pm : Nat → Nat} {fl : Nat → Nat → Int32} {ru : Nat → Nat → Int32} {c : Nat} (hpm : ∀ i, pm i < 12) (hc : c ≤ 12) (hi1 : ¬ zv_ins (zs_adr v 6 7) = 0) (ho1 : ¬ zv_out (zs_adr v 8 9) = 0) (hq : zs_ff (zs_mi pm fl su) 0 c = none) (he : ¬ zs_err v = 0) : zz_M l zy_PT_sendOut zb_PT_sendOut 3 (some .int) 5 113 G [.ref (G.2.2 0)] (zz_K G F v sz lv lz su pm (nI c) fl ru) (some (.int 5)) (zz_K G F v sz lv lz su pm (nI c) fl ru) := by
  refine zz_M.of (by decide) (Nat.le_of_ble_eq_true rfl) ?_
  intro X hX h hr
  subst hX
  have h : zz_C X G (zz_A G.2.2) 3 zb_PT_sendOut "PortTranslator" 5 113 0 0 := h
  refine zi_aload_n (pc := 0) h (i := 0) zd_PT_sendOut_0 rfl 0 rfl ?_
  refine zi_get (pc := 1) h zx_PT 0 0 zq_k0 rfl zq_j_0_5 zw_174 rfl zd_PT_sendOut_1 ?_
  refine zi_bipush (pc := 4) h zd_PT_sendOut_4 zq_bi_6 ?_
  refine zi_callV (pc := 6) h (st := []) (zc_PK_address (a := 6) (b := 7) zq_in_6_48 ⟨by decide, by decide, by decide⟩) zm_PK_address zw_281 zx_PK zq_k1 rfl ⟨by decide, by decide⟩ zd_PT_sendOut_6 (Nat.le_of_ble_eq_true rfl) rfl ?_
  refine zi_istore_n (pc := 9) h (i := 1) (L' := [(1, _), (0, _)]) zd_PT_sendOut_9 rfl (by decide) rfl ?_
  refine zi_iload_n (pc := 10) h (i := 1) zd_PT_sendOut_10 rfl 0 rfl ?_
  refine zi_callS (pc := 11) h (st := []) (zc_PT_isInside) zm_PT_isInside zw_282 ⟨by decide, by decide⟩ zd_PT_sendOut_11 (Nat.le_of_ble_eq_true rfl) rfl ?_
  refine zi_if_eq_f (pc := 14) h (tgt := 32) zd_PT_sendOut_14 rfl hi1 ?_
  refine zi_aload_n (pc := 17) h (i := 0) zd_PT_sendOut_17 rfl 1 rfl ?_
  refine zi_get (pc := 18) h zx_PT 0 0 zq_k0 rfl zq_j_0_5 zw_174 rfl zd_PT_sendOut_18 ?_
  refine zi_bipush (pc := 21) h zd_PT_sendOut_21 zq_bi_8 ?_
  refine zi_callV (pc := 23) h (st := []) (zc_PK_address (a := 8) (b := 9) zq_in_8_48 ⟨by decide, by decide, by decide⟩) zm_PK_address zw_281 zx_PK zq_k1 rfl ⟨by decide, by decide⟩ zd_PT_sendOut_23 (Nat.le_of_ble_eq_true rfl) rfl ?_
  refine zi_callS (pc := 26) h (st := []) (zc_PT_isOutside) zm_PT_isOutside zw_287 ⟨by decide, by decide⟩ zd_PT_sendOut_26 (Nat.le_of_ble_eq_true rfl) rfl ?_
  refine zi_if_ne_t (pc := 29) h (tgt := 34) zd_PT_sendOut_29 rfl ho1 ?_
  refine zi_aload_n (pc := 34) h (i := 0) zd_PT_sendOut_34 rfl 1 rfl ?_
  refine zi_get (pc := 35) h zx_PT 0 3 zq_k0 rfl zq_j_3_5 zw_177 rfl zd_PT_sendOut_35 ?_
  refine zi_aload_n (pc := 38) h (i := 0) zd_PT_sendOut_38 rfl 1 rfl ?_
  refine zi_get (pc := 39) h zx_PT 0 2 zq_k0 rfl zq_j_2_5 zw_176 rfl zd_PT_sendOut_39 ?_
  refine zi_callV (pc := 42) h (st := []) (zc_FT_findByInner_n hpm hc hq) zm_FT_findByInner zw_291 zx_FT zq_k6 rfl ⟨by decide, by decide⟩ zd_PT_sendOut_42 (Nat.le_of_ble_eq_true rfl) rfl ?_
  refine zi_astore_nN (pc := 45) h (i := 2) (L' := [(2, _), (1, _), (0, _)]) zd_PT_sendOut_45 rfl (by decide) rfl ?_
  refine zi_aload_n (pc := 46) h (i := 0) zd_PT_sendOut_46 rfl 2 rfl ?_
  refine zi_get (pc := 47) h zx_PT 0 0 zq_k0 rfl zq_j_0_5 zw_174 rfl zd_PT_sendOut_47 ?_
  refine zi_callV (pc := 50) h (st := []) (zc_PK_isError) zm_PK_isError zw_303 zx_PK zq_k1 rfl ⟨by decide, by decide⟩ zd_PT_sendOut_50 (Nat.le_of_ble_eq_true rfl) rfl ?_
  refine zi_if_eq_f (pc := 53) h (tgt := 70) zd_PT_sendOut_53 rfl he ?_
  refine zi_aload_nN (pc := 56) h (i := 2) zd_PT_sendOut_56 rfl 0 rfl ?_
  refine zi_ifnullN (pc := 57) h (x := 0) (tgt := 68) zd_PT_sendOut_57 rfl ?_
  refine zi_iconst (pc := 68) h zd_PT_sendOut_68 zq_ic_5 ?_
  exact zi_ireturn (pc := 69) h hr zd_PT_sendOut_69 rfl rfl

set_option maxRecDepth 20000 in
theorem zc_PT_so_d {l : Launch} {G : zz_G} {F : Nat → va_E} {v : Nat → Int32} {sz : Int32} {lv : Nat → Int32} {lz : Int32} {su : Nat → Int32} {pm : Nat → Nat} {fl : Nat → Nat → Int32} {ru : Nat → Nat → Int32} {c i : Nat} (hpm : ∀ i, pm i < 12) (hc : c ≤ 12) (hi1 : ¬ zv_ins (zs_adr v 6 7) = 0) (ho1 : ¬ zv_out (zs_adr v 8 9) = 0) (hq : zs_ff (zs_mi pm fl su) 0 c = some i) (he : ¬ zs_err v = 0) (hf : ¬ fl (pm i) 1 = zs_adr v 6 7) : zz_M l zy_PT_sendOut zb_PT_sendOut 3 (some .int) 5 113 G [.ref (G.2.2 0)] (zz_K G F v sz lv lz su pm (nI c) fl ru) (some (.int 5)) (zz_K G F v sz lv lz su pm (nI c) fl ru) := by
  refine zz_M.of (by decide) (Nat.le_of_ble_eq_true rfl) ?_
  intro X hX h hr
  subst hX
  have h : zz_C X G (zz_A G.2.2) 3 zb_PT_sendOut "PortTranslator" 5 113 0 0 := h
  refine zi_aload_n (pc := 0) h (i := 0) zd_PT_sendOut_0 rfl 0 rfl ?_
  refine zi_get (pc := 1) h zx_PT 0 0 zq_k0 rfl zq_j_0_5 zw_174 rfl zd_PT_sendOut_1 ?_
  refine zi_bipush (pc := 4) h zd_PT_sendOut_4 zq_bi_6 ?_
  refine zi_callV (pc := 6) h (st := []) (zc_PK_address (a := 6) (b := 7) zq_in_6_48 ⟨by decide, by decide, by decide⟩) zm_PK_address zw_281 zx_PK zq_k1 rfl ⟨by decide, by decide⟩ zd_PT_sendOut_6 (Nat.le_of_ble_eq_true rfl) rfl ?_
  refine zi_istore_n (pc := 9) h (i := 1) (L' := [(1, _), (0, _)]) zd_PT_sendOut_9 rfl (by decide) rfl ?_
  refine zi_iload_n (pc := 10) h (i := 1) zd_PT_sendOut_10 rfl 0 rfl ?_
  refine zi_callS (pc := 11) h (st := []) (zc_PT_isInside) zm_PT_isInside zw_282 ⟨by decide, by decide⟩ zd_PT_sendOut_11 (Nat.le_of_ble_eq_true rfl) rfl ?_
  refine zi_if_eq_f (pc := 14) h (tgt := 32) zd_PT_sendOut_14 rfl hi1 ?_
  refine zi_aload_n (pc := 17) h (i := 0) zd_PT_sendOut_17 rfl 1 rfl ?_
  refine zi_get (pc := 18) h zx_PT 0 0 zq_k0 rfl zq_j_0_5 zw_174 rfl zd_PT_sendOut_18 ?_
  refine zi_bipush (pc := 21) h zd_PT_sendOut_21 zq_bi_8 ?_
  refine zi_callV (pc := 23) h (st := []) (zc_PK_address (a := 8) (b := 9) zq_in_8_48 ⟨by decide, by decide, by decide⟩) zm_PK_address zw_281 zx_PK zq_k1 rfl ⟨by decide, by decide⟩ zd_PT_sendOut_23 (Nat.le_of_ble_eq_true rfl) rfl ?_
  refine zi_callS (pc := 26) h (st := []) (zc_PT_isOutside) zm_PT_isOutside zw_287 ⟨by decide, by decide⟩ zd_PT_sendOut_26 (Nat.le_of_ble_eq_true rfl) rfl ?_
  refine zi_if_ne_t (pc := 29) h (tgt := 34) zd_PT_sendOut_29 rfl ho1 ?_
  refine zi_aload_n (pc := 34) h (i := 0) zd_PT_sendOut_34 rfl 1 rfl ?_
  refine zi_get (pc := 35) h zx_PT 0 3 zq_k0 rfl zq_j_3_5 zw_177 rfl zd_PT_sendOut_35 ?_
  refine zi_aload_n (pc := 38) h (i := 0) zd_PT_sendOut_38 rfl 1 rfl ?_
  refine zi_get (pc := 39) h zx_PT 0 2 zq_k0 rfl zq_j_2_5 zw_176 rfl zd_PT_sendOut_39 ?_
  refine zi_callV (pc := 42) h (st := []) (zc_FT_findByInner_s hpm hc hq) zm_FT_findByInner zw_291 zx_FT zq_k6 rfl ⟨by decide, by decide⟩ zd_PT_sendOut_42 (Nat.le_of_ble_eq_true rfl) rfl ?_
  refine zi_astore_n (pc := 45) h (i := 2) (L' := [(2, _), (1, _), (0, _)]) zd_PT_sendOut_45 rfl (by decide) rfl ?_
  refine zi_aload_n (pc := 46) h (i := 0) zd_PT_sendOut_46 rfl 2 rfl ?_
  refine zi_get (pc := 47) h zx_PT 0 0 zq_k0 rfl zq_j_0_5 zw_174 rfl zd_PT_sendOut_47 ?_
  refine zi_callV (pc := 50) h (st := []) (zc_PK_isError) zm_PK_isError zw_303 zx_PK zq_k1 rfl ⟨by decide, by decide⟩ zd_PT_sendOut_50 (Nat.le_of_ble_eq_true rfl) rfl ?_
  refine zi_if_eq_f (pc := 53) h (tgt := 70) zd_PT_sendOut_53 rfl he ?_
  refine zi_aload_n (pc := 56) h (i := 2) zd_PT_sendOut_56 rfl 0 rfl ?_
  refine zi_ifnull (pc := 57) h zd_PT_sendOut_57 ?_
  refine zi_aload_n (pc := 60) h (i := 2) zd_PT_sendOut_60 rfl 0 rfl ?_
  refine zi_get (pc := 61) h zx_FL _ 1 (zq_fl (hpm i)) (zk_at_fl _ (hpm i)) zq_j_1_10 zw_93 rfl zd_PT_sendOut_61 ?_
  refine zi_iload_n (pc := 64) h (i := 1) zd_PT_sendOut_64 rfl 1 rfl ?_
  refine zi_icmp_eq_f (pc := 65) h (tgt := 102) zd_PT_sendOut_65 rfl hf ?_
  refine zi_iconst (pc := 68) h zd_PT_sendOut_68 zq_ic_5 ?_
  exact zi_ireturn (pc := 69) h hr zd_PT_sendOut_69 rfl rfl

set_option maxRecDepth 20000 in
theorem zc_PT_so_e {l : Launch} {G : zz_G} {F : Nat → va_E} {v : Nat → Int32} {sz : Int32} {lv : Nat → Int32} {lz : Int32} {su : Nat → Int32} {pm : Nat → Nat} {fl : Nat → Nat → Int32} {ru : Nat → Nat → Int32} {c : Nat} (hpm : ∀ i, pm i < 12) (hc : c ≤ 12) (hi1 : ¬ zv_ins (zs_adr v 6 7) = 0) (ho1 : ¬ zv_out (zs_adr v 8 9) = 0) (hq : zs_ff (zs_mi pm fl su) 0 c = none) (he : zs_err v = 0) (hb : ∀ i, ru i 4 = 0 ∨ ru i 4 = 1) (hm : zs_may v su ru = 0) : zz_M l zy_PT_sendOut zb_PT_sendOut 3 (some .int) 5 113 G [.ref (G.2.2 0)] (zz_K G F v sz lv lz su pm (nI c) fl ru) (some (.int 5)) (zz_K G F v sz lv lz su pm (nI c) fl ru) := by
  refine zz_M.of (by decide) (Nat.le_of_ble_eq_true rfl) ?_
  intro X hX h hr
  subst hX
  have h : zz_C X G (zz_A G.2.2) 3 zb_PT_sendOut "PortTranslator" 5 113 0 0 := h
  refine zi_aload_n (pc := 0) h (i := 0) zd_PT_sendOut_0 rfl 0 rfl ?_
  refine zi_get (pc := 1) h zx_PT 0 0 zq_k0 rfl zq_j_0_5 zw_174 rfl zd_PT_sendOut_1 ?_
  refine zi_bipush (pc := 4) h zd_PT_sendOut_4 zq_bi_6 ?_
  refine zi_callV (pc := 6) h (st := []) (zc_PK_address (a := 6) (b := 7) zq_in_6_48 ⟨by decide, by decide, by decide⟩) zm_PK_address zw_281 zx_PK zq_k1 rfl ⟨by decide, by decide⟩ zd_PT_sendOut_6 (Nat.le_of_ble_eq_true rfl) rfl ?_
  refine zi_istore_n (pc := 9) h (i := 1) (L' := [(1, _), (0, _)]) zd_PT_sendOut_9 rfl (by decide) rfl ?_
  refine zi_iload_n (pc := 10) h (i := 1) zd_PT_sendOut_10 rfl 0 rfl ?_
  refine zi_callS (pc := 11) h (st := []) (zc_PT_isInside) zm_PT_isInside zw_282 ⟨by decide, by decide⟩ zd_PT_sendOut_11 (Nat.le_of_ble_eq_true rfl) rfl ?_
  refine zi_if_eq_f (pc := 14) h (tgt := 32) zd_PT_sendOut_14 rfl hi1 ?_
  refine zi_aload_n (pc := 17) h (i := 0) zd_PT_sendOut_17 rfl 1 rfl ?_
  refine zi_get (pc := 18) h zx_PT 0 0 zq_k0 rfl zq_j_0_5 zw_174 rfl zd_PT_sendOut_18 ?_
  refine zi_bipush (pc := 21) h zd_PT_sendOut_21 zq_bi_8 ?_
  refine zi_callV (pc := 23) h (st := []) (zc_PK_address (a := 8) (b := 9) zq_in_8_48 ⟨by decide, by decide, by decide⟩) zm_PK_address zw_281 zx_PK zq_k1 rfl ⟨by decide, by decide⟩ zd_PT_sendOut_23 (Nat.le_of_ble_eq_true rfl) rfl ?_
  refine zi_callS (pc := 26) h (st := []) (zc_PT_isOutside) zm_PT_isOutside zw_287 ⟨by decide, by decide⟩ zd_PT_sendOut_26 (Nat.le_of_ble_eq_true rfl) rfl ?_
  refine zi_if_ne_t (pc := 29) h (tgt := 34) zd_PT_sendOut_29 rfl ho1 ?_
  refine zi_aload_n (pc := 34) h (i := 0) zd_PT_sendOut_34 rfl 1 rfl ?_
  refine zi_get (pc := 35) h zx_PT 0 3 zq_k0 rfl zq_j_3_5 zw_177 rfl zd_PT_sendOut_35 ?_
  refine zi_aload_n (pc := 38) h (i := 0) zd_PT_sendOut_38 rfl 1 rfl ?_
  refine zi_get (pc := 39) h zx_PT 0 2 zq_k0 rfl zq_j_2_5 zw_176 rfl zd_PT_sendOut_39 ?_
  refine zi_callV (pc := 42) h (st := []) (zc_FT_findByInner_n hpm hc hq) zm_FT_findByInner zw_291 zx_FT zq_k6 rfl ⟨by decide, by decide⟩ zd_PT_sendOut_42 (Nat.le_of_ble_eq_true rfl) rfl ?_
  refine zi_astore_nN (pc := 45) h (i := 2) (L' := [(2, _), (1, _), (0, _)]) zd_PT_sendOut_45 rfl (by decide) rfl ?_
  refine zi_aload_n (pc := 46) h (i := 0) zd_PT_sendOut_46 rfl 2 rfl ?_
  refine zi_get (pc := 47) h zx_PT 0 0 zq_k0 rfl zq_j_0_5 zw_174 rfl zd_PT_sendOut_47 ?_
  refine zi_callV (pc := 50) h (st := []) (zc_PK_isError) zm_PK_isError zw_303 zx_PK zq_k1 rfl ⟨by decide, by decide⟩ zd_PT_sendOut_50 (Nat.le_of_ble_eq_true rfl) rfl ?_
  refine zi_if_eq_t (pc := 53) h (tgt := 70) zd_PT_sendOut_53 rfl he ?_
  refine zi_aload_nN (pc := 70) h (i := 2) zd_PT_sendOut_70 rfl 0 rfl ?_
  refine zi_ifnonnullN (pc := 71) h (x := 0) zd_PT_sendOut_71 ?_
  refine zi_aload_n (pc := 74) h (i := 0) zd_PT_sendOut_74 rfl 2 rfl ?_
  refine zi_callV (pc := 75) h (st := []) (zc_PT_mayBeginFlow hb) zm_PT_mayBeginFlow zw_304 zx_PT zq_k0 rfl ⟨by decide, by decide⟩ zd_PT_sendOut_75 (Nat.le_of_ble_eq_true rfl) rfl ?_
  refine zi_if_ne_f (pc := 78) h (tgt := 83) zd_PT_sendOut_78 rfl hm ?_
  refine zi_iconst (pc := 81) h zd_PT_sendOut_81 zq_ic_5 ?_
  exact zi_ireturn (pc := 82) h hr zd_PT_sendOut_82 rfl rfl

set_option maxRecDepth 20000 in
theorem zc_PT_so_f1 {l : Launch} {G : zz_G} {F : Nat → va_E} {v : Nat → Int32} {sz : Int32} {lv : Nat → Int32} {lz : Int32} {su : Nat → Int32} {pm : Nat → Nat} {fl : Nat → Nat → Int32} {ru : Nat → Nat → Int32} (hpm : ∀ i, pm i < 12) (hi1 : ¬ zv_ins (zs_adr v 6 7) = 0) (ho1 : ¬ zv_out (zs_adr v 8 9) = 0) (hq : zs_ff (zs_mi pm fl su) 0 12 = none) (he : zs_err v = 0) (hb : ∀ i, ru i 4 = 0 ∨ ru i 4 = 1) (hm : ¬ zs_may v su ru = 0) : zz_M l zy_PT_sendOut zb_PT_sendOut 3 (some .int) 5 113 G [.ref (G.2.2 0)] (zz_K G F v sz lv lz su pm (nI 12) fl ru) (some (.int 6)) (zz_K G F v sz lv lz su pm (nI 12) fl ru) := by
  refine zz_M.of (by decide) (Nat.le_of_ble_eq_true rfl) ?_
  intro X hX h hr
  subst hX
  have h : zz_C X G (zz_A G.2.2) 3 zb_PT_sendOut "PortTranslator" 5 113 0 0 := h
  refine zi_aload_n (pc := 0) h (i := 0) zd_PT_sendOut_0 rfl 0 rfl ?_
  refine zi_get (pc := 1) h zx_PT 0 0 zq_k0 rfl zq_j_0_5 zw_174 rfl zd_PT_sendOut_1 ?_
  refine zi_bipush (pc := 4) h zd_PT_sendOut_4 zq_bi_6 ?_
  refine zi_callV (pc := 6) h (st := []) (zc_PK_address (a := 6) (b := 7) zq_in_6_48 ⟨by decide, by decide, by decide⟩) zm_PK_address zw_281 zx_PK zq_k1 rfl ⟨by decide, by decide⟩ zd_PT_sendOut_6 (Nat.le_of_ble_eq_true rfl) rfl ?_
  refine zi_istore_n (pc := 9) h (i := 1) (L' := [(1, _), (0, _)]) zd_PT_sendOut_9 rfl (by decide) rfl ?_
  refine zi_iload_n (pc := 10) h (i := 1) zd_PT_sendOut_10 rfl 0 rfl ?_
  refine zi_callS (pc := 11) h (st := []) (zc_PT_isInside) zm_PT_isInside zw_282 ⟨by decide, by decide⟩ zd_PT_sendOut_11 (Nat.le_of_ble_eq_true rfl) rfl ?_
  refine zi_if_eq_f (pc := 14) h (tgt := 32) zd_PT_sendOut_14 rfl hi1 ?_
  refine zi_aload_n (pc := 17) h (i := 0) zd_PT_sendOut_17 rfl 1 rfl ?_
  refine zi_get (pc := 18) h zx_PT 0 0 zq_k0 rfl zq_j_0_5 zw_174 rfl zd_PT_sendOut_18 ?_
  refine zi_bipush (pc := 21) h zd_PT_sendOut_21 zq_bi_8 ?_
  refine zi_callV (pc := 23) h (st := []) (zc_PK_address (a := 8) (b := 9) zq_in_8_48 ⟨by decide, by decide, by decide⟩) zm_PK_address zw_281 zx_PK zq_k1 rfl ⟨by decide, by decide⟩ zd_PT_sendOut_23 (Nat.le_of_ble_eq_true rfl) rfl ?_
  refine zi_callS (pc := 26) h (st := []) (zc_PT_isOutside) zm_PT_isOutside zw_287 ⟨by decide, by decide⟩ zd_PT_sendOut_26 (Nat.le_of_ble_eq_true rfl) rfl ?_
  refine zi_if_ne_t (pc := 29) h (tgt := 34) zd_PT_sendOut_29 rfl ho1 ?_
  refine zi_aload_n (pc := 34) h (i := 0) zd_PT_sendOut_34 rfl 1 rfl ?_
  refine zi_get (pc := 35) h zx_PT 0 3 zq_k0 rfl zq_j_3_5 zw_177 rfl zd_PT_sendOut_35 ?_
  refine zi_aload_n (pc := 38) h (i := 0) zd_PT_sendOut_38 rfl 1 rfl ?_
  refine zi_get (pc := 39) h zx_PT 0 2 zq_k0 rfl zq_j_2_5 zw_176 rfl zd_PT_sendOut_39 ?_
  refine zi_callV (pc := 42) h (st := []) (zc_FT_findByInner_n hpm (Nat.le_refl _) hq) zm_FT_findByInner zw_291 zx_FT zq_k6 rfl ⟨by decide, by decide⟩ zd_PT_sendOut_42 (Nat.le_of_ble_eq_true rfl) rfl ?_
  refine zi_astore_nN (pc := 45) h (i := 2) (L' := [(2, _), (1, _), (0, _)]) zd_PT_sendOut_45 rfl (by decide) rfl ?_
  refine zi_aload_n (pc := 46) h (i := 0) zd_PT_sendOut_46 rfl 2 rfl ?_
  refine zi_get (pc := 47) h zx_PT 0 0 zq_k0 rfl zq_j_0_5 zw_174 rfl zd_PT_sendOut_47 ?_
  refine zi_callV (pc := 50) h (st := []) (zc_PK_isError) zm_PK_isError zw_303 zx_PK zq_k1 rfl ⟨by decide, by decide⟩ zd_PT_sendOut_50 (Nat.le_of_ble_eq_true rfl) rfl ?_
  refine zi_if_eq_t (pc := 53) h (tgt := 70) zd_PT_sendOut_53 rfl he ?_
  refine zi_aload_nN (pc := 70) h (i := 2) zd_PT_sendOut_70 rfl 0 rfl ?_
  refine zi_ifnonnullN (pc := 71) h (x := 0) zd_PT_sendOut_71 ?_
  refine zi_aload_n (pc := 74) h (i := 0) zd_PT_sendOut_74 rfl 2 rfl ?_
  refine zi_callV (pc := 75) h (st := []) (zc_PT_mayBeginFlow hb) zm_PT_mayBeginFlow zw_304 zx_PT zq_k0 rfl ⟨by decide, by decide⟩ zd_PT_sendOut_75 (Nat.le_of_ble_eq_true rfl) rfl ?_
  refine zi_if_ne_t (pc := 78) h (tgt := 83) zd_PT_sendOut_78 rfl hm ?_
  refine zi_aload_n (pc := 83) h (i := 0) zd_PT_sendOut_83 rfl 2 rfl ?_
  refine zi_get (pc := 84) h zx_PT 0 3 zq_k0 rfl zq_j_3_5 zw_177 rfl zd_PT_sendOut_84 ?_
  refine zi_aload_n (pc := 87) h (i := 0) zd_PT_sendOut_87 rfl 2 rfl ?_
  refine zi_get (pc := 88) h zx_PT 0 2 zq_k0 rfl zq_j_2_5 zw_176 rfl zd_PT_sendOut_88 ?_
  refine zi_callV (pc := 91) h (st := []) (zc_FT_begin_full) zm_FT_begin zw_325 zx_FT zq_k6 rfl ⟨by decide, by decide⟩ zd_PT_sendOut_91 (Nat.le_of_ble_eq_true rfl) rfl ?_
  refine zi_astore_nN (pc := 94) h (i := 2) (L' := [(2, _), (1, _), (0, _)]) zd_PT_sendOut_94 rfl (by decide) rfl ?_
  refine zi_aload_nN (pc := 95) h (i := 2) zd_PT_sendOut_95 rfl 0 rfl ?_
  refine zi_ifnonnullN (pc := 96) h (x := 0) zd_PT_sendOut_96 ?_
  refine zi_bipush (pc := 99) h zd_PT_sendOut_99 zq_bi_6 ?_
  exact zi_ireturn (pc := 101) h hr zd_PT_sendOut_101 rfl rfl

set_option maxRecDepth 20000 in
theorem zc_PT_so_f2 {l : Launch} {G : zz_G} {F : Nat → va_E} {v : Nat → Int32} {sz : Int32} {lv : Nat → Int32} {lz : Int32} {su : Nat → Int32} {pm : Nat → Nat} {fl : Nat → Nat → Int32} {ru : Nat → Nat → Int32} {c : Nat} (hpm : ∀ i, pm i < 12) (hc : c < 12) (hi1 : ¬ zv_ins (zs_adr v 6 7) = 0) (ho1 : ¬ zv_out (zs_adr v 8 9) = 0) (hq : zs_ff (zs_mi pm fl su) 0 c = none) (he : zs_err v = 0) (hb : ∀ i, ru i 4 = 0 ∨ ru i 4 = 1) (hm : ¬ zs_may v su ru = 0) (hbn : zs_bin pm fl su 0 c = -1) (hl : zs_lf pm fl c (su 0) 0 6 = -1) : zz_M l zy_PT_sendOut zb_PT_sendOut 3 (some .int) 5 113 G [.ref (G.2.2 0)] (zz_K G F v sz lv lz su pm (nI c) fl ru) (some (.int 6)) (zz_K G F v sz lv lz su pm (nI c) fl ru) := by
  refine zz_M.of (by decide) (Nat.le_of_ble_eq_true rfl) ?_
  intro X hX h hr
  subst hX
  have h : zz_C X G (zz_A G.2.2) 3 zb_PT_sendOut "PortTranslator" 5 113 0 0 := h
  refine zi_aload_n (pc := 0) h (i := 0) zd_PT_sendOut_0 rfl 0 rfl ?_
  refine zi_get (pc := 1) h zx_PT 0 0 zq_k0 rfl zq_j_0_5 zw_174 rfl zd_PT_sendOut_1 ?_
  refine zi_bipush (pc := 4) h zd_PT_sendOut_4 zq_bi_6 ?_
  refine zi_callV (pc := 6) h (st := []) (zc_PK_address (a := 6) (b := 7) zq_in_6_48 ⟨by decide, by decide, by decide⟩) zm_PK_address zw_281 zx_PK zq_k1 rfl ⟨by decide, by decide⟩ zd_PT_sendOut_6 (Nat.le_of_ble_eq_true rfl) rfl ?_
  refine zi_istore_n (pc := 9) h (i := 1) (L' := [(1, _), (0, _)]) zd_PT_sendOut_9 rfl (by decide) rfl ?_
  refine zi_iload_n (pc := 10) h (i := 1) zd_PT_sendOut_10 rfl 0 rfl ?_
  refine zi_callS (pc := 11) h (st := []) (zc_PT_isInside) zm_PT_isInside zw_282 ⟨by decide, by decide⟩ zd_PT_sendOut_11 (Nat.le_of_ble_eq_true rfl) rfl ?_
  refine zi_if_eq_f (pc := 14) h (tgt := 32) zd_PT_sendOut_14 rfl hi1 ?_
  refine zi_aload_n (pc := 17) h (i := 0) zd_PT_sendOut_17 rfl 1 rfl ?_
  refine zi_get (pc := 18) h zx_PT 0 0 zq_k0 rfl zq_j_0_5 zw_174 rfl zd_PT_sendOut_18 ?_
  refine zi_bipush (pc := 21) h zd_PT_sendOut_21 zq_bi_8 ?_
  refine zi_callV (pc := 23) h (st := []) (zc_PK_address (a := 8) (b := 9) zq_in_8_48 ⟨by decide, by decide, by decide⟩) zm_PK_address zw_281 zx_PK zq_k1 rfl ⟨by decide, by decide⟩ zd_PT_sendOut_23 (Nat.le_of_ble_eq_true rfl) rfl ?_
  refine zi_callS (pc := 26) h (st := []) (zc_PT_isOutside) zm_PT_isOutside zw_287 ⟨by decide, by decide⟩ zd_PT_sendOut_26 (Nat.le_of_ble_eq_true rfl) rfl ?_
  refine zi_if_ne_t (pc := 29) h (tgt := 34) zd_PT_sendOut_29 rfl ho1 ?_
  refine zi_aload_n (pc := 34) h (i := 0) zd_PT_sendOut_34 rfl 1 rfl ?_
  refine zi_get (pc := 35) h zx_PT 0 3 zq_k0 rfl zq_j_3_5 zw_177 rfl zd_PT_sendOut_35 ?_
  refine zi_aload_n (pc := 38) h (i := 0) zd_PT_sendOut_38 rfl 1 rfl ?_
  refine zi_get (pc := 39) h zx_PT 0 2 zq_k0 rfl zq_j_2_5 zw_176 rfl zd_PT_sendOut_39 ?_
  refine zi_callV (pc := 42) h (st := []) (zc_FT_findByInner_n hpm (Nat.le_of_lt hc) hq) zm_FT_findByInner zw_291 zx_FT zq_k6 rfl ⟨by decide, by decide⟩ zd_PT_sendOut_42 (Nat.le_of_ble_eq_true rfl) rfl ?_
  refine zi_astore_nN (pc := 45) h (i := 2) (L' := [(2, _), (1, _), (0, _)]) zd_PT_sendOut_45 rfl (by decide) rfl ?_
  refine zi_aload_n (pc := 46) h (i := 0) zd_PT_sendOut_46 rfl 2 rfl ?_
  refine zi_get (pc := 47) h zx_PT 0 0 zq_k0 rfl zq_j_0_5 zw_174 rfl zd_PT_sendOut_47 ?_
  refine zi_callV (pc := 50) h (st := []) (zc_PK_isError) zm_PK_isError zw_303 zx_PK zq_k1 rfl ⟨by decide, by decide⟩ zd_PT_sendOut_50 (Nat.le_of_ble_eq_true rfl) rfl ?_
  refine zi_if_eq_t (pc := 53) h (tgt := 70) zd_PT_sendOut_53 rfl he ?_
  refine zi_aload_nN (pc := 70) h (i := 2) zd_PT_sendOut_70 rfl 0 rfl ?_
  refine zi_ifnonnullN (pc := 71) h (x := 0) zd_PT_sendOut_71 ?_
  refine zi_aload_n (pc := 74) h (i := 0) zd_PT_sendOut_74 rfl 2 rfl ?_
  refine zi_callV (pc := 75) h (st := []) (zc_PT_mayBeginFlow hb) zm_PT_mayBeginFlow zw_304 zx_PT zq_k0 rfl ⟨by decide, by decide⟩ zd_PT_sendOut_75 (Nat.le_of_ble_eq_true rfl) rfl ?_
  refine zi_if_ne_t (pc := 78) h (tgt := 83) zd_PT_sendOut_78 rfl hm ?_
  refine zi_aload_n (pc := 83) h (i := 0) zd_PT_sendOut_83 rfl 2 rfl ?_
  refine zi_get (pc := 84) h zx_PT 0 3 zq_k0 rfl zq_j_3_5 zw_177 rfl zd_PT_sendOut_84 ?_
  refine zi_aload_n (pc := 87) h (i := 0) zd_PT_sendOut_87 rfl 2 rfl ?_
  refine zi_get (pc := 88) h zx_PT 0 2 zq_k0 rfl zq_j_2_5 zw_176 rfl zd_PT_sendOut_88 ?_
  refine zi_callV (pc := 91) h (st := []) (zc_FT_begin_none hpm hc hbn hl) zm_FT_begin zw_325 zx_FT zq_k6 rfl ⟨by decide, by decide⟩ zd_PT_sendOut_91 (Nat.le_of_ble_eq_true rfl) rfl ?_
  refine zi_astore_nN (pc := 94) h (i := 2) (L' := [(2, _), (1, _), (0, _)]) zd_PT_sendOut_94 rfl (by decide) rfl ?_
  refine zi_aload_nN (pc := 95) h (i := 2) zd_PT_sendOut_95 rfl 0 rfl ?_
  refine zi_ifnonnullN (pc := 96) h (x := 0) zd_PT_sendOut_96 ?_
  refine zi_bipush (pc := 99) h zd_PT_sendOut_99 zq_bi_6 ?_
  exact zi_ireturn (pc := 101) h hr zd_PT_sendOut_101 rfl rfl

set_option maxRecDepth 20000 in
theorem zc_PT_so_g1 {l : Launch} {G : zz_G} {F : Nat → va_E} {v : Nat → Int32} {sz : Int32} {lv : Nat → Int32} {lz : Int32} {su : Nat → Int32} {pm : Nat → Nat} {fl : Nat → Nat → Int32} {ru : Nat → Nat → Int32} {c i a b d : Nat} (hpm : ∀ i, pm i < 12) (hc : c ≤ 12) (hi1 : ¬ zv_ins (zs_adr v 6 7) = 0) (ho1 : ¬ zv_out (zs_adr v 8 9) = 0) (hq : zs_ff (zs_mi pm fl su) 0 c = some i) (he : zs_err v = 0) (hi : i < c) (hne : ∀ j, j < i → pm j ≠ pm i) (h1 : zz_ix (su 5) a 48) (h2 : zz_ix (su 5 + 1) b 48) (h3 : zz_ix (su 6) d 48) : zz_M l zy_PT_sendOut zb_PT_sendOut 3 (some .int) 5 113 G [.ref (G.2.2 0)] (zz_K G F v sz lv lz su pm (nI c) fl ru) (some (.int 0)) (zz_K G F (zs_vo v su pm fl i a b d) sz lv lz su (zs_nto (zs_vo v su pm fl i a b d) su pm fl c i).1 (nI (zs_nto (zs_vo v su pm fl i a b d) su pm fl c i).2.2) (zs_nto (zs_vo v su pm fl i a b d) su pm fl c i).2.1 ru) := by
  refine zz_M.of (by decide) (Nat.le_of_ble_eq_true rfl) ?_
  intro X hX h hr
  subst hX
  have h : zz_C X G (zz_A G.2.2) 3 zb_PT_sendOut "PortTranslator" 5 113 0 0 := h
  refine zi_aload_n (pc := 0) h (i := 0) zd_PT_sendOut_0 rfl 0 rfl ?_
  refine zi_get (pc := 1) h zx_PT 0 0 zq_k0 rfl zq_j_0_5 zw_174 rfl zd_PT_sendOut_1 ?_
  refine zi_bipush (pc := 4) h zd_PT_sendOut_4 zq_bi_6 ?_
  refine zi_callV (pc := 6) h (st := []) (zc_PK_address (a := 6) (b := 7) zq_in_6_48 ⟨by decide, by decide, by decide⟩) zm_PK_address zw_281 zx_PK zq_k1 rfl ⟨by decide, by decide⟩ zd_PT_sendOut_6 (Nat.le_of_ble_eq_true rfl) rfl ?_
  refine zi_istore_n (pc := 9) h (i := 1) (L' := [(1, _), (0, _)]) zd_PT_sendOut_9 rfl (by decide) rfl ?_
  refine zi_iload_n (pc := 10) h (i := 1) zd_PT_sendOut_10 rfl 0 rfl ?_
  refine zi_callS (pc := 11) h (st := []) (zc_PT_isInside) zm_PT_isInside zw_282 ⟨by decide, by decide⟩ zd_PT_sendOut_11 (Nat.le_of_ble_eq_true rfl) rfl ?_
  refine zi_if_eq_f (pc := 14) h (tgt := 32) zd_PT_sendOut_14 rfl hi1 ?_
  refine zi_aload_n (pc := 17) h (i := 0) zd_PT_sendOut_17 rfl 1 rfl ?_
  refine zi_get (pc := 18) h zx_PT 0 0 zq_k0 rfl zq_j_0_5 zw_174 rfl zd_PT_sendOut_18 ?_
  refine zi_bipush (pc := 21) h zd_PT_sendOut_21 zq_bi_8 ?_
  refine zi_callV (pc := 23) h (st := []) (zc_PK_address (a := 8) (b := 9) zq_in_8_48 ⟨by decide, by decide, by decide⟩) zm_PK_address zw_281 zx_PK zq_k1 rfl ⟨by decide, by decide⟩ zd_PT_sendOut_23 (Nat.le_of_ble_eq_true rfl) rfl ?_
  refine zi_callS (pc := 26) h (st := []) (zc_PT_isOutside) zm_PT_isOutside zw_287 ⟨by decide, by decide⟩ zd_PT_sendOut_26 (Nat.le_of_ble_eq_true rfl) rfl ?_
  refine zi_if_ne_t (pc := 29) h (tgt := 34) zd_PT_sendOut_29 rfl ho1 ?_
  refine zi_aload_n (pc := 34) h (i := 0) zd_PT_sendOut_34 rfl 1 rfl ?_
  refine zi_get (pc := 35) h zx_PT 0 3 zq_k0 rfl zq_j_3_5 zw_177 rfl zd_PT_sendOut_35 ?_
  refine zi_aload_n (pc := 38) h (i := 0) zd_PT_sendOut_38 rfl 1 rfl ?_
  refine zi_get (pc := 39) h zx_PT 0 2 zq_k0 rfl zq_j_2_5 zw_176 rfl zd_PT_sendOut_39 ?_
  refine zi_callV (pc := 42) h (st := []) (zc_FT_findByInner_s hpm hc hq) zm_FT_findByInner zw_291 zx_FT zq_k6 rfl ⟨by decide, by decide⟩ zd_PT_sendOut_42 (Nat.le_of_ble_eq_true rfl) rfl ?_
  refine zi_astore_n (pc := 45) h (i := 2) (L' := [(2, _), (1, _), (0, _)]) zd_PT_sendOut_45 rfl (by decide) rfl ?_
  refine zi_aload_n (pc := 46) h (i := 0) zd_PT_sendOut_46 rfl 2 rfl ?_
  refine zi_get (pc := 47) h zx_PT 0 0 zq_k0 rfl zq_j_0_5 zw_174 rfl zd_PT_sendOut_47 ?_
  refine zi_callV (pc := 50) h (st := []) (zc_PK_isError) zm_PK_isError zw_303 zx_PK zq_k1 rfl ⟨by decide, by decide⟩ zd_PT_sendOut_50 (Nat.le_of_ble_eq_true rfl) rfl ?_
  refine zi_if_eq_t (pc := 53) h (tgt := 70) zd_PT_sendOut_53 rfl he ?_
  refine zi_aload_n (pc := 70) h (i := 2) zd_PT_sendOut_70 rfl 0 rfl ?_
  refine zi_ifnonnull (pc := 71) h (tgt := 102) zd_PT_sendOut_71 rfl ?_
  refine zi_aload_n (pc := 102) h (i := 0) zd_PT_sendOut_102 rfl 2 rfl ?_
  refine zi_bipush (pc := 103) h zd_PT_sendOut_103 zq_bi_6 ?_
  refine zi_ldc (pc := 105) h zw_290 zd_PT_sendOut_105 ?_
  refine zi_aload_n (pc := 107) h (i := 2) zd_PT_sendOut_107 rfl 0 rfl ?_
  refine zi_get (pc := 108) h zx_FL _ 5 (zq_fl (hpm i)) (zk_at_fl _ (hpm i)) zq_j_5_10 zw_100 rfl zd_PT_sendOut_108 ?_
  refine zi_callVv (pc := 111) h (st := []) (zc_PT_translate (e1 := 6) (e2 := 7) (a := a) (b := b) (d := d) zq_in_6_48 ⟨by decide, by decide, by decide⟩ h1 h2 h3) zm_PT_translate zw_351 zx_PT zq_k0 rfl ⟨by decide, by decide⟩ zd_PT_sendOut_111 (Nat.le_of_ble_eq_true rfl) rfl ?_
  refine zi_aload_n (pc := 114) h (i := 0) zd_PT_sendOut_114 rfl 2 rfl ?_
  refine zi_aload_n (pc := 115) h (i := 2) zd_PT_sendOut_115 rfl 0 rfl ?_
  refine zi_iconst (pc := 116) h zd_PT_sendOut_116 zq_ic_1 ?_
  refine zi_callVv (pc := 117) h (st := []) (zc_PT_note_o hpm hc hi hne) zm_PT_note zw_380 zx_PT zq_k0 rfl ⟨by decide, by decide⟩ zd_PT_sendOut_117 (Nat.le_of_ble_eq_true rfl) rfl ?_
  refine zi_iconst (pc := 120) h zd_PT_sendOut_120 zq_ic_0 ?_
  exact zi_ireturn (pc := 121) h hr zd_PT_sendOut_121 rfl rfl

set_option maxRecDepth 20000 in
theorem zc_PT_so_g2 {l : Launch} {G : zz_G} {F : Nat → va_E} {v : Nat → Int32} {sz : Int32} {lv : Nat → Int32} {lz : Int32} {su : Nat → Int32} {pm : Nat → Nat} {fl : Nat → Nat → Int32} {ru : Nat → Nat → Int32} {c i a b d : Nat} (hpm : ∀ i, pm i < 12) (hc : c ≤ 12) (hi1 : ¬ zv_ins (zs_adr v 6 7) = 0) (ho1 : ¬ zv_out (zs_adr v 8 9) = 0) (hq : zs_ff (zs_mi pm fl su) 0 c = some i) (he : ¬ zs_err v = 0) (hf : fl (pm i) 1 = zs_adr v 6 7) (hi : i < c) (hne : ∀ j, j < i → pm j ≠ pm i) (h1 : zz_ix (su 5) a 48) (h2 : zz_ix (su 5 + 1) b 48) (h3 : zz_ix (su 6) d 48) : zz_M l zy_PT_sendOut zb_PT_sendOut 3 (some .int) 5 113 G [.ref (G.2.2 0)] (zz_K G F v sz lv lz su pm (nI c) fl ru) (some (.int 0)) (zz_K G F (zs_vo v su pm fl i a b d) sz lv lz su (zs_nto (zs_vo v su pm fl i a b d) su pm fl c i).1 (nI (zs_nto (zs_vo v su pm fl i a b d) su pm fl c i).2.2) (zs_nto (zs_vo v su pm fl i a b d) su pm fl c i).2.1 ru) := by
  refine zz_M.of (by decide) (Nat.le_of_ble_eq_true rfl) ?_
  intro X hX h hr
  subst hX
  have h : zz_C X G (zz_A G.2.2) 3 zb_PT_sendOut "PortTranslator" 5 113 0 0 := h
  refine zi_aload_n (pc := 0) h (i := 0) zd_PT_sendOut_0 rfl 0 rfl ?_
  refine zi_get (pc := 1) h zx_PT 0 0 zq_k0 rfl zq_j_0_5 zw_174 rfl zd_PT_sendOut_1 ?_
  refine zi_bipush (pc := 4) h zd_PT_sendOut_4 zq_bi_6 ?_
  refine zi_callV (pc := 6) h (st := []) (zc_PK_address (a := 6) (b := 7) zq_in_6_48 ⟨by decide, by decide, by decide⟩) zm_PK_address zw_281 zx_PK zq_k1 rfl ⟨by decide, by decide⟩ zd_PT_sendOut_6 (Nat.le_of_ble_eq_true rfl) rfl ?_
  refine zi_istore_n (pc := 9) h (i := 1) (L' := [(1, _), (0, _)]) zd_PT_sendOut_9 rfl (by decide) rfl ?_
  refine zi_iload_n (pc := 10) h (i := 1) zd_PT_sendOut_10 rfl 0 rfl ?_
  refine zi_callS (pc := 11) h (st := []) (zc_PT_isInside) zm_PT_isInside zw_282 ⟨by decide, by decide⟩ zd_PT_sendOut_11 (Nat.le_of_ble_eq_true rfl) rfl ?_
  refine zi_if_eq_f (pc := 14) h (tgt := 32) zd_PT_sendOut_14 rfl hi1 ?_
  refine zi_aload_n (pc := 17) h (i := 0) zd_PT_sendOut_17 rfl 1 rfl ?_
  refine zi_get (pc := 18) h zx_PT 0 0 zq_k0 rfl zq_j_0_5 zw_174 rfl zd_PT_sendOut_18 ?_
  refine zi_bipush (pc := 21) h zd_PT_sendOut_21 zq_bi_8 ?_
  refine zi_callV (pc := 23) h (st := []) (zc_PK_address (a := 8) (b := 9) zq_in_8_48 ⟨by decide, by decide, by decide⟩) zm_PK_address zw_281 zx_PK zq_k1 rfl ⟨by decide, by decide⟩ zd_PT_sendOut_23 (Nat.le_of_ble_eq_true rfl) rfl ?_
  refine zi_callS (pc := 26) h (st := []) (zc_PT_isOutside) zm_PT_isOutside zw_287 ⟨by decide, by decide⟩ zd_PT_sendOut_26 (Nat.le_of_ble_eq_true rfl) rfl ?_
  refine zi_if_ne_t (pc := 29) h (tgt := 34) zd_PT_sendOut_29 rfl ho1 ?_
  refine zi_aload_n (pc := 34) h (i := 0) zd_PT_sendOut_34 rfl 1 rfl ?_
  refine zi_get (pc := 35) h zx_PT 0 3 zq_k0 rfl zq_j_3_5 zw_177 rfl zd_PT_sendOut_35 ?_
  refine zi_aload_n (pc := 38) h (i := 0) zd_PT_sendOut_38 rfl 1 rfl ?_
  refine zi_get (pc := 39) h zx_PT 0 2 zq_k0 rfl zq_j_2_5 zw_176 rfl zd_PT_sendOut_39 ?_
  refine zi_callV (pc := 42) h (st := []) (zc_FT_findByInner_s hpm hc hq) zm_FT_findByInner zw_291 zx_FT zq_k6 rfl ⟨by decide, by decide⟩ zd_PT_sendOut_42 (Nat.le_of_ble_eq_true rfl) rfl ?_
  refine zi_astore_n (pc := 45) h (i := 2) (L' := [(2, _), (1, _), (0, _)]) zd_PT_sendOut_45 rfl (by decide) rfl ?_
  refine zi_aload_n (pc := 46) h (i := 0) zd_PT_sendOut_46 rfl 2 rfl ?_
  refine zi_get (pc := 47) h zx_PT 0 0 zq_k0 rfl zq_j_0_5 zw_174 rfl zd_PT_sendOut_47 ?_
  refine zi_callV (pc := 50) h (st := []) (zc_PK_isError) zm_PK_isError zw_303 zx_PK zq_k1 rfl ⟨by decide, by decide⟩ zd_PT_sendOut_50 (Nat.le_of_ble_eq_true rfl) rfl ?_
  refine zi_if_eq_f (pc := 53) h (tgt := 70) zd_PT_sendOut_53 rfl he ?_
  refine zi_aload_n (pc := 56) h (i := 2) zd_PT_sendOut_56 rfl 0 rfl ?_
  refine zi_ifnull (pc := 57) h zd_PT_sendOut_57 ?_
  refine zi_aload_n (pc := 60) h (i := 2) zd_PT_sendOut_60 rfl 0 rfl ?_
  refine zi_get (pc := 61) h zx_FL _ 1 (zq_fl (hpm i)) (zk_at_fl _ (hpm i)) zq_j_1_10 zw_93 rfl zd_PT_sendOut_61 ?_
  refine zi_iload_n (pc := 64) h (i := 1) zd_PT_sendOut_64 rfl 1 rfl ?_
  refine zi_icmp_eq_t (pc := 65) h (tgt := 102) zd_PT_sendOut_65 rfl hf ?_
  refine zi_aload_n (pc := 102) h (i := 0) zd_PT_sendOut_102 rfl 2 rfl ?_
  refine zi_bipush (pc := 103) h zd_PT_sendOut_103 zq_bi_6 ?_
  refine zi_ldc (pc := 105) h zw_290 zd_PT_sendOut_105 ?_
  refine zi_aload_n (pc := 107) h (i := 2) zd_PT_sendOut_107 rfl 0 rfl ?_
  refine zi_get (pc := 108) h zx_FL _ 5 (zq_fl (hpm i)) (zk_at_fl _ (hpm i)) zq_j_5_10 zw_100 rfl zd_PT_sendOut_108 ?_
  refine zi_callVv (pc := 111) h (st := []) (zc_PT_translate (e1 := 6) (e2 := 7) (a := a) (b := b) (d := d) zq_in_6_48 ⟨by decide, by decide, by decide⟩ h1 h2 h3) zm_PT_translate zw_351 zx_PT zq_k0 rfl ⟨by decide, by decide⟩ zd_PT_sendOut_111 (Nat.le_of_ble_eq_true rfl) rfl ?_
  refine zi_aload_n (pc := 114) h (i := 0) zd_PT_sendOut_114 rfl 2 rfl ?_
  refine zi_aload_n (pc := 115) h (i := 2) zd_PT_sendOut_115 rfl 0 rfl ?_
  refine zi_iconst (pc := 116) h zd_PT_sendOut_116 zq_ic_1 ?_
  refine zi_callVv (pc := 117) h (st := []) (zc_PT_note_o hpm hc hi hne) zm_PT_note zw_380 zx_PT zq_k0 rfl ⟨by decide, by decide⟩ zd_PT_sendOut_117 (Nat.le_of_ble_eq_true rfl) rfl ?_
  refine zi_iconst (pc := 120) h zd_PT_sendOut_120 zq_ic_0 ?_
  exact zi_ireturn (pc := 121) h hr zd_PT_sendOut_121 rfl rfl

set_option maxRecDepth 20000 in
theorem zc_PT_so_h1 {l : Launch} {G : zz_G} {F : Nat → va_E} {v : Nat → Int32} {sz : Int32} {lv : Nat → Int32} {lz : Int32} {su : Nat → Int32} {pm : Nat → Nat} {fl : Nat → Nat → Int32} {ru : Nat → Nat → Int32} {c a b d : Nat} (hpm : ∀ i, pm i < 12) (hc : c < 12) (hi1 : ¬ zv_ins (zs_adr v 6 7) = 0) (ho1 : ¬ zv_out (zs_adr v 8 9) = 0) (hq : zs_ff (zs_mi pm fl su) 0 c = none) (he : zs_err v = 0) (hb : ∀ i, ru i 4 = 0 ∨ ru i 4 = 1) (hm : ¬ zs_may v su ru = 0) (hbn : ¬ zs_bin pm fl su 0 c = -1) (hne : ∀ j, j < c → pm j ≠ pm c) (h1 : zz_ix (su 5) a 48) (h2 : zz_ix (su 5 + 1) b 48) (h3 : zz_ix (su 6) d 48) : zz_M l zy_PT_sendOut zb_PT_sendOut 3 (some .int) 5 113 G [.ref (G.2.2 0)] (zz_K G F v sz lv lz su pm (nI c) fl ru) (some (.int 0)) (zz_K G F (zs_vo v su pm (va_up fl (pm c) (zs_sta (fl (pm c)) su (zs_bin pm fl su 0 c))) c a b d) sz lv lz su (zs_nto (zs_vo v su pm (va_up fl (pm c) (zs_sta (fl (pm c)) su (zs_bin pm fl su 0 c))) c a b d) su pm (va_up fl (pm c) (zs_sta (fl (pm c)) su (zs_bin pm fl su 0 c))) (c + 1) c).1 (nI (zs_nto (zs_vo v su pm (va_up fl (pm c) (zs_sta (fl (pm c)) su (zs_bin pm fl su 0 c))) c a b d) su pm (va_up fl (pm c) (zs_sta (fl (pm c)) su (zs_bin pm fl su 0 c))) (c + 1) c).2.2) (zs_nto (zs_vo v su pm (va_up fl (pm c) (zs_sta (fl (pm c)) su (zs_bin pm fl su 0 c))) c a b d) su pm (va_up fl (pm c) (zs_sta (fl (pm c)) su (zs_bin pm fl su 0 c))) (c + 1) c).2.1 ru) := by
  refine zz_M.of (by decide) (Nat.le_of_ble_eq_true rfl) ?_
  intro X hX h hr
  subst hX
  have h : zz_C X G (zz_A G.2.2) 3 zb_PT_sendOut "PortTranslator" 5 113 0 0 := h
  refine zi_aload_n (pc := 0) h (i := 0) zd_PT_sendOut_0 rfl 0 rfl ?_
  refine zi_get (pc := 1) h zx_PT 0 0 zq_k0 rfl zq_j_0_5 zw_174 rfl zd_PT_sendOut_1 ?_
  refine zi_bipush (pc := 4) h zd_PT_sendOut_4 zq_bi_6 ?_
  refine zi_callV (pc := 6) h (st := []) (zc_PK_address (a := 6) (b := 7) zq_in_6_48 ⟨by decide, by decide, by decide⟩) zm_PK_address zw_281 zx_PK zq_k1 rfl ⟨by decide, by decide⟩ zd_PT_sendOut_6 (Nat.le_of_ble_eq_true rfl) rfl ?_
  refine zi_istore_n (pc := 9) h (i := 1) (L' := [(1, _), (0, _)]) zd_PT_sendOut_9 rfl (by decide) rfl ?_
  refine zi_iload_n (pc := 10) h (i := 1) zd_PT_sendOut_10 rfl 0 rfl ?_
  refine zi_callS (pc := 11) h (st := []) (zc_PT_isInside) zm_PT_isInside zw_282 ⟨by decide, by decide⟩ zd_PT_sendOut_11 (Nat.le_of_ble_eq_true rfl) rfl ?_
  refine zi_if_eq_f (pc := 14) h (tgt := 32) zd_PT_sendOut_14 rfl hi1 ?_
  refine zi_aload_n (pc := 17) h (i := 0) zd_PT_sendOut_17 rfl 1 rfl ?_
  refine zi_get (pc := 18) h zx_PT 0 0 zq_k0 rfl zq_j_0_5 zw_174 rfl zd_PT_sendOut_18 ?_
  refine zi_bipush (pc := 21) h zd_PT_sendOut_21 zq_bi_8 ?_
  refine zi_callV (pc := 23) h (st := []) (zc_PK_address (a := 8) (b := 9) zq_in_8_48 ⟨by decide, by decide, by decide⟩) zm_PK_address zw_281 zx_PK zq_k1 rfl ⟨by decide, by decide⟩ zd_PT_sendOut_23 (Nat.le_of_ble_eq_true rfl) rfl ?_
  refine zi_callS (pc := 26) h (st := []) (zc_PT_isOutside) zm_PT_isOutside zw_287 ⟨by decide, by decide⟩ zd_PT_sendOut_26 (Nat.le_of_ble_eq_true rfl) rfl ?_
  refine zi_if_ne_t (pc := 29) h (tgt := 34) zd_PT_sendOut_29 rfl ho1 ?_
  refine zi_aload_n (pc := 34) h (i := 0) zd_PT_sendOut_34 rfl 1 rfl ?_
  refine zi_get (pc := 35) h zx_PT 0 3 zq_k0 rfl zq_j_3_5 zw_177 rfl zd_PT_sendOut_35 ?_
  refine zi_aload_n (pc := 38) h (i := 0) zd_PT_sendOut_38 rfl 1 rfl ?_
  refine zi_get (pc := 39) h zx_PT 0 2 zq_k0 rfl zq_j_2_5 zw_176 rfl zd_PT_sendOut_39 ?_
  refine zi_callV (pc := 42) h (st := []) (zc_FT_findByInner_n hpm (Nat.le_of_lt hc) hq) zm_FT_findByInner zw_291 zx_FT zq_k6 rfl ⟨by decide, by decide⟩ zd_PT_sendOut_42 (Nat.le_of_ble_eq_true rfl) rfl ?_
  refine zi_astore_nN (pc := 45) h (i := 2) (L' := [(2, _), (1, _), (0, _)]) zd_PT_sendOut_45 rfl (by decide) rfl ?_
  refine zi_aload_n (pc := 46) h (i := 0) zd_PT_sendOut_46 rfl 2 rfl ?_
  refine zi_get (pc := 47) h zx_PT 0 0 zq_k0 rfl zq_j_0_5 zw_174 rfl zd_PT_sendOut_47 ?_
  refine zi_callV (pc := 50) h (st := []) (zc_PK_isError) zm_PK_isError zw_303 zx_PK zq_k1 rfl ⟨by decide, by decide⟩ zd_PT_sendOut_50 (Nat.le_of_ble_eq_true rfl) rfl ?_
  refine zi_if_eq_t (pc := 53) h (tgt := 70) zd_PT_sendOut_53 rfl he ?_
  refine zi_aload_nN (pc := 70) h (i := 2) zd_PT_sendOut_70 rfl 0 rfl ?_
  refine zi_ifnonnullN (pc := 71) h (x := 0) zd_PT_sendOut_71 ?_
  refine zi_aload_n (pc := 74) h (i := 0) zd_PT_sendOut_74 rfl 2 rfl ?_
  refine zi_callV (pc := 75) h (st := []) (zc_PT_mayBeginFlow hb) zm_PT_mayBeginFlow zw_304 zx_PT zq_k0 rfl ⟨by decide, by decide⟩ zd_PT_sendOut_75 (Nat.le_of_ble_eq_true rfl) rfl ?_
  refine zi_if_ne_t (pc := 78) h (tgt := 83) zd_PT_sendOut_78 rfl hm ?_
  refine zi_aload_n (pc := 83) h (i := 0) zd_PT_sendOut_83 rfl 2 rfl ?_
  refine zi_get (pc := 84) h zx_PT 0 3 zq_k0 rfl zq_j_3_5 zw_177 rfl zd_PT_sendOut_84 ?_
  refine zi_aload_n (pc := 87) h (i := 0) zd_PT_sendOut_87 rfl 2 rfl ?_
  refine zi_get (pc := 88) h zx_PT 0 2 zq_k0 rfl zq_j_2_5 zw_176 rfl zd_PT_sendOut_88 ?_
  refine zi_callV (pc := 91) h (st := []) (zc_FT_begin_bound hpm hc hbn) zm_FT_begin zw_325 zx_FT zq_k6 rfl ⟨by decide, by decide⟩ zd_PT_sendOut_91 (Nat.le_of_ble_eq_true rfl) rfl ?_
  refine zi_astore_n (pc := 94) h (i := 2) (L' := [(2, _), (1, _), (0, _)]) zd_PT_sendOut_94 rfl (by decide) rfl ?_
  refine zi_aload_n (pc := 95) h (i := 2) zd_PT_sendOut_95 rfl 0 rfl ?_
  refine zi_ifnonnull (pc := 96) h (tgt := 102) zd_PT_sendOut_96 rfl ?_
  refine zi_aload_n (pc := 102) h (i := 0) zd_PT_sendOut_102 rfl 2 rfl ?_
  refine zi_bipush (pc := 103) h zd_PT_sendOut_103 zq_bi_6 ?_
  refine zi_ldc (pc := 105) h zw_290 zd_PT_sendOut_105 ?_
  refine zi_aload_n (pc := 107) h (i := 2) zd_PT_sendOut_107 rfl 0 rfl ?_
  refine zi_get (pc := 108) h zx_FL _ 5 (zq_fl (hpm c)) (zk_at_fl _ (hpm c)) zq_j_5_10 zw_100 rfl zd_PT_sendOut_108 ?_
  refine zi_callVv (pc := 111) h (st := []) (zc_PT_translate (e1 := 6) (e2 := 7) (a := a) (b := b) (d := d) zq_in_6_48 ⟨by decide, by decide, by decide⟩ h1 h2 h3) zm_PT_translate zw_351 zx_PT zq_k0 rfl ⟨by decide, by decide⟩ zd_PT_sendOut_111 (Nat.le_of_ble_eq_true rfl) rfl ?_
  refine zi_aload_n (pc := 114) h (i := 0) zd_PT_sendOut_114 rfl 2 rfl ?_
  refine zi_aload_n (pc := 115) h (i := 2) zd_PT_sendOut_115 rfl 0 rfl ?_
  refine zi_iconst (pc := 116) h zd_PT_sendOut_116 zq_ic_1 ?_
  refine zi_callVv (pc := 117) h (st := []) (zc_PT_note_o hpm hc (Nat.lt_succ_self c) hne) zm_PT_note zw_380 zx_PT zq_k0 rfl ⟨by decide, by decide⟩ zd_PT_sendOut_117 (Nat.le_of_ble_eq_true rfl) rfl ?_
  refine zi_iconst (pc := 120) h zd_PT_sendOut_120 zq_ic_0 ?_
  exact zi_ireturn (pc := 121) h hr zd_PT_sendOut_121 rfl rfl

set_option maxRecDepth 20000 in
theorem zc_PT_so_h2 {l : Launch} {G : zz_G} {F : Nat → va_E} {v : Nat → Int32} {sz : Int32} {lv : Nat → Int32} {lz : Int32} {su : Nat → Int32} {pm : Nat → Nat} {fl : Nat → Nat → Int32} {ru : Nat → Nat → Int32} {c a b d : Nat} (hpm : ∀ i, pm i < 12) (hc : c < 12) (hi1 : ¬ zv_ins (zs_adr v 6 7) = 0) (ho1 : ¬ zv_out (zs_adr v 8 9) = 0) (hq : zs_ff (zs_mi pm fl su) 0 c = none) (he : zs_err v = 0) (hb : ∀ i, ru i 4 = 0 ∨ ru i 4 = 1) (hm : ¬ zs_may v su ru = 0) (hbn : zs_bin pm fl su 0 c = -1) (hl : ¬ zs_lf pm fl c (su 0) 0 6 = -1) (hne : ∀ j, j < c → pm j ≠ pm c) (h1 : zz_ix (su 5) a 48) (h2 : zz_ix (su 5 + 1) b 48) (h3 : zz_ix (su 6) d 48) : zz_M l zy_PT_sendOut zb_PT_sendOut 3 (some .int) 5 113 G [.ref (G.2.2 0)] (zz_K G F v sz lv lz su pm (nI c) fl ru) (some (.int 0)) (zz_K G F (zs_vo v su pm (va_up fl (pm c) (zs_sta (fl (pm c)) su (zs_lf pm fl c (su 0) 0 6))) c a b d) sz lv lz su (zs_nto (zs_vo v su pm (va_up fl (pm c) (zs_sta (fl (pm c)) su (zs_lf pm fl c (su 0) 0 6))) c a b d) su pm (va_up fl (pm c) (zs_sta (fl (pm c)) su (zs_lf pm fl c (su 0) 0 6))) (c + 1) c).1 (nI (zs_nto (zs_vo v su pm (va_up fl (pm c) (zs_sta (fl (pm c)) su (zs_lf pm fl c (su 0) 0 6))) c a b d) su pm (va_up fl (pm c) (zs_sta (fl (pm c)) su (zs_lf pm fl c (su 0) 0 6))) (c + 1) c).2.2) (zs_nto (zs_vo v su pm (va_up fl (pm c) (zs_sta (fl (pm c)) su (zs_lf pm fl c (su 0) 0 6))) c a b d) su pm (va_up fl (pm c) (zs_sta (fl (pm c)) su (zs_lf pm fl c (su 0) 0 6))) (c + 1) c).2.1 ru) := by
  refine zz_M.of (by decide) (Nat.le_of_ble_eq_true rfl) ?_
  intro X hX h hr
  subst hX
  have h : zz_C X G (zz_A G.2.2) 3 zb_PT_sendOut "PortTranslator" 5 113 0 0 := h
  refine zi_aload_n (pc := 0) h (i := 0) zd_PT_sendOut_0 rfl 0 rfl ?_
  refine zi_get (pc := 1) h zx_PT 0 0 zq_k0 rfl zq_j_0_5 zw_174 rfl zd_PT_sendOut_1 ?_
  refine zi_bipush (pc := 4) h zd_PT_sendOut_4 zq_bi_6 ?_
  refine zi_callV (pc := 6) h (st := []) (zc_PK_address (a := 6) (b := 7) zq_in_6_48 ⟨by decide, by decide, by decide⟩) zm_PK_address zw_281 zx_PK zq_k1 rfl ⟨by decide, by decide⟩ zd_PT_sendOut_6 (Nat.le_of_ble_eq_true rfl) rfl ?_
  refine zi_istore_n (pc := 9) h (i := 1) (L' := [(1, _), (0, _)]) zd_PT_sendOut_9 rfl (by decide) rfl ?_
  refine zi_iload_n (pc := 10) h (i := 1) zd_PT_sendOut_10 rfl 0 rfl ?_
  refine zi_callS (pc := 11) h (st := []) (zc_PT_isInside) zm_PT_isInside zw_282 ⟨by decide, by decide⟩ zd_PT_sendOut_11 (Nat.le_of_ble_eq_true rfl) rfl ?_
  refine zi_if_eq_f (pc := 14) h (tgt := 32) zd_PT_sendOut_14 rfl hi1 ?_
  refine zi_aload_n (pc := 17) h (i := 0) zd_PT_sendOut_17 rfl 1 rfl ?_
  refine zi_get (pc := 18) h zx_PT 0 0 zq_k0 rfl zq_j_0_5 zw_174 rfl zd_PT_sendOut_18 ?_
  refine zi_bipush (pc := 21) h zd_PT_sendOut_21 zq_bi_8 ?_
  refine zi_callV (pc := 23) h (st := []) (zc_PK_address (a := 8) (b := 9) zq_in_8_48 ⟨by decide, by decide, by decide⟩) zm_PK_address zw_281 zx_PK zq_k1 rfl ⟨by decide, by decide⟩ zd_PT_sendOut_23 (Nat.le_of_ble_eq_true rfl) rfl ?_
  refine zi_callS (pc := 26) h (st := []) (zc_PT_isOutside) zm_PT_isOutside zw_287 ⟨by decide, by decide⟩ zd_PT_sendOut_26 (Nat.le_of_ble_eq_true rfl) rfl ?_
  refine zi_if_ne_t (pc := 29) h (tgt := 34) zd_PT_sendOut_29 rfl ho1 ?_
  refine zi_aload_n (pc := 34) h (i := 0) zd_PT_sendOut_34 rfl 1 rfl ?_
  refine zi_get (pc := 35) h zx_PT 0 3 zq_k0 rfl zq_j_3_5 zw_177 rfl zd_PT_sendOut_35 ?_
  refine zi_aload_n (pc := 38) h (i := 0) zd_PT_sendOut_38 rfl 1 rfl ?_
  refine zi_get (pc := 39) h zx_PT 0 2 zq_k0 rfl zq_j_2_5 zw_176 rfl zd_PT_sendOut_39 ?_
  refine zi_callV (pc := 42) h (st := []) (zc_FT_findByInner_n hpm (Nat.le_of_lt hc) hq) zm_FT_findByInner zw_291 zx_FT zq_k6 rfl ⟨by decide, by decide⟩ zd_PT_sendOut_42 (Nat.le_of_ble_eq_true rfl) rfl ?_
  refine zi_astore_nN (pc := 45) h (i := 2) (L' := [(2, _), (1, _), (0, _)]) zd_PT_sendOut_45 rfl (by decide) rfl ?_
  refine zi_aload_n (pc := 46) h (i := 0) zd_PT_sendOut_46 rfl 2 rfl ?_
  refine zi_get (pc := 47) h zx_PT 0 0 zq_k0 rfl zq_j_0_5 zw_174 rfl zd_PT_sendOut_47 ?_
  refine zi_callV (pc := 50) h (st := []) (zc_PK_isError) zm_PK_isError zw_303 zx_PK zq_k1 rfl ⟨by decide, by decide⟩ zd_PT_sendOut_50 (Nat.le_of_ble_eq_true rfl) rfl ?_
  refine zi_if_eq_t (pc := 53) h (tgt := 70) zd_PT_sendOut_53 rfl he ?_
  refine zi_aload_nN (pc := 70) h (i := 2) zd_PT_sendOut_70 rfl 0 rfl ?_
  refine zi_ifnonnullN (pc := 71) h (x := 0) zd_PT_sendOut_71 ?_
  refine zi_aload_n (pc := 74) h (i := 0) zd_PT_sendOut_74 rfl 2 rfl ?_
  refine zi_callV (pc := 75) h (st := []) (zc_PT_mayBeginFlow hb) zm_PT_mayBeginFlow zw_304 zx_PT zq_k0 rfl ⟨by decide, by decide⟩ zd_PT_sendOut_75 (Nat.le_of_ble_eq_true rfl) rfl ?_
  refine zi_if_ne_t (pc := 78) h (tgt := 83) zd_PT_sendOut_78 rfl hm ?_
  refine zi_aload_n (pc := 83) h (i := 0) zd_PT_sendOut_83 rfl 2 rfl ?_
  refine zi_get (pc := 84) h zx_PT 0 3 zq_k0 rfl zq_j_3_5 zw_177 rfl zd_PT_sendOut_84 ?_
  refine zi_aload_n (pc := 87) h (i := 0) zd_PT_sendOut_87 rfl 2 rfl ?_
  refine zi_get (pc := 88) h zx_PT 0 2 zq_k0 rfl zq_j_2_5 zw_176 rfl zd_PT_sendOut_88 ?_
  refine zi_callV (pc := 91) h (st := []) (zc_FT_begin_free hpm hc hbn hl) zm_FT_begin zw_325 zx_FT zq_k6 rfl ⟨by decide, by decide⟩ zd_PT_sendOut_91 (Nat.le_of_ble_eq_true rfl) rfl ?_
  refine zi_astore_n (pc := 94) h (i := 2) (L' := [(2, _), (1, _), (0, _)]) zd_PT_sendOut_94 rfl (by decide) rfl ?_
  refine zi_aload_n (pc := 95) h (i := 2) zd_PT_sendOut_95 rfl 0 rfl ?_
  refine zi_ifnonnull (pc := 96) h (tgt := 102) zd_PT_sendOut_96 rfl ?_
  refine zi_aload_n (pc := 102) h (i := 0) zd_PT_sendOut_102 rfl 2 rfl ?_
  refine zi_bipush (pc := 103) h zd_PT_sendOut_103 zq_bi_6 ?_
  refine zi_ldc (pc := 105) h zw_290 zd_PT_sendOut_105 ?_
  refine zi_aload_n (pc := 107) h (i := 2) zd_PT_sendOut_107 rfl 0 rfl ?_
  refine zi_get (pc := 108) h zx_FL _ 5 (zq_fl (hpm c)) (zk_at_fl _ (hpm c)) zq_j_5_10 zw_100 rfl zd_PT_sendOut_108 ?_
  refine zi_callVv (pc := 111) h (st := []) (zc_PT_translate (e1 := 6) (e2 := 7) (a := a) (b := b) (d := d) zq_in_6_48 ⟨by decide, by decide, by decide⟩ h1 h2 h3) zm_PT_translate zw_351 zx_PT zq_k0 rfl ⟨by decide, by decide⟩ zd_PT_sendOut_111 (Nat.le_of_ble_eq_true rfl) rfl ?_
  refine zi_aload_n (pc := 114) h (i := 0) zd_PT_sendOut_114 rfl 2 rfl ?_
  refine zi_aload_n (pc := 115) h (i := 2) zd_PT_sendOut_115 rfl 0 rfl ?_
  refine zi_iconst (pc := 116) h zd_PT_sendOut_116 zq_ic_1 ?_
  refine zi_callVv (pc := 117) h (st := []) (zc_PT_note_o hpm hc (Nat.lt_succ_self c) hne) zm_PT_note zw_380 zx_PT zq_k0 rfl ⟨by decide, by decide⟩ zd_PT_sendOut_117 (Nat.le_of_ble_eq_true rfl) rfl ?_
  refine zi_iconst (pc := 120) h zd_PT_sendOut_120 zq_ic_0 ?_
  exact zi_ireturn (pc := 121) h hr zd_PT_sendOut_121 rfl rfl

set_option maxRecDepth 20000 in
theorem zc_PT_li_a {l : Launch} {G : zz_G} {F : Nat → va_E} {v : Nat → Int32} {sz : Int32} {lv : Nat → Int32} {lz : Int32} {su : Nat → Int32} {pm : Nat → Nat} {fl : Nat → Nat → Int32} {ru : Nat → Nat → Int32} {c : Nat} (ho1 : ¬ zs_adr v 8 9 = -969710591) : zz_M l zy_PT_letIn zb_PT_letIn 2 (some .int) 5 113 G [.ref (G.2.2 0)] (zz_K G F v sz lv lz su pm (nI c) fl ru) (some (.int 5)) (zz_K G F v sz lv lz su pm (nI c) fl ru) := by
  refine zz_M.of (by decide) (Nat.le_of_ble_eq_true rfl) ?_
  intro X hX h hr
  subst hX
  have h : zz_C X G (zz_A G.2.2) 2 zb_PT_letIn "PortTranslator" 5 113 0 0 := h
  refine zi_aload_n (pc := 0) h (i := 0) zd_PT_letIn_0 rfl 0 rfl ?_
  refine zi_get (pc := 1) h zx_PT 0 0 zq_k0 rfl zq_j_0_5 zw_174 rfl zd_PT_letIn_1 ?_
  refine zi_bipush (pc := 4) h zd_PT_letIn_4 zq_bi_8 ?_
  refine zi_callV (pc := 6) h (st := []) (zc_PK_address (a := 8) (b := 9) zq_in_8_48 ⟨by decide, by decide, by decide⟩) zm_PK_address zw_281 zx_PK zq_k1 rfl ⟨by decide, by decide⟩ zd_PT_letIn_6 (Nat.le_of_ble_eq_true rfl) rfl ?_
  refine zi_ldc (pc := 9) h zw_290 zd_PT_letIn_9 ?_
  refine zi_icmp_ne_t (pc := 11) h (tgt := 29) zd_PT_letIn_11 rfl ho1 ?_
  refine zi_iconst (pc := 29) h zd_PT_letIn_29 zq_ic_5 ?_
  exact zi_ireturn (pc := 30) h hr zd_PT_letIn_30 rfl rfl

set_option maxRecDepth 20000 in
theorem zc_PT_li_b {l : Launch} {G : zz_G} {F : Nat → va_E} {v : Nat → Int32} {sz : Int32} {lv : Nat → Int32} {lz : Int32} {su : Nat → Int32} {pm : Nat → Nat} {fl : Nat → Nat → Int32} {ru : Nat → Nat → Int32} {c : Nat} (ho1 : zs_adr v 8 9 = -969710591) (ho2 : zv_out (zs_adr v 6 7) = 0) : zz_M l zy_PT_letIn zb_PT_letIn 2 (some .int) 5 113 G [.ref (G.2.2 0)] (zz_K G F v sz lv lz su pm (nI c) fl ru) (some (.int 5)) (zz_K G F v sz lv lz su pm (nI c) fl ru) := by
  refine zz_M.of (by decide) (Nat.le_of_ble_eq_true rfl) ?_
  intro X hX h hr
  subst hX
  have h : zz_C X G (zz_A G.2.2) 2 zb_PT_letIn "PortTranslator" 5 113 0 0 := h
  refine zi_aload_n (pc := 0) h (i := 0) zd_PT_letIn_0 rfl 0 rfl ?_
  refine zi_get (pc := 1) h zx_PT 0 0 zq_k0 rfl zq_j_0_5 zw_174 rfl zd_PT_letIn_1 ?_
  refine zi_bipush (pc := 4) h zd_PT_letIn_4 zq_bi_8 ?_
  refine zi_callV (pc := 6) h (st := []) (zc_PK_address (a := 8) (b := 9) zq_in_8_48 ⟨by decide, by decide, by decide⟩) zm_PK_address zw_281 zx_PK zq_k1 rfl ⟨by decide, by decide⟩ zd_PT_letIn_6 (Nat.le_of_ble_eq_true rfl) rfl ?_
  refine zi_ldc (pc := 9) h zw_290 zd_PT_letIn_9 ?_
  refine zi_icmp_ne_f (pc := 11) h (tgt := 29) zd_PT_letIn_11 rfl ho1 ?_
  refine zi_aload_n (pc := 14) h (i := 0) zd_PT_letIn_14 rfl 0 rfl ?_
  refine zi_get (pc := 15) h zx_PT 0 0 zq_k0 rfl zq_j_0_5 zw_174 rfl zd_PT_letIn_15 ?_
  refine zi_bipush (pc := 18) h zd_PT_letIn_18 zq_bi_6 ?_
  refine zi_callV (pc := 20) h (st := []) (zc_PK_address (a := 6) (b := 7) zq_in_6_48 ⟨by decide, by decide, by decide⟩) zm_PK_address zw_281 zx_PK zq_k1 rfl ⟨by decide, by decide⟩ zd_PT_letIn_20 (Nat.le_of_ble_eq_true rfl) rfl ?_
  refine zi_callS (pc := 23) h (st := []) (zc_PT_isOutside) zm_PT_isOutside zw_287 ⟨by decide, by decide⟩ zd_PT_letIn_23 (Nat.le_of_ble_eq_true rfl) rfl ?_
  refine zi_if_ne_f (pc := 26) h (tgt := 31) zd_PT_letIn_26 rfl ho2 ?_
  refine zi_iconst (pc := 29) h zd_PT_letIn_29 zq_ic_5 ?_
  exact zi_ireturn (pc := 30) h hr zd_PT_letIn_30 rfl rfl

set_option maxRecDepth 20000 in
theorem zc_PT_li_c {l : Launch} {G : zz_G} {F : Nat → va_E} {v : Nat → Int32} {sz : Int32} {lv : Nat → Int32} {lz : Int32} {su : Nat → Int32} {pm : Nat → Nat} {fl : Nat → Nat → Int32} {ru : Nat → Nat → Int32} {c : Nat} (ho1 : zs_adr v 8 9 = -969710591) (ho2 : ¬ zv_out (zs_adr v 6 7) = 0) (hs : ¬ su 1 = -969710591) : zz_M l zy_PT_letIn zb_PT_letIn 2 (some .int) 5 113 G [.ref (G.2.2 0)] (zz_K G F v sz lv lz su pm (nI c) fl ru) (some (.int 5)) (zz_K G F v sz lv lz su pm (nI c) fl ru) := by
  refine zz_M.of (by decide) (Nat.le_of_ble_eq_true rfl) ?_
  intro X hX h hr
  subst hX
  have h : zz_C X G (zz_A G.2.2) 2 zb_PT_letIn "PortTranslator" 5 113 0 0 := h
  refine zi_aload_n (pc := 0) h (i := 0) zd_PT_letIn_0 rfl 0 rfl ?_
  refine zi_get (pc := 1) h zx_PT 0 0 zq_k0 rfl zq_j_0_5 zw_174 rfl zd_PT_letIn_1 ?_
  refine zi_bipush (pc := 4) h zd_PT_letIn_4 zq_bi_8 ?_
  refine zi_callV (pc := 6) h (st := []) (zc_PK_address (a := 8) (b := 9) zq_in_8_48 ⟨by decide, by decide, by decide⟩) zm_PK_address zw_281 zx_PK zq_k1 rfl ⟨by decide, by decide⟩ zd_PT_letIn_6 (Nat.le_of_ble_eq_true rfl) rfl ?_
  refine zi_ldc (pc := 9) h zw_290 zd_PT_letIn_9 ?_
  refine zi_icmp_ne_f (pc := 11) h (tgt := 29) zd_PT_letIn_11 rfl ho1 ?_
  refine zi_aload_n (pc := 14) h (i := 0) zd_PT_letIn_14 rfl 0 rfl ?_
  refine zi_get (pc := 15) h zx_PT 0 0 zq_k0 rfl zq_j_0_5 zw_174 rfl zd_PT_letIn_15 ?_
  refine zi_bipush (pc := 18) h zd_PT_letIn_18 zq_bi_6 ?_
  refine zi_callV (pc := 20) h (st := []) (zc_PK_address (a := 6) (b := 7) zq_in_6_48 ⟨by decide, by decide, by decide⟩) zm_PK_address zw_281 zx_PK zq_k1 rfl ⟨by decide, by decide⟩ zd_PT_letIn_20 (Nat.le_of_ble_eq_true rfl) rfl ?_
  refine zi_callS (pc := 23) h (st := []) (zc_PT_isOutside) zm_PT_isOutside zw_287 ⟨by decide, by decide⟩ zd_PT_letIn_23 (Nat.le_of_ble_eq_true rfl) rfl ?_
  refine zi_if_ne_t (pc := 26) h (tgt := 31) zd_PT_letIn_26 rfl ho2 ?_
  refine zi_aload_n (pc := 31) h (i := 0) zd_PT_letIn_31 rfl 0 rfl ?_
  refine zi_get (pc := 32) h zx_PT 0 2 zq_k0 rfl zq_j_2_5 zw_176 rfl zd_PT_letIn_32 ?_
  refine zi_get (pc := 35) h zx_SU 5 1 zq_k5 rfl zq_j_1_7 zw_52 rfl zd_PT_letIn_35 ?_
  refine zi_ldc (pc := 38) h zw_290 zd_PT_letIn_38 ?_
  refine zi_icmp_ne_t (pc := 40) h (tgt := 53) zd_PT_letIn_40 rfl hs ?_
  refine zi_iconst (pc := 53) h zd_PT_letIn_53 zq_ic_5 ?_
  exact zi_ireturn (pc := 54) h hr zd_PT_letIn_54 rfl rfl

set_option maxRecDepth 20000 in
theorem zc_PT_li_d {l : Launch} {G : zz_G} {F : Nat → va_E} {v : Nat → Int32} {sz : Int32} {lv : Nat → Int32} {lz : Int32} {su : Nat → Int32} {pm : Nat → Nat} {fl : Nat → Nat → Int32} {ru : Nat → Nat → Int32} {c : Nat} (ho1 : zs_adr v 8 9 = -969710591) (ho2 : ¬ zv_out (zs_adr v 6 7) = 0) (hs : su 1 = -969710591) (hr2 : ¬ zs_req v = 0) : zz_M l zy_PT_letIn zb_PT_letIn 2 (some .int) 5 113 G [.ref (G.2.2 0)] (zz_K G F v sz lv lz su pm (nI c) fl ru) (some (.int 5)) (zz_K G F v sz lv lz su pm (nI c) fl ru) := by
  refine zz_M.of (by decide) (Nat.le_of_ble_eq_true rfl) ?_
  intro X hX h hr
  subst hX
  have h : zz_C X G (zz_A G.2.2) 2 zb_PT_letIn "PortTranslator" 5 113 0 0 := h
  refine zi_aload_n (pc := 0) h (i := 0) zd_PT_letIn_0 rfl 0 rfl ?_
  refine zi_get (pc := 1) h zx_PT 0 0 zq_k0 rfl zq_j_0_5 zw_174 rfl zd_PT_letIn_1 ?_
  refine zi_bipush (pc := 4) h zd_PT_letIn_4 zq_bi_8 ?_
  refine zi_callV (pc := 6) h (st := []) (zc_PK_address (a := 8) (b := 9) zq_in_8_48 ⟨by decide, by decide, by decide⟩) zm_PK_address zw_281 zx_PK zq_k1 rfl ⟨by decide, by decide⟩ zd_PT_letIn_6 (Nat.le_of_ble_eq_true rfl) rfl ?_
  refine zi_ldc (pc := 9) h zw_290 zd_PT_letIn_9 ?_
  refine zi_icmp_ne_f (pc := 11) h (tgt := 29) zd_PT_letIn_11 rfl ho1 ?_
  refine zi_aload_n (pc := 14) h (i := 0) zd_PT_letIn_14 rfl 0 rfl ?_
  refine zi_get (pc := 15) h zx_PT 0 0 zq_k0 rfl zq_j_0_5 zw_174 rfl zd_PT_letIn_15 ?_
  refine zi_bipush (pc := 18) h zd_PT_letIn_18 zq_bi_6 ?_
  refine zi_callV (pc := 20) h (st := []) (zc_PK_address (a := 6) (b := 7) zq_in_6_48 ⟨by decide, by decide, by decide⟩) zm_PK_address zw_281 zx_PK zq_k1 rfl ⟨by decide, by decide⟩ zd_PT_letIn_20 (Nat.le_of_ble_eq_true rfl) rfl ?_
  refine zi_callS (pc := 23) h (st := []) (zc_PT_isOutside) zm_PT_isOutside zw_287 ⟨by decide, by decide⟩ zd_PT_letIn_23 (Nat.le_of_ble_eq_true rfl) rfl ?_
  refine zi_if_ne_t (pc := 26) h (tgt := 31) zd_PT_letIn_26 rfl ho2 ?_
  refine zi_aload_n (pc := 31) h (i := 0) zd_PT_letIn_31 rfl 0 rfl ?_
  refine zi_get (pc := 32) h zx_PT 0 2 zq_k0 rfl zq_j_2_5 zw_176 rfl zd_PT_letIn_32 ?_
  refine zi_get (pc := 35) h zx_SU 5 1 zq_k5 rfl zq_j_1_7 zw_52 rfl zd_PT_letIn_35 ?_
  refine zi_ldc (pc := 38) h zw_290 zd_PT_letIn_38 ?_
  refine zi_icmp_ne_f (pc := 40) h (tgt := 53) zd_PT_letIn_40 rfl hs ?_
  refine zi_aload_n (pc := 43) h (i := 0) zd_PT_letIn_43 rfl 0 rfl ?_
  refine zi_get (pc := 44) h zx_PT 0 0 zq_k0 rfl zq_j_0_5 zw_174 rfl zd_PT_letIn_44 ?_
  refine zi_callV (pc := 47) h (st := []) (zc_PK_isEchoRequest) zm_PK_isEchoRequest zw_400 zx_PK zq_k1 rfl ⟨by decide, by decide⟩ zd_PT_letIn_47 (Nat.le_of_ble_eq_true rfl) rfl ?_
  refine zi_if_eq_f (pc := 50) h (tgt := 55) zd_PT_letIn_50 rfl hr2 ?_
  refine zi_iconst (pc := 53) h zd_PT_letIn_53 zq_ic_5 ?_
  exact zi_ireturn (pc := 54) h hr zd_PT_letIn_54 rfl rfl

set_option maxRecDepth 20000 in
theorem zc_PT_li_e {l : Launch} {G : zz_G} {F : Nat → va_E} {v : Nat → Int32} {sz : Int32} {lv : Nat → Int32} {lz : Int32} {su : Nat → Int32} {pm : Nat → Nat} {fl : Nat → Nat → Int32} {ru : Nat → Nat → Int32} {c : Nat} (hpm : ∀ i, pm i < 12) (hc : c ≤ 12) (ho1 : zs_adr v 8 9 = -969710591) (ho2 : ¬ zv_out (zs_adr v 6 7) = 0) (hs : su 1 = -969710591) (hr2 : zs_req v = 0) (hq : zs_ff (zs_mo pm fl su) 0 c = none) : zz_M l zy_PT_letIn zb_PT_letIn 2 (some .int) 5 113 G [.ref (G.2.2 0)] (zz_K G F v sz lv lz su pm (nI c) fl ru) (some (.int 5)) (zz_K G F v sz lv lz su pm (nI c) fl ru) := by
  refine zz_M.of (by decide) (Nat.le_of_ble_eq_true rfl) ?_
  intro X hX h hr
  subst hX
  have h : zz_C X G (zz_A G.2.2) 2 zb_PT_letIn "PortTranslator" 5 113 0 0 := h
  refine zi_aload_n (pc := 0) h (i := 0) zd_PT_letIn_0 rfl 0 rfl ?_
  refine zi_get (pc := 1) h zx_PT 0 0 zq_k0 rfl zq_j_0_5 zw_174 rfl zd_PT_letIn_1 ?_
  refine zi_bipush (pc := 4) h zd_PT_letIn_4 zq_bi_8 ?_
  refine zi_callV (pc := 6) h (st := []) (zc_PK_address (a := 8) (b := 9) zq_in_8_48 ⟨by decide, by decide, by decide⟩) zm_PK_address zw_281 zx_PK zq_k1 rfl ⟨by decide, by decide⟩ zd_PT_letIn_6 (Nat.le_of_ble_eq_true rfl) rfl ?_
  refine zi_ldc (pc := 9) h zw_290 zd_PT_letIn_9 ?_
  refine zi_icmp_ne_f (pc := 11) h (tgt := 29) zd_PT_letIn_11 rfl ho1 ?_
  refine zi_aload_n (pc := 14) h (i := 0) zd_PT_letIn_14 rfl 0 rfl ?_
  refine zi_get (pc := 15) h zx_PT 0 0 zq_k0 rfl zq_j_0_5 zw_174 rfl zd_PT_letIn_15 ?_
  refine zi_bipush (pc := 18) h zd_PT_letIn_18 zq_bi_6 ?_
  refine zi_callV (pc := 20) h (st := []) (zc_PK_address (a := 6) (b := 7) zq_in_6_48 ⟨by decide, by decide, by decide⟩) zm_PK_address zw_281 zx_PK zq_k1 rfl ⟨by decide, by decide⟩ zd_PT_letIn_20 (Nat.le_of_ble_eq_true rfl) rfl ?_
  refine zi_callS (pc := 23) h (st := []) (zc_PT_isOutside) zm_PT_isOutside zw_287 ⟨by decide, by decide⟩ zd_PT_letIn_23 (Nat.le_of_ble_eq_true rfl) rfl ?_
  refine zi_if_ne_t (pc := 26) h (tgt := 31) zd_PT_letIn_26 rfl ho2 ?_
  refine zi_aload_n (pc := 31) h (i := 0) zd_PT_letIn_31 rfl 0 rfl ?_
  refine zi_get (pc := 32) h zx_PT 0 2 zq_k0 rfl zq_j_2_5 zw_176 rfl zd_PT_letIn_32 ?_
  refine zi_get (pc := 35) h zx_SU 5 1 zq_k5 rfl zq_j_1_7 zw_52 rfl zd_PT_letIn_35 ?_
  refine zi_ldc (pc := 38) h zw_290 zd_PT_letIn_38 ?_
  refine zi_icmp_ne_f (pc := 40) h (tgt := 53) zd_PT_letIn_40 rfl hs ?_
  refine zi_aload_n (pc := 43) h (i := 0) zd_PT_letIn_43 rfl 0 rfl ?_
  refine zi_get (pc := 44) h zx_PT 0 0 zq_k0 rfl zq_j_0_5 zw_174 rfl zd_PT_letIn_44 ?_
  refine zi_callV (pc := 47) h (st := []) (zc_PK_isEchoRequest) zm_PK_isEchoRequest zw_400 zx_PK zq_k1 rfl ⟨by decide, by decide⟩ zd_PT_letIn_47 (Nat.le_of_ble_eq_true rfl) rfl ?_
  refine zi_if_eq_t (pc := 50) h (tgt := 55) zd_PT_letIn_50 rfl hr2 ?_
  refine zi_aload_n (pc := 55) h (i := 0) zd_PT_letIn_55 rfl 0 rfl ?_
  refine zi_get (pc := 56) h zx_PT 0 3 zq_k0 rfl zq_j_3_5 zw_177 rfl zd_PT_letIn_56 ?_
  refine zi_aload_n (pc := 59) h (i := 0) zd_PT_letIn_59 rfl 0 rfl ?_
  refine zi_get (pc := 60) h zx_PT 0 2 zq_k0 rfl zq_j_2_5 zw_176 rfl zd_PT_letIn_60 ?_
  refine zi_callV (pc := 63) h (st := []) (zc_FT_findByOwn_n hpm hc hq) zm_FT_findByOwn zw_401 zx_FT zq_k6 rfl ⟨by decide, by decide⟩ zd_PT_letIn_63 (Nat.le_of_ble_eq_true rfl) rfl ?_
  refine zi_astore_nN (pc := 66) h (i := 1) (L' := [(1, _), (0, _)]) zd_PT_letIn_66 rfl (by decide) rfl ?_
  refine zi_aload_nN (pc := 67) h (i := 1) zd_PT_letIn_67 rfl 0 rfl ?_
  refine zi_ifnonnullN (pc := 68) h (x := 0) zd_PT_letIn_68 ?_
  refine zi_iconst (pc := 71) h zd_PT_letIn_71 zq_ic_5 ?_
  exact zi_ireturn (pc := 72) h hr zd_PT_letIn_72 rfl rfl

set_option maxRecDepth 20000 in
theorem zc_PT_li_g {l : Launch} {G : zz_G} {F : Nat → va_E} {v : Nat → Int32} {sz : Int32} {lv : Nat → Int32} {lz : Int32} {su : Nat → Int32} {pm : Nat → Nat} {fl : Nat → Nat → Int32} {ru : Nat → Nat → Int32} {c i a b d : Nat} (hpm : ∀ i, pm i < 12) (hc : c ≤ 12) (ho1 : zs_adr v 8 9 = -969710591) (ho2 : ¬ zv_out (zs_adr v 6 7) = 0) (hs : su 1 = -969710591) (hr2 : zs_req v = 0) (hq : zs_ff (zs_mo pm fl su) 0 c = some i) (hi : i < c) (hne : ∀ j, j < i → pm j ≠ pm i) (h1 : zz_ix (su 5) a 48) (h2 : zz_ix (su 5 + 1) b 48) (h3 : zz_ix (su 6) d 48) : zz_M l zy_PT_letIn zb_PT_letIn 2 (some .int) 5 113 G [.ref (G.2.2 0)] (zz_K G F v sz lv lz su pm (nI c) fl ru) (some (.int 0)) (zz_K G F (zs_vi v su pm fl i a b d) sz lv lz su (zs_nti (zs_vi v su pm fl i a b d) su pm fl c i).1 (nI (zs_nti (zs_vi v su pm fl i a b d) su pm fl c i).2.2) (zs_nti (zs_vi v su pm fl i a b d) su pm fl c i).2.1 ru) := by
  refine zz_M.of (by decide) (Nat.le_of_ble_eq_true rfl) ?_
  intro X hX h hr
  subst hX
  have h : zz_C X G (zz_A G.2.2) 2 zb_PT_letIn "PortTranslator" 5 113 0 0 := h
  refine zi_aload_n (pc := 0) h (i := 0) zd_PT_letIn_0 rfl 0 rfl ?_
  refine zi_get (pc := 1) h zx_PT 0 0 zq_k0 rfl zq_j_0_5 zw_174 rfl zd_PT_letIn_1 ?_
  refine zi_bipush (pc := 4) h zd_PT_letIn_4 zq_bi_8 ?_
  refine zi_callV (pc := 6) h (st := []) (zc_PK_address (a := 8) (b := 9) zq_in_8_48 ⟨by decide, by decide, by decide⟩) zm_PK_address zw_281 zx_PK zq_k1 rfl ⟨by decide, by decide⟩ zd_PT_letIn_6 (Nat.le_of_ble_eq_true rfl) rfl ?_
  refine zi_ldc (pc := 9) h zw_290 zd_PT_letIn_9 ?_
  refine zi_icmp_ne_f (pc := 11) h (tgt := 29) zd_PT_letIn_11 rfl ho1 ?_
  refine zi_aload_n (pc := 14) h (i := 0) zd_PT_letIn_14 rfl 0 rfl ?_
  refine zi_get (pc := 15) h zx_PT 0 0 zq_k0 rfl zq_j_0_5 zw_174 rfl zd_PT_letIn_15 ?_
  refine zi_bipush (pc := 18) h zd_PT_letIn_18 zq_bi_6 ?_
  refine zi_callV (pc := 20) h (st := []) (zc_PK_address (a := 6) (b := 7) zq_in_6_48 ⟨by decide, by decide, by decide⟩) zm_PK_address zw_281 zx_PK zq_k1 rfl ⟨by decide, by decide⟩ zd_PT_letIn_20 (Nat.le_of_ble_eq_true rfl) rfl ?_
  refine zi_callS (pc := 23) h (st := []) (zc_PT_isOutside) zm_PT_isOutside zw_287 ⟨by decide, by decide⟩ zd_PT_letIn_23 (Nat.le_of_ble_eq_true rfl) rfl ?_
  refine zi_if_ne_t (pc := 26) h (tgt := 31) zd_PT_letIn_26 rfl ho2 ?_
  refine zi_aload_n (pc := 31) h (i := 0) zd_PT_letIn_31 rfl 0 rfl ?_
  refine zi_get (pc := 32) h zx_PT 0 2 zq_k0 rfl zq_j_2_5 zw_176 rfl zd_PT_letIn_32 ?_
  refine zi_get (pc := 35) h zx_SU 5 1 zq_k5 rfl zq_j_1_7 zw_52 rfl zd_PT_letIn_35 ?_
  refine zi_ldc (pc := 38) h zw_290 zd_PT_letIn_38 ?_
  refine zi_icmp_ne_f (pc := 40) h (tgt := 53) zd_PT_letIn_40 rfl hs ?_
  refine zi_aload_n (pc := 43) h (i := 0) zd_PT_letIn_43 rfl 0 rfl ?_
  refine zi_get (pc := 44) h zx_PT 0 0 zq_k0 rfl zq_j_0_5 zw_174 rfl zd_PT_letIn_44 ?_
  refine zi_callV (pc := 47) h (st := []) (zc_PK_isEchoRequest) zm_PK_isEchoRequest zw_400 zx_PK zq_k1 rfl ⟨by decide, by decide⟩ zd_PT_letIn_47 (Nat.le_of_ble_eq_true rfl) rfl ?_
  refine zi_if_eq_t (pc := 50) h (tgt := 55) zd_PT_letIn_50 rfl hr2 ?_
  refine zi_aload_n (pc := 55) h (i := 0) zd_PT_letIn_55 rfl 0 rfl ?_
  refine zi_get (pc := 56) h zx_PT 0 3 zq_k0 rfl zq_j_3_5 zw_177 rfl zd_PT_letIn_56 ?_
  refine zi_aload_n (pc := 59) h (i := 0) zd_PT_letIn_59 rfl 0 rfl ?_
  refine zi_get (pc := 60) h zx_PT 0 2 zq_k0 rfl zq_j_2_5 zw_176 rfl zd_PT_letIn_60 ?_
  refine zi_callV (pc := 63) h (st := []) (zc_FT_findByOwn_s hpm hc hq) zm_FT_findByOwn zw_401 zx_FT zq_k6 rfl ⟨by decide, by decide⟩ zd_PT_letIn_63 (Nat.le_of_ble_eq_true rfl) rfl ?_
  refine zi_astore_n (pc := 66) h (i := 1) (L' := [(1, _), (0, _)]) zd_PT_letIn_66 rfl (by decide) rfl ?_
  refine zi_aload_n (pc := 67) h (i := 1) zd_PT_letIn_67 rfl 0 rfl ?_
  refine zi_ifnonnull (pc := 68) h (tgt := 73) zd_PT_letIn_68 rfl ?_
  refine zi_aload_n (pc := 73) h (i := 0) zd_PT_letIn_73 rfl 1 rfl ?_
  refine zi_bipush (pc := 74) h zd_PT_letIn_74 zq_bi_8 ?_
  refine zi_aload_n (pc := 76) h (i := 1) zd_PT_letIn_76 rfl 0 rfl ?_
  refine zi_get (pc := 77) h zx_FL _ 1 (zq_fl (hpm i)) (zk_at_fl _ (hpm i)) zq_j_1_10 zw_93 rfl zd_PT_letIn_77 ?_
  refine zi_aload_n (pc := 80) h (i := 1) zd_PT_letIn_80 rfl 0 rfl ?_
  refine zi_get (pc := 81) h zx_FL _ 2 (zq_fl (hpm i)) (zk_at_fl _ (hpm i)) zq_j_2_10 zw_95 rfl zd_PT_letIn_81 ?_
  refine zi_callVv (pc := 84) h (st := []) (zc_PT_translate (e1 := 8) (e2 := 9) (a := a) (b := b) (d := d) zq_in_8_48 ⟨by decide, by decide, by decide⟩ h1 h2 h3) zm_PT_translate zw_351 zx_PT zq_k0 rfl ⟨by decide, by decide⟩ zd_PT_letIn_84 (Nat.le_of_ble_eq_true rfl) rfl ?_
  refine zi_aload_n (pc := 87) h (i := 0) zd_PT_letIn_87 rfl 1 rfl ?_
  refine zi_aload_n (pc := 88) h (i := 1) zd_PT_letIn_88 rfl 0 rfl ?_
  refine zi_iconst (pc := 89) h zd_PT_letIn_89 zq_ic_0 ?_
  refine zi_callVv (pc := 90) h (st := []) (zc_PT_note_i hpm hc hi hne) zm_PT_note zw_380 zx_PT zq_k0 rfl ⟨by decide, by decide⟩ zd_PT_letIn_90 (Nat.le_of_ble_eq_true rfl) rfl ?_
  refine zi_iconst (pc := 93) h zd_PT_letIn_93 zq_ic_0 ?_
  exact zi_ireturn (pc := 94) h hr zd_PT_letIn_94 rfl rfl

theorem zc_SU_read_o {l : Launch} {G : zz_G} {F : Nat → va_E} {v : Nat → Int32} {sz : Int32} {lv : Nat → Int32} {lz : Int32} {su : Nat → Int32} {pm : Nat → Nat} {cn : Int32} {fl : Nat → Nat → Int32} {ru : Nat → Nat → Int32} : zz_M l zy_SU_read zb_SU_read 5 none 2 42 G [.ref (G.2.2 5), .ref (G.2.2 1), .int 1] (zz_K G F v sz lv lz su pm cn fl ru) none (zz_K G F v sz lv lz (zs_sbo v su) pm cn fl ru) := by
  by_cases he : zs_err v = 0
  · by_cases hk : v 4 &&& 255 = 1
    · rw [zs_sbo, if_pos he, if_pos hk]; exact zc_SU_read_101 he hk
    · rw [zs_sbo, if_pos he, if_neg hk]; exact zc_SU_read_100 he hk
  · by_cases hk : v 18 &&& 255 = 1
    · rw [zs_sbo, if_neg he, if_pos hk]; exact zc_SU_read_111 he hk
    · rw [zs_sbo, if_neg he, if_neg hk]; exact zc_SU_read_110 he hk

theorem zc_SU_read_i {l : Launch} {G : zz_G} {F : Nat → va_E} {v : Nat → Int32} {sz : Int32} {lv : Nat → Int32} {lz : Int32} {su : Nat → Int32} {pm : Nat → Nat} {cn : Int32} {fl : Nat → Nat → Int32} {ru : Nat → Nat → Int32} : zz_M l zy_SU_read zb_SU_read 5 none 2 42 G [.ref (G.2.2 5), .ref (G.2.2 1), .int 0] (zz_K G F v sz lv lz su pm cn fl ru) none (zz_K G F v sz lv lz (zs_sbi v su) pm cn fl ru) := by
  by_cases he : zs_err v = 0
  · by_cases hk : v 4 &&& 255 = 1
    · rw [zs_sbi, if_pos he, if_pos hk]; exact zc_SU_read_001 he hk
    · rw [zs_sbi, if_pos he, if_neg hk]; exact zc_SU_read_000 he hk
  · by_cases hk : v 18 &&& 255 = 1
    · rw [zs_sbi, if_neg he, if_pos hk]; exact zc_SU_read_011 he hk
    · rw [zs_sbi, if_neg he, if_neg hk]; exact zc_SU_read_010 he hk

set_option maxRecDepth 20000 in
theorem zc_PT_route_j {l : Launch} {G : zz_G} {F : Nat → va_E} {v : Nat → Int32} {lv : Nat → Int32} {lz : Int32} {su : Nat → Int32} {pm : Nat → Nat} {cn : Int32} {fl : Nat → Nat → Int32} {ru : Nat → Nat → Int32} {n : Nat} {o : Int32} (hn : n ≤ 48) (hj : ¬ zs_jdg v n = 0) : zz_M l zy_PT_route zb_PT_route 3 (some .int) 6 135 G [.ref (G.2.2 0), .int o] (zz_K G F v (nI n) lv lz su pm cn fl ru) (some (.int (zs_jdg v n))) (zz_K G F v 0 lv lz su pm cn fl ru) := by
  refine zz_M.of (by decide) (Nat.le_of_ble_eq_true rfl) ?_
  intro X hX h hr
  subst hX
  have h : zz_C X G (zz_A G.2.2) 3 zb_PT_route "PortTranslator" 6 135 0 0 := h
  refine zi_aload_n (pc := 0) h (i := 0) zd_PT_route_0 rfl 0 rfl ?_
  refine zi_callV (pc := 1) h (st := []) (zc_PT_judgeDraft hn) zm_PT_judgeDraft zw_215 zx_PT zq_k0 rfl ⟨by decide, by decide⟩ zd_PT_route_1 (Nat.le_of_ble_eq_true rfl) rfl ?_
  refine zi_istore_n (pc := 4) h (i := 2) (L' := [(2, _), (0, _), (1, _)]) zd_PT_route_4 rfl (by decide) rfl ?_
  refine zi_iload_n (pc := 5) h (i := 2) zd_PT_route_5 rfl 0 rfl ?_
  refine zi_if_ne_t (pc := 6) h (tgt := 37) zd_PT_route_6 rfl hj ?_
  refine zi_iload_n (pc := 37) h (i := 2) zd_PT_route_37 rfl 0 rfl ?_
  refine zi_if_ne_t (pc := 38) h (tgt := 59) zd_PT_route_38 rfl hj ?_
  refine zi_aload_n (pc := 59) h (i := 0) zd_PT_route_59 rfl 1 rfl ?_
  refine zi_get (pc := 60) h zx_PT 0 0 zq_k0 rfl zq_j_0_5 zw_174 rfl zd_PT_route_60 ?_
  refine zi_callVv (pc := 63) h (st := []) (zc_PK_empty) zm_PK_empty zw_207 zx_PK zq_k1 rfl ⟨by decide, by decide⟩ zd_PT_route_63 (Nat.le_of_ble_eq_true rfl) rfl ?_
  refine zi_iload_n (pc := 66) h (i := 2) zd_PT_route_66 rfl 0 rfl ?_
  exact zi_ireturn (pc := 67) h hr zd_PT_route_67 rfl rfl

set_option maxRecDepth 20000 in
theorem zc_PT_route_o_no {l : Launch} {G : zz_G} {F : Nat → va_E} {v : Nat → Int32} {lv : Nat → Int32} {lz : Int32} {su : Nat → Int32} {pm : Nat → Nat} {cn : Int32} {fl : Nat → Nat → Int32} {ru : Nat → Nat → Int32} {n : Nat} {v2 : Nat → Int32} {pm2 : Nat → Nat} {cn2 : Int32} {fl2 : Nat → Nat → Int32} {an : Int32} (hn : n ≤ 48) (hj : zs_jdg v n = 0) (hM : zz_M l zy_PT_sendOut zb_PT_sendOut 3 (some .int) 5 113 G [.ref (G.2.2 0)] (zz_K G F v (nI n) lv lz (zs_sbo v su) pm cn fl ru) (some (.int an)) (zz_K G F v2 (nI n) lv lz (zs_sbo v su) pm2 cn2 fl2 ru)) (ha : ¬ an = 0) : zz_M l zy_PT_route zb_PT_route 3 (some .int) 6 135 G [.ref (G.2.2 0), .int 1] (zz_K G F v (nI n) lv lz su pm cn fl ru) (some (.int an)) (zz_K G F v2 0 lv lz (zs_sbo v su) pm2 cn2 fl2 ru) := by
  refine zz_M.of (by decide) (Nat.le_of_ble_eq_true rfl) ?_
  intro X hX h hr
  subst hX
  have h : zz_C X G (zz_A G.2.2) 3 zb_PT_route "PortTranslator" 6 135 0 0 := h
  refine zi_aload_n (pc := 0) h (i := 0) zd_PT_route_0 rfl 0 rfl ?_
  refine zi_callV (pc := 1) h (st := []) (zc_PT_judgeDraft hn) zm_PT_judgeDraft zw_215 zx_PT zq_k0 rfl ⟨by decide, by decide⟩ zd_PT_route_1 (Nat.le_of_ble_eq_true rfl) rfl ?_
  refine zi_istore_n (pc := 4) h (i := 2) (L' := [(2, _), (0, _), (1, _)]) zd_PT_route_4 rfl (by decide) rfl ?_
  refine zi_iload_n (pc := 5) h (i := 2) zd_PT_route_5 rfl 0 rfl ?_
  refine zi_if_ne_f (pc := 6) h (tgt := 37) zd_PT_route_6 rfl hj ?_
  refine zi_aload_n (pc := 9) h (i := 0) zd_PT_route_9 rfl 1 rfl ?_
  refine zi_get (pc := 10) h zx_PT 0 2 zq_k0 rfl zq_j_2_5 zw_176 rfl zd_PT_route_10 ?_
  refine zi_aload_n (pc := 13) h (i := 0) zd_PT_route_13 rfl 1 rfl ?_
  refine zi_get (pc := 14) h zx_PT 0 0 zq_k0 rfl zq_j_0_5 zw_174 rfl zd_PT_route_14 ?_
  refine zi_iload_n (pc := 17) h (i := 1) zd_PT_route_17 rfl 2 rfl ?_
  refine zi_callVv (pc := 18) h (st := []) (zc_SU_read_o) zm_SU_read zw_267 zx_SU zq_k5 rfl ⟨by decide, by decide⟩ zd_PT_route_18 (Nat.le_of_ble_eq_true rfl) rfl ?_
  refine zi_iload_n (pc := 21) h (i := 1) zd_PT_route_21 rfl 2 rfl ?_
  refine zi_if_eq_f (pc := 22) h (tgt := 32) zd_PT_route_22 rfl (by decide) ?_
  refine zi_aload_n (pc := 25) h (i := 0) zd_PT_route_25 rfl 1 rfl ?_
  refine zi_callV (pc := 26) h (st := []) hM zm_PT_sendOut zw_277 zx_PT zq_k0 rfl ⟨by decide, by decide⟩ zd_PT_route_26 (Nat.le_of_ble_eq_true rfl) rfl ?_
  refine zi_goto (pc := 29) h (tgt := 36) zd_PT_route_29 rfl ?_
  refine zi_istore_n (pc := 36) h (i := 2) (L' := [(2, _), (0, _), (1, _)]) zd_PT_route_36 rfl (by decide) rfl ?_
  refine zi_iload_n (pc := 37) h (i := 2) zd_PT_route_37 rfl 0 rfl ?_
  refine zi_if_ne_t (pc := 38) h (tgt := 59) zd_PT_route_38 rfl ha ?_
  refine zi_aload_n (pc := 59) h (i := 0) zd_PT_route_59 rfl 1 rfl ?_
  refine zi_get (pc := 60) h zx_PT 0 0 zq_k0 rfl zq_j_0_5 zw_174 rfl zd_PT_route_60 ?_
  refine zi_callVv (pc := 63) h (st := []) (zc_PK_empty) zm_PK_empty zw_207 zx_PK zq_k1 rfl ⟨by decide, by decide⟩ zd_PT_route_63 (Nat.le_of_ble_eq_true rfl) rfl ?_
  refine zi_iload_n (pc := 66) h (i := 2) zd_PT_route_66 rfl 0 rfl ?_
  exact zi_ireturn (pc := 67) h hr zd_PT_route_67 rfl rfl

set_option maxRecDepth 20000 in
theorem zc_PT_route_o_ok {l : Launch} {G : zz_G} {F : Nat → va_E} {v : Nat → Int32} {lv : Nat → Int32} {lz : Int32} {su : Nat → Int32} {pm : Nat → Nat} {cn : Int32} {fl : Nat → Nat → Int32} {ru : Nat → Nat → Int32} {n : Nat} {v2 : Nat → Int32} {pm2 : Nat → Nat} {cn2 : Int32} {fl2 : Nat → Nat → Int32} (hn : n ≤ 48) (h10 : 10 ≤ n) (hj : zs_jdg v n = 0) (hM : zz_M l zy_PT_sendOut zb_PT_sendOut 3 (some .int) 5 113 G [.ref (G.2.2 0)] (zz_K G F v (nI n) lv lz (zs_sbo v su) pm cn fl ru) (some (.int 0)) (zz_K G F v2 (nI n) lv lz (zs_sbo v su) pm2 cn2 fl2 ru)) : zz_M l zy_PT_route zb_PT_route 3 (some .int) 6 135 G [.ref (G.2.2 0), .int 1] (zz_K G F v (nI n) lv lz su pm cn fl ru) (some (.int 0)) (zz_K G F (zs_wcs v2 n) 0 (va_cpy (zs_wcs v2 n) lv 0 0 48) (nI n) (zs_sbo v su) pm2 cn2 fl2 ru) := by
  refine zz_M.of (by decide) (Nat.le_of_ble_eq_true rfl) ?_
  intro X hX h hr
  subst hX
  have h : zz_C X G (zz_A G.2.2) 3 zb_PT_route "PortTranslator" 6 135 0 0 := h
  refine zi_aload_n (pc := 0) h (i := 0) zd_PT_route_0 rfl 0 rfl ?_
  refine zi_callV (pc := 1) h (st := []) (zc_PT_judgeDraft hn) zm_PT_judgeDraft zw_215 zx_PT zq_k0 rfl ⟨by decide, by decide⟩ zd_PT_route_1 (Nat.le_of_ble_eq_true rfl) rfl ?_
  refine zi_istore_n (pc := 4) h (i := 2) (L' := [(2, _), (0, _), (1, _)]) zd_PT_route_4 rfl (by decide) rfl ?_
  refine zi_iload_n (pc := 5) h (i := 2) zd_PT_route_5 rfl 0 rfl ?_
  refine zi_if_ne_f (pc := 6) h (tgt := 37) zd_PT_route_6 rfl hj ?_
  refine zi_aload_n (pc := 9) h (i := 0) zd_PT_route_9 rfl 1 rfl ?_
  refine zi_get (pc := 10) h zx_PT 0 2 zq_k0 rfl zq_j_2_5 zw_176 rfl zd_PT_route_10 ?_
  refine zi_aload_n (pc := 13) h (i := 0) zd_PT_route_13 rfl 1 rfl ?_
  refine zi_get (pc := 14) h zx_PT 0 0 zq_k0 rfl zq_j_0_5 zw_174 rfl zd_PT_route_14 ?_
  refine zi_iload_n (pc := 17) h (i := 1) zd_PT_route_17 rfl 2 rfl ?_
  refine zi_callVv (pc := 18) h (st := []) (zc_SU_read_o) zm_SU_read zw_267 zx_SU zq_k5 rfl ⟨by decide, by decide⟩ zd_PT_route_18 (Nat.le_of_ble_eq_true rfl) rfl ?_
  refine zi_iload_n (pc := 21) h (i := 1) zd_PT_route_21 rfl 2 rfl ?_
  refine zi_if_eq_f (pc := 22) h (tgt := 32) zd_PT_route_22 rfl (by decide) ?_
  refine zi_aload_n (pc := 25) h (i := 0) zd_PT_route_25 rfl 1 rfl ?_
  refine zi_callV (pc := 26) h (st := []) hM zm_PT_sendOut zw_277 zx_PT zq_k0 rfl ⟨by decide, by decide⟩ zd_PT_route_26 (Nat.le_of_ble_eq_true rfl) rfl ?_
  refine zi_goto (pc := 29) h (tgt := 36) zd_PT_route_29 rfl ?_
  refine zi_istore_n (pc := 36) h (i := 2) (L' := [(2, _), (0, _), (1, _)]) zd_PT_route_36 rfl (by decide) rfl ?_
  refine zi_iload_n (pc := 37) h (i := 2) zd_PT_route_37 rfl 0 rfl ?_
  refine zi_if_ne_f (pc := 38) h (tgt := 59) zd_PT_route_38 rfl rfl ?_
  refine zi_aload_n (pc := 41) h (i := 0) zd_PT_route_41 rfl 1 rfl ?_
  refine zi_get (pc := 42) h zx_PT 0 0 zq_k0 rfl zq_j_0_5 zw_174 rfl zd_PT_route_42 ?_
  refine zi_callVv (pc := 45) h (st := []) (zc_PK_writeChecksums h10 hn) zm_PK_writeChecksums zw_405 zx_PK zq_k1 rfl ⟨by decide, by decide⟩ zd_PT_route_45 (Nat.le_of_ble_eq_true rfl) rfl ?_
  refine zi_aload_n (pc := 48) h (i := 0) zd_PT_route_48 rfl 1 rfl ?_
  refine zi_get (pc := 49) h zx_PT 0 1 zq_k0 rfl zq_j_1_5 zw_175 rfl zd_PT_route_49 ?_
  refine zi_aload_n (pc := 52) h (i := 0) zd_PT_route_52 rfl 1 rfl ?_
  refine zi_get (pc := 53) h zx_PT 0 0 zq_k0 rfl zq_j_0_5 zw_174 rfl zd_PT_route_53 ?_
  refine zi_callVv (pc := 56) h (st := []) (zc_PK_copyFrom) zm_PK_copyFrom zw_413 zx_PK zq_k3 rfl ⟨by decide, by decide⟩ zd_PT_route_56 (Nat.le_of_ble_eq_true rfl) rfl ?_
  refine zi_aload_n (pc := 59) h (i := 0) zd_PT_route_59 rfl 1 rfl ?_
  refine zi_get (pc := 60) h zx_PT 0 0 zq_k0 rfl zq_j_0_5 zw_174 rfl zd_PT_route_60 ?_
  refine zi_callVv (pc := 63) h (st := []) (zc_PK_empty) zm_PK_empty zw_207 zx_PK zq_k1 rfl ⟨by decide, by decide⟩ zd_PT_route_63 (Nat.le_of_ble_eq_true rfl) rfl ?_
  refine zi_iload_n (pc := 66) h (i := 2) zd_PT_route_66 rfl 0 rfl ?_
  exact zi_ireturn (pc := 67) h hr zd_PT_route_67 rfl rfl

set_option maxRecDepth 20000 in
theorem zc_PT_route_i_no {l : Launch} {G : zz_G} {F : Nat → va_E} {v : Nat → Int32} {lv : Nat → Int32} {lz : Int32} {su : Nat → Int32} {pm : Nat → Nat} {cn : Int32} {fl : Nat → Nat → Int32} {ru : Nat → Nat → Int32} {n : Nat} {v2 : Nat → Int32} {pm2 : Nat → Nat} {cn2 : Int32} {fl2 : Nat → Nat → Int32} {an : Int32} (hn : n ≤ 48) (hj : zs_jdg v n = 0) (hM : zz_M l zy_PT_letIn zb_PT_letIn 2 (some .int) 5 113 G [.ref (G.2.2 0)] (zz_K G F v (nI n) lv lz (zs_sbi v su) pm cn fl ru) (some (.int an)) (zz_K G F v2 (nI n) lv lz (zs_sbi v su) pm2 cn2 fl2 ru)) (ha : ¬ an = 0) : zz_M l zy_PT_route zb_PT_route 3 (some .int) 6 135 G [.ref (G.2.2 0), .int 0] (zz_K G F v (nI n) lv lz su pm cn fl ru) (some (.int an)) (zz_K G F v2 0 lv lz (zs_sbi v su) pm2 cn2 fl2 ru) := by
  refine zz_M.of (by decide) (Nat.le_of_ble_eq_true rfl) ?_
  intro X hX h hr
  subst hX
  have h : zz_C X G (zz_A G.2.2) 3 zb_PT_route "PortTranslator" 6 135 0 0 := h
  refine zi_aload_n (pc := 0) h (i := 0) zd_PT_route_0 rfl 0 rfl ?_
  refine zi_callV (pc := 1) h (st := []) (zc_PT_judgeDraft hn) zm_PT_judgeDraft zw_215 zx_PT zq_k0 rfl ⟨by decide, by decide⟩ zd_PT_route_1 (Nat.le_of_ble_eq_true rfl) rfl ?_
  refine zi_istore_n (pc := 4) h (i := 2) (L' := [(2, _), (0, _), (1, _)]) zd_PT_route_4 rfl (by decide) rfl ?_
  refine zi_iload_n (pc := 5) h (i := 2) zd_PT_route_5 rfl 0 rfl ?_
  refine zi_if_ne_f (pc := 6) h (tgt := 37) zd_PT_route_6 rfl hj ?_
  refine zi_aload_n (pc := 9) h (i := 0) zd_PT_route_9 rfl 1 rfl ?_
  refine zi_get (pc := 10) h zx_PT 0 2 zq_k0 rfl zq_j_2_5 zw_176 rfl zd_PT_route_10 ?_
  refine zi_aload_n (pc := 13) h (i := 0) zd_PT_route_13 rfl 1 rfl ?_
  refine zi_get (pc := 14) h zx_PT 0 0 zq_k0 rfl zq_j_0_5 zw_174 rfl zd_PT_route_14 ?_
  refine zi_iload_n (pc := 17) h (i := 1) zd_PT_route_17 rfl 2 rfl ?_
  refine zi_callVv (pc := 18) h (st := []) (zc_SU_read_i) zm_SU_read zw_267 zx_SU zq_k5 rfl ⟨by decide, by decide⟩ zd_PT_route_18 (Nat.le_of_ble_eq_true rfl) rfl ?_
  refine zi_iload_n (pc := 21) h (i := 1) zd_PT_route_21 rfl 2 rfl ?_
  refine zi_if_eq_t (pc := 22) h (tgt := 32) zd_PT_route_22 rfl (by decide) ?_
  refine zi_aload_n (pc := 32) h (i := 0) zd_PT_route_32 rfl 1 rfl ?_
  refine zi_callV (pc := 33) h (st := []) hM zm_PT_letIn zw_396 zx_PT zq_k0 rfl ⟨by decide, by decide⟩ zd_PT_route_33 (Nat.le_of_ble_eq_true rfl) rfl ?_
  refine zi_istore_n (pc := 36) h (i := 2) (L' := [(2, _), (0, _), (1, _)]) zd_PT_route_36 rfl (by decide) rfl ?_
  refine zi_iload_n (pc := 37) h (i := 2) zd_PT_route_37 rfl 0 rfl ?_
  refine zi_if_ne_t (pc := 38) h (tgt := 59) zd_PT_route_38 rfl ha ?_
  refine zi_aload_n (pc := 59) h (i := 0) zd_PT_route_59 rfl 1 rfl ?_
  refine zi_get (pc := 60) h zx_PT 0 0 zq_k0 rfl zq_j_0_5 zw_174 rfl zd_PT_route_60 ?_
  refine zi_callVv (pc := 63) h (st := []) (zc_PK_empty) zm_PK_empty zw_207 zx_PK zq_k1 rfl ⟨by decide, by decide⟩ zd_PT_route_63 (Nat.le_of_ble_eq_true rfl) rfl ?_
  refine zi_iload_n (pc := 66) h (i := 2) zd_PT_route_66 rfl 0 rfl ?_
  exact zi_ireturn (pc := 67) h hr zd_PT_route_67 rfl rfl

set_option maxRecDepth 20000 in
theorem zc_PT_route_i_ok {l : Launch} {G : zz_G} {F : Nat → va_E} {v : Nat → Int32} {lv : Nat → Int32} {lz : Int32} {su : Nat → Int32} {pm : Nat → Nat} {cn : Int32} {fl : Nat → Nat → Int32} {ru : Nat → Nat → Int32} {n : Nat} {v2 : Nat → Int32} {pm2 : Nat → Nat} {cn2 : Int32} {fl2 : Nat → Nat → Int32} (hn : n ≤ 48) (h10 : 10 ≤ n) (hj : zs_jdg v n = 0) (hM : zz_M l zy_PT_letIn zb_PT_letIn 2 (some .int) 5 113 G [.ref (G.2.2 0)] (zz_K G F v (nI n) lv lz (zs_sbi v su) pm cn fl ru) (some (.int 0)) (zz_K G F v2 (nI n) lv lz (zs_sbi v su) pm2 cn2 fl2 ru)) : zz_M l zy_PT_route zb_PT_route 3 (some .int) 6 135 G [.ref (G.2.2 0), .int 0] (zz_K G F v (nI n) lv lz su pm cn fl ru) (some (.int 0)) (zz_K G F (zs_wcs v2 n) 0 (va_cpy (zs_wcs v2 n) lv 0 0 48) (nI n) (zs_sbi v su) pm2 cn2 fl2 ru) := by
  refine zz_M.of (by decide) (Nat.le_of_ble_eq_true rfl) ?_
  intro X hX h hr
  subst hX
  have h : zz_C X G (zz_A G.2.2) 3 zb_PT_route "PortTranslator" 6 135 0 0 := h
  refine zi_aload_n (pc := 0) h (i := 0) zd_PT_route_0 rfl 0 rfl ?_
  refine zi_callV (pc := 1) h (st := []) (zc_PT_judgeDraft hn) zm_PT_judgeDraft zw_215 zx_PT zq_k0 rfl ⟨by decide, by decide⟩ zd_PT_route_1 (Nat.le_of_ble_eq_true rfl) rfl ?_
  refine zi_istore_n (pc := 4) h (i := 2) (L' := [(2, _), (0, _), (1, _)]) zd_PT_route_4 rfl (by decide) rfl ?_
  refine zi_iload_n (pc := 5) h (i := 2) zd_PT_route_5 rfl 0 rfl ?_
  refine zi_if_ne_f (pc := 6) h (tgt := 37) zd_PT_route_6 rfl hj ?_
  refine zi_aload_n (pc := 9) h (i := 0) zd_PT_route_9 rfl 1 rfl ?_
  refine zi_get (pc := 10) h zx_PT 0 2 zq_k0 rfl zq_j_2_5 zw_176 rfl zd_PT_route_10 ?_
  refine zi_aload_n (pc := 13) h (i := 0) zd_PT_route_13 rfl 1 rfl ?_
  refine zi_get (pc := 14) h zx_PT 0 0 zq_k0 rfl zq_j_0_5 zw_174 rfl zd_PT_route_14 ?_
  refine zi_iload_n (pc := 17) h (i := 1) zd_PT_route_17 rfl 2 rfl ?_
  refine zi_callVv (pc := 18) h (st := []) (zc_SU_read_i) zm_SU_read zw_267 zx_SU zq_k5 rfl ⟨by decide, by decide⟩ zd_PT_route_18 (Nat.le_of_ble_eq_true rfl) rfl ?_
  refine zi_iload_n (pc := 21) h (i := 1) zd_PT_route_21 rfl 2 rfl ?_
  refine zi_if_eq_t (pc := 22) h (tgt := 32) zd_PT_route_22 rfl (by decide) ?_
  refine zi_aload_n (pc := 32) h (i := 0) zd_PT_route_32 rfl 1 rfl ?_
  refine zi_callV (pc := 33) h (st := []) hM zm_PT_letIn zw_396 zx_PT zq_k0 rfl ⟨by decide, by decide⟩ zd_PT_route_33 (Nat.le_of_ble_eq_true rfl) rfl ?_
  refine zi_istore_n (pc := 36) h (i := 2) (L' := [(2, _), (0, _), (1, _)]) zd_PT_route_36 rfl (by decide) rfl ?_
  refine zi_iload_n (pc := 37) h (i := 2) zd_PT_route_37 rfl 0 rfl ?_
  refine zi_if_ne_f (pc := 38) h (tgt := 59) zd_PT_route_38 rfl rfl ?_
  refine zi_aload_n (pc := 41) h (i := 0) zd_PT_route_41 rfl 1 rfl ?_
  refine zi_get (pc := 42) h zx_PT 0 0 zq_k0 rfl zq_j_0_5 zw_174 rfl zd_PT_route_42 ?_
  refine zi_callVv (pc := 45) h (st := []) (zc_PK_writeChecksums h10 hn) zm_PK_writeChecksums zw_405 zx_PK zq_k1 rfl ⟨by decide, by decide⟩ zd_PT_route_45 (Nat.le_of_ble_eq_true rfl) rfl ?_
  refine zi_aload_n (pc := 48) h (i := 0) zd_PT_route_48 rfl 1 rfl ?_
  refine zi_get (pc := 49) h zx_PT 0 1 zq_k0 rfl zq_j_1_5 zw_175 rfl zd_PT_route_49 ?_
  refine zi_aload_n (pc := 52) h (i := 0) zd_PT_route_52 rfl 1 rfl ?_
  refine zi_get (pc := 53) h zx_PT 0 0 zq_k0 rfl zq_j_0_5 zw_174 rfl zd_PT_route_53 ?_
  refine zi_callVv (pc := 56) h (st := []) (zc_PK_copyFrom) zm_PK_copyFrom zw_413 zx_PK zq_k3 rfl ⟨by decide, by decide⟩ zd_PT_route_56 (Nat.le_of_ble_eq_true rfl) rfl ?_
  refine zi_aload_n (pc := 59) h (i := 0) zd_PT_route_59 rfl 1 rfl ?_
  refine zi_get (pc := 60) h zx_PT 0 0 zq_k0 rfl zq_j_0_5 zw_174 rfl zd_PT_route_60 ?_
  refine zi_callVv (pc := 63) h (st := []) (zc_PK_empty) zm_PK_empty zw_207 zx_PK zq_k1 rfl ⟨by decide, by decide⟩ zd_PT_route_63 (Nat.le_of_ble_eq_true rfl) rfl ?_
  refine zi_iload_n (pc := 66) h (i := 2) zd_PT_route_66 rfl 0 rfl ?_
  exact zi_ireturn (pc := 67) h hr zd_PT_route_67 rfl rfl
