theorem zq_incN (i : Nat) : nI i + Int32.ofInt 1 = nI (i + 1) := by rw [zq_ic_1, nI_1]
theorem zq_le {n m : Nat} (h : ¬ nI n < nI m) (hn : n < 2 ^ 31) (hm : m < 2 ^ 31) : m ≤ n := Nat.le_of_not_lt (fun q => h (nI_lt q hm))
def zs_ush (x y : Int32) : Int32 := (x.toUInt32 >>> (y.toUInt32 &&& Int32.toUInt32 31)).toInt32
def zs_tot (v : Nat → Int32) : Nat → Nat → Int32 → Int32
  | _, 0, acc => acc
  | i, n + 1, acc => zs_tot v (i + 1) n (acc + v i)
def zs_sum (t : Int32) : Int32 := (((t &&& 65535) + zs_ush t 16) &&& 65535) + zs_ush ((t &&& 65535) + zs_ush t 16) 16
def zs_kd (v : Nat → Int32) : Int32 := v 4 &&& 255
def zs_adr (v : Nat → Int32) (a b : Nat) : Int32 := (v a <<< ((16 : Int32) &&& 31)) ||| v b
def zs_set (v : Nat → Int32) (a b : Nat) (x : Int32) : Nat → Int32 := upd (upd v a (zs_ush x 16)) b (x &&& 65535)
def zs_req (v : Nat → Int32) : Int32 := if v 4 &&& 255 = 1 then (if v 10 = 2048 then 1 else 0) else 0
def zs_rep (v : Nat → Int32) : Int32 := if v 4 &&& 255 = 1 then (if v 10 = 0 then 1 else 0) else 0
def zs_err (v : Nat → Int32) : Int32 := if v 4 &&& 255 = 1 then (if v 10 >>> ((8 : Int32) &&& 31) = 3 then 1 else if v 10 >>> ((8 : Int32) &&& 31) = 11 then 1 else 0) else 0
def zs_isk (k : Int32) : Int32 := if k = 1 then 1 else if k = 6 then 1 else if k = 17 then 1 else 0
def zs_bt (v : Nat → Int32) (n : Nat) : Int32 := if v 4 &&& 255 = 1 then zs_tot v 10 (n - 10) 0 else zs_tot v 6 (n - 6) 0 + (v 4 &&& 255) + 2 * (nI n - 10)
def zs_agr (v : Nat → Int32) (n : Nat) : Int32 := if zs_sum (zs_bt v n) = 65535 then 1 else 0
def zs_oth (v : Nat → Int32) (n : Nat) : Int32 := if nI n < 28 then 0 else if v 14 >>> ((8 : Int32) &&& 31) = 69 then (if zs_isk (v 18 &&& 255) = 0 then 0 else 1) else 0
def zs_wf (v : Nat → Int32) (n : Nat) : Int32 := if nI n < 10 then 0 else if v 0 >>> ((8 : Int32) &&& 31) = 69 then (if v 1 = 2 * nI n then (if v 3 &&& 49151 = 0 then (if zs_sum (zs_tot v 0 10 0) = 65535 then
  (if v 4 &&& 255 = 1 then (if nI n < 14 then 0 else if zs_agr v n = 0 then 0 else if zs_req v = 0 then (if zs_rep v = 0 then (if zs_err v = 0 then 0 else if zs_oth v n = 0 then 0 else 1) else 1) else 1)
  else if v 4 &&& 255 = 6 then (if nI n < 20 then 0 else if v 16 >>> ((12 : Int32) &&& 31) = 5 then (if zs_agr v n = 0 then 0 else 1) else 0)
  else if v 4 &&& 255 = 17 then (if nI n < 14 then 0 else if v 12 = 2 * (nI n - 10) then (if v 13 = 0 then 1 else if zs_agr v n = 0 then 0 else 1) else 0) else 0) else 0) else 0) else 0) else 0
def zs_adj (v : Nat → Int32) (i : Nat) (c : Int32) : Nat → Int32 := upd v i (65535 - zs_sum (65535 - v i + c))
def zs_ado (v : Nat → Int32) (x y : Int32) : Nat → Int32 := if zs_adj v 19 x 18 &&& 255 = 17 then (if zs_adj v 19 x 27 = 0 then (if zs_adj v 19 x 18 &&& 255 = 1 then zs_adj (zs_adj v 19 x) 25 y else zs_adj v 19 x) else zs_adj (zs_adj v 19 x) 27 (x + y)) else if zs_adj v 19 x 18 &&& 255 = 1 then zs_adj (zs_adj v 19 x) 25 y else zs_adj v 19 x
def zs_hcs (v : Nat → Int32) : Nat → Int32 := upd (upd v 5 0) 5 (65535 - zs_sum (zs_tot (upd v 5 0) 0 10 0))
def zs_wbc (v : Nat → Int32) (n i : Nat) : Nat → Int32 := upd (upd v i 0) i (65535 - zs_sum (zs_bt (upd v i 0) n))
def zs_wcs (v : Nat → Int32) (n : Nat) : Nat → Int32 := if zs_hcs v 4 &&& 255 = 6 then zs_wbc (zs_hcs v) n 18 else if zs_hcs v 4 &&& 255 = 1 then zs_wbc (zs_hcs v) n 11 else if zs_hcs v 13 = 0 then zs_hcs v else if zs_wbc (zs_hcs v) n 13 13 = 0 then upd (zs_wbc (zs_hcs v) n 13) 13 65535 else zs_wbc (zs_hcs v) n 13

set_option maxRecDepth 20000 in
theorem zc_PT_isKind {l : Launch} {G : zz_G} {F : Nat → va_E} {k : Int32} : zz_M l zy_PT_isKind zb_PT_isKind 1 (some .boolean) 0 0 G [.int k] F (some (.int (zs_isk k))) F := by
  refine zz_M.of (by decide) (Nat.le_of_ble_eq_true rfl) ?_
  intro X hX h hr
  subst hX
  have h : zz_C X G (zz_A G.2.2) 1 zb_PT_isKind "PortTranslator" 0 0 0 0 := h
  refine zi_iload_n (pc := 0) h (i := 0) zd_PT_isKind_0 rfl 0 rfl ?_
  refine zi_iconst (pc := 1) h zd_PT_isKind_1 zq_ic_1 ?_
  refine zi_icmp_eq (pc := 2) h (tgt := 17) zd_PT_isKind_2 rfl ?_ ?_
  · intro b2
    refine zi_iconst (pc := 17) h zd_PT_isKind_17 zq_ic_1 ?_
    refine zi_goto (pc := 18) h (tgt := 22) zd_PT_isKind_18 rfl ?_
    exact zi_zreturn (pc := 22) h hr rfl zd_PT_isKind_22 (by rw [zs_isk, if_pos b2]) rfl
  · intro b2
    refine zi_iload_n (pc := 5) h (i := 0) zd_PT_isKind_5 rfl 0 rfl ?_
    refine zi_bipush (pc := 6) h zd_PT_isKind_6 zq_bi_6 ?_
    refine zi_icmp_eq (pc := 8) h (tgt := 17) zd_PT_isKind_8 rfl ?_ ?_
    · intro b8
      refine zi_iconst (pc := 17) h zd_PT_isKind_17 zq_ic_1 ?_
      refine zi_goto (pc := 18) h (tgt := 22) zd_PT_isKind_18 rfl ?_
      exact zi_zreturn (pc := 22) h hr rfl zd_PT_isKind_22 (by rw [zs_isk, if_neg b2, if_pos b8]) rfl
    · intro b8
      refine zi_iload_n (pc := 11) h (i := 0) zd_PT_isKind_11 rfl 0 rfl ?_
      refine zi_bipush (pc := 12) h zd_PT_isKind_12 zq_bi_17 ?_
      refine zi_icmp_ne (pc := 14) h (tgt := 21) zd_PT_isKind_14 rfl ?_ ?_
      · intro b14
        refine zi_iconst (pc := 21) h zd_PT_isKind_21 zq_ic_0 ?_
        exact zi_zreturn (pc := 22) h hr rfl zd_PT_isKind_22 (by rw [zs_isk, if_neg b2, if_neg b8, if_neg b14]) rfl
      · intro b14
        refine zi_iconst (pc := 17) h zd_PT_isKind_17 zq_ic_1 ?_
        refine zi_goto (pc := 18) h (tgt := 22) zd_PT_isKind_18 rfl ?_
        exact zi_zreturn (pc := 22) h hr rfl zd_PT_isKind_22 (by rw [zs_isk, if_neg b2, if_neg b8, if_pos b14]) rfl

set_option maxRecDepth 20000 in
theorem zc_PK_sum {l : Launch} {G : zz_G} {F : Nat → va_E} {t : Int32} : zz_M l zy_PK_sum zb_PK_sum 2 (some .int) 0 0 G [.int t] F (some (.int (zs_sum t))) F := by
  refine zz_M.of (by decide) (Nat.le_of_ble_eq_true rfl) ?_
  intro X hX h hr
  subst hX
  have h : zz_C X G (zz_A G.2.2) 2 zb_PK_sum "PortTranslator$Packet" 0 0 0 0 := h
  refine zi_iload_n (pc := 0) h (i := 0) zd_PK_sum_0 rfl 0 rfl ?_
  refine zi_ldc (pc := 1) h zw_231 zd_PK_sum_1 ?_
  refine zi_iand (pc := 3) h zd_PK_sum_3 ?_
  refine zi_iload_n (pc := 4) h (i := 0) zd_PK_sum_4 rfl 0 rfl ?_
  refine zi_bipush (pc := 5) h zd_PK_sum_5 zq_bi_16 ?_
  refine zi_iushr (pc := 7) h zd_PK_sum_7 rfl ?_
  refine zi_iadd (pc := 8) h zd_PK_sum_8 ?_
  refine zi_istore_n (pc := 9) h (i := 1) (L' := [(1, _), (0, _)]) zd_PK_sum_9 rfl (by decide) rfl ?_
  refine zi_iload_n (pc := 10) h (i := 1) zd_PK_sum_10 rfl 0 rfl ?_
  refine zi_ldc (pc := 11) h zw_231 zd_PK_sum_11 ?_
  refine zi_iand (pc := 13) h zd_PK_sum_13 ?_
  refine zi_iload_n (pc := 14) h (i := 1) zd_PK_sum_14 rfl 0 rfl ?_
  refine zi_bipush (pc := 15) h zd_PK_sum_15 zq_bi_16 ?_
  refine zi_iushr (pc := 17) h zd_PK_sum_17 rfl ?_
  refine zi_iadd (pc := 18) h zd_PK_sum_18 ?_
  exact zi_ireturn (pc := 19) h hr zd_PK_sum_19 rfl rfl

set_option maxRecDepth 20000 in
theorem zc_PK_flags {l : Launch} {G : zz_G} {F : Nat → va_E} {v : Nat → Int32} {sz : Int32} {lv : Nat → Int32} {lz : Int32} {su : Nat → Int32} {pm : Nat → Nat} {cn : Int32} {fl : Nat → Nat → Int32} {ru : Nat → Nat → Int32} : zz_M l zy_PK_flags zb_PK_flags 1 (some .int) 0 0 G [.ref (G.2.2 1)] (zz_K G F v sz lv lz su pm cn fl ru) (some (.int (v 16))) (zz_K G F v sz lv lz su pm cn fl ru) := by
  refine zz_M.of (by decide) (Nat.le_of_ble_eq_true rfl) ?_
  intro X hX h hr
  subst hX
  have h : zz_C X G (zz_A G.2.2) 1 zb_PK_flags "PortTranslator$Packet" 0 0 0 0 := h
  refine zi_aload_n (pc := 0) h (i := 0) zd_PK_flags_0 rfl 0 rfl ?_
  refine zi_get (pc := 1) h zx_PK 1 0 zq_k1 rfl zq_j_0_2 zw_29 rfl zd_PK_flags_1 ?_
  refine zi_bipush (pc := 4) h zd_PK_flags_4 zq_bi_16 ?_
  refine zi_iald (pc := 6) h 2 zq_k2 rfl zq_in_16_48 zd_PK_flags_6 ?_
  exact zi_ireturn (pc := 7) h hr zd_PK_flags_7 rfl rfl

set_option maxRecDepth 20000 in
theorem zc_PK_time {l : Launch} {G : zz_G} {F : Nat → va_E} {v : Nat → Int32} {sz : Int32} {lv : Nat → Int32} {lz : Int32} {su : Nat → Int32} {pm : Nat → Nat} {cn : Int32} {fl : Nat → Nat → Int32} {ru : Nat → Nat → Int32} : zz_M l zy_PK_time zb_PK_time 1 (some .int) 0 0 G [.ref (G.2.2 1)] (zz_K G F v sz lv lz su pm cn fl ru) (some (.int (v 4 >>> ((8 : Int32) &&& 31)))) (zz_K G F v sz lv lz su pm cn fl ru) := by
  refine zz_M.of (by decide) (Nat.le_of_ble_eq_true rfl) ?_
  intro X hX h hr
  subst hX
  have h : zz_C X G (zz_A G.2.2) 1 zb_PK_time "PortTranslator$Packet" 0 0 0 0 := h
  refine zi_aload_n (pc := 0) h (i := 0) zd_PK_time_0 rfl 0 rfl ?_
  refine zi_get (pc := 1) h zx_PK 1 0 zq_k1 rfl zq_j_0_2 zw_29 rfl zd_PK_time_1 ?_
  refine zi_iconst (pc := 4) h zd_PK_time_4 zq_ic_4 ?_
  refine zi_iald (pc := 5) h 2 zq_k2 rfl zq_in_4_48 zd_PK_time_5 ?_
  refine zi_bipush (pc := 6) h zd_PK_time_6 zq_bi_8 ?_
  refine zi_ishr (pc := 8) h zd_PK_time_8 ?_
  exact zi_ireturn (pc := 9) h hr zd_PK_time_9 rfl rfl

set_option maxRecDepth 20000 in
theorem zc_PK_kindAt {l : Launch} {G : zz_G} {F : Nat → va_E} {v : Nat → Int32} {sz : Int32} {lv : Nat → Int32} {lz : Int32} {su : Nat → Int32} {pm : Nat → Nat} {cn : Int32} {fl : Nat → Nat → Int32} {ru : Nat → Nat → Int32} {s : Int32} {a : Nat} (hi : zz_ix (s + 4) a 48) : zz_M l zy_PK_kindAt zb_PK_kindAt 2 (some .int) 0 0 G [.ref (G.2.2 1), .int s] (zz_K G F v sz lv lz su pm cn fl ru) (some (.int (v a &&& 255))) (zz_K G F v sz lv lz su pm cn fl ru) := by
  refine zz_M.of (by decide) (Nat.le_of_ble_eq_true rfl) ?_
  intro X hX h hr
  subst hX
  have h : zz_C X G (zz_A G.2.2) 2 zb_PK_kindAt "PortTranslator$Packet" 0 0 0 0 := h
  refine zi_aload_n (pc := 0) h (i := 0) zd_PK_kindAt_0 rfl 0 rfl ?_
  refine zi_get (pc := 1) h zx_PK 1 0 zq_k1 rfl zq_j_0_2 zw_29 rfl zd_PK_kindAt_1 ?_
  refine zi_iload_n (pc := 4) h (i := 1) zd_PK_kindAt_4 rfl 1 rfl ?_
  refine zi_iconst (pc := 5) h zd_PK_kindAt_5 zq_ic_4 ?_
  refine zi_iadd (pc := 6) h zd_PK_kindAt_6 ?_
  refine zi_iald (pc := 7) h 2 zq_k2 rfl hi zd_PK_kindAt_7 ?_
  refine zi_sipush (pc := 8) h zd_PK_kindAt_8 zq_si_255 ?_
  refine zi_iand (pc := 11) h zd_PK_kindAt_11 ?_
  exact zi_ireturn (pc := 12) h hr zd_PK_kindAt_12 rfl rfl

set_option maxRecDepth 20000 in
theorem zc_PK_isEchoRequest {l : Launch} {G : zz_G} {F : Nat → va_E} {v : Nat → Int32} {sz : Int32} {lv : Nat → Int32} {lz : Int32} {su : Nat → Int32} {pm : Nat → Nat} {cn : Int32} {fl : Nat → Nat → Int32} {ru : Nat → Nat → Int32} : zz_M l zy_PK_isEchoRequest zb_PK_isEchoRequest 1 (some .boolean) 1 21 G [.ref (G.2.2 1)] (zz_K G F v sz lv lz su pm cn fl ru) (some (.int (zs_req v))) (zz_K G F v sz lv lz su pm cn fl ru) := by
  refine zz_M.of (by decide) (Nat.le_of_ble_eq_true rfl) ?_
  intro X hX h hr
  subst hX
  have h : zz_C X G (zz_A G.2.2) 1 zb_PK_isEchoRequest "PortTranslator$Packet" 1 21 0 0 := h
  refine zi_aload_n (pc := 0) h (i := 0) zd_PK_isEchoRequest_0 rfl 0 rfl ?_
  refine zi_iconst (pc := 1) h zd_PK_isEchoRequest_1 zq_ic_0 ?_
  refine zi_callV (pc := 2) h (st := []) (zc_PK_kindAt (s := 0) (a := 4) ⟨by decide, by decide, by decide⟩) zm_PK_kindAt zw_232 zx_PK zq_k1 rfl ⟨by decide, by decide⟩ zd_PK_isEchoRequest_2 (Nat.le_of_ble_eq_true rfl) rfl ?_
  refine zi_iconst (pc := 5) h zd_PK_isEchoRequest_5 zq_ic_1 ?_
  refine zi_icmp_ne (pc := 6) h (tgt := 26) zd_PK_isEchoRequest_6 rfl ?_ ?_
  · intro b6
    refine zi_iconst (pc := 26) h zd_PK_isEchoRequest_26 zq_ic_0 ?_
    exact zi_zreturn (pc := 27) h hr rfl zd_PK_isEchoRequest_27 (by rw [zs_req, if_neg b6]) rfl
  · intro b6
    refine zi_aload_n (pc := 9) h (i := 0) zd_PK_isEchoRequest_9 rfl 0 rfl ?_
    refine zi_get (pc := 10) h zx_PK 1 0 zq_k1 rfl zq_j_0_2 zw_29 rfl zd_PK_isEchoRequest_10 ?_
    refine zi_bipush (pc := 13) h zd_PK_isEchoRequest_13 zq_bi_10 ?_
    refine zi_iald (pc := 15) h 2 zq_k2 rfl zq_in_10_48 zd_PK_isEchoRequest_15 ?_
    refine zi_sipush (pc := 16) h zd_PK_isEchoRequest_16 zq_si_2048 ?_
    refine zi_icmp_ne (pc := 19) h (tgt := 26) zd_PK_isEchoRequest_19 rfl ?_ ?_
    · intro b19
      refine zi_iconst (pc := 26) h zd_PK_isEchoRequest_26 zq_ic_0 ?_
      exact zi_zreturn (pc := 27) h hr rfl zd_PK_isEchoRequest_27 (by rw [zs_req, if_pos b6, if_neg b19]) rfl
    · intro b19
      refine zi_iconst (pc := 22) h zd_PK_isEchoRequest_22 zq_ic_1 ?_
      refine zi_goto (pc := 23) h (tgt := 27) zd_PK_isEchoRequest_23 rfl ?_
      exact zi_zreturn (pc := 27) h hr rfl zd_PK_isEchoRequest_27 (by rw [zs_req, if_pos b6, if_pos b19]) rfl

set_option maxRecDepth 20000 in
theorem zc_PK_isEchoReply {l : Launch} {G : zz_G} {F : Nat → va_E} {v : Nat → Int32} {sz : Int32} {lv : Nat → Int32} {lz : Int32} {su : Nat → Int32} {pm : Nat → Nat} {cn : Int32} {fl : Nat → Nat → Int32} {ru : Nat → Nat → Int32} : zz_M l zy_PK_isEchoReply zb_PK_isEchoReply 1 (some .boolean) 1 21 G [.ref (G.2.2 1)] (zz_K G F v sz lv lz su pm cn fl ru) (some (.int (zs_rep v))) (zz_K G F v sz lv lz su pm cn fl ru) := by
  refine zz_M.of (by decide) (Nat.le_of_ble_eq_true rfl) ?_
  intro X hX h hr
  subst hX
  have h : zz_C X G (zz_A G.2.2) 1 zb_PK_isEchoReply "PortTranslator$Packet" 1 21 0 0 := h
  refine zi_aload_n (pc := 0) h (i := 0) zd_PK_isEchoReply_0 rfl 0 rfl ?_
  refine zi_iconst (pc := 1) h zd_PK_isEchoReply_1 zq_ic_0 ?_
  refine zi_callV (pc := 2) h (st := []) (zc_PK_kindAt (s := 0) (a := 4) ⟨by decide, by decide, by decide⟩) zm_PK_kindAt zw_232 zx_PK zq_k1 rfl ⟨by decide, by decide⟩ zd_PK_isEchoReply_2 (Nat.le_of_ble_eq_true rfl) rfl ?_
  refine zi_iconst (pc := 5) h zd_PK_isEchoReply_5 zq_ic_1 ?_
  refine zi_icmp_ne (pc := 6) h (tgt := 23) zd_PK_isEchoReply_6 rfl ?_ ?_
  · intro b6
    refine zi_iconst (pc := 23) h zd_PK_isEchoReply_23 zq_ic_0 ?_
    exact zi_zreturn (pc := 24) h hr rfl zd_PK_isEchoReply_24 (by rw [zs_rep, if_neg b6]) rfl
  · intro b6
    refine zi_aload_n (pc := 9) h (i := 0) zd_PK_isEchoReply_9 rfl 0 rfl ?_
    refine zi_get (pc := 10) h zx_PK 1 0 zq_k1 rfl zq_j_0_2 zw_29 rfl zd_PK_isEchoReply_10 ?_
    refine zi_bipush (pc := 13) h zd_PK_isEchoReply_13 zq_bi_10 ?_
    refine zi_iald (pc := 15) h 2 zq_k2 rfl zq_in_10_48 zd_PK_isEchoReply_15 ?_
    refine zi_if_ne (pc := 16) h (tgt := 23) zd_PK_isEchoReply_16 rfl ?_ ?_
    · intro b16
      refine zi_iconst (pc := 23) h zd_PK_isEchoReply_23 zq_ic_0 ?_
      exact zi_zreturn (pc := 24) h hr rfl zd_PK_isEchoReply_24 (by rw [zs_rep, if_pos b6, if_neg b16]) rfl
    · intro b16
      refine zi_iconst (pc := 19) h zd_PK_isEchoReply_19 zq_ic_1 ?_
      refine zi_goto (pc := 20) h (tgt := 24) zd_PK_isEchoReply_20 rfl ?_
      exact zi_zreturn (pc := 24) h hr rfl zd_PK_isEchoReply_24 (by rw [zs_rep, if_pos b6, if_pos b16]) rfl

set_option maxRecDepth 20000 in
theorem zc_PK_isError {l : Launch} {G : zz_G} {F : Nat → va_E} {v : Nat → Int32} {sz : Int32} {lv : Nat → Int32} {lz : Int32} {su : Nat → Int32} {pm : Nat → Nat} {cn : Int32} {fl : Nat → Nat → Int32} {ru : Nat → Nat → Int32} : zz_M l zy_PK_isError zb_PK_isError 2 (some .boolean) 1 21 G [.ref (G.2.2 1)] (zz_K G F v sz lv lz su pm cn fl ru) (some (.int (zs_err v))) (zz_K G F v sz lv lz su pm cn fl ru) := by
  refine zz_M.of (by decide) (Nat.le_of_ble_eq_true rfl) ?_
  intro X hX h hr
  subst hX
  have h : zz_C X G (zz_A G.2.2) 2 zb_PK_isError "PortTranslator$Packet" 1 21 0 0 := h
  refine zi_aload_n (pc := 0) h (i := 0) zd_PK_isError_0 rfl 0 rfl ?_
  refine zi_get (pc := 1) h zx_PK 1 0 zq_k1 rfl zq_j_0_2 zw_29 rfl zd_PK_isError_1 ?_
  refine zi_bipush (pc := 4) h zd_PK_isError_4 zq_bi_10 ?_
  refine zi_iald (pc := 6) h 2 zq_k2 rfl zq_in_10_48 zd_PK_isError_6 ?_
  refine zi_bipush (pc := 7) h zd_PK_isError_7 zq_bi_8 ?_
  refine zi_ishr (pc := 9) h zd_PK_isError_9 ?_
  refine zi_istore_n (pc := 10) h (i := 1) (L' := [(1, _), (0, _)]) zd_PK_isError_10 rfl (by decide) rfl ?_
  refine zi_aload_n (pc := 11) h (i := 0) zd_PK_isError_11 rfl 1 rfl ?_
  refine zi_iconst (pc := 12) h zd_PK_isError_12 zq_ic_0 ?_
  refine zi_callV (pc := 13) h (st := []) (zc_PK_kindAt (s := 0) (a := 4) ⟨by decide, by decide, by decide⟩) zm_PK_kindAt zw_232 zx_PK zq_k1 rfl ⟨by decide, by decide⟩ zd_PK_isError_13 (Nat.le_of_ble_eq_true rfl) rfl ?_
  refine zi_iconst (pc := 16) h zd_PK_isError_16 zq_ic_1 ?_
  refine zi_icmp_ne (pc := 17) h (tgt := 35) zd_PK_isError_17 rfl ?_ ?_
  · intro b17
    refine zi_iconst (pc := 35) h zd_PK_isError_35 zq_ic_0 ?_
    exact zi_zreturn (pc := 36) h hr rfl zd_PK_isError_36 (by rw [zs_err, if_neg b17]) rfl
  · intro b17
    refine zi_iload_n (pc := 20) h (i := 1) zd_PK_isError_20 rfl 0 rfl ?_
    refine zi_iconst (pc := 21) h zd_PK_isError_21 zq_ic_3 ?_
    refine zi_icmp_eq (pc := 22) h (tgt := 31) zd_PK_isError_22 rfl ?_ ?_
    · intro b22
      refine zi_iconst (pc := 31) h zd_PK_isError_31 zq_ic_1 ?_
      refine zi_goto (pc := 32) h (tgt := 36) zd_PK_isError_32 rfl ?_
      exact zi_zreturn (pc := 36) h hr rfl zd_PK_isError_36 (by rw [zs_err, if_pos b17, if_pos b22]) rfl
    · intro b22
      refine zi_iload_n (pc := 25) h (i := 1) zd_PK_isError_25 rfl 0 rfl ?_
      refine zi_bipush (pc := 26) h zd_PK_isError_26 zq_bi_11 ?_
      refine zi_icmp_ne (pc := 28) h (tgt := 35) zd_PK_isError_28 rfl ?_ ?_
      · intro b28
        refine zi_iconst (pc := 35) h zd_PK_isError_35 zq_ic_0 ?_
        exact zi_zreturn (pc := 36) h hr rfl zd_PK_isError_36 (by rw [zs_err, if_pos b17, if_neg b22, if_neg b28]) rfl
      · intro b28
        refine zi_iconst (pc := 31) h zd_PK_isError_31 zq_ic_1 ?_
        refine zi_goto (pc := 32) h (tgt := 36) zd_PK_isError_32 rfl ?_
        exact zi_zreturn (pc := 36) h hr rfl zd_PK_isError_36 (by rw [zs_err, if_pos b17, if_neg b22, if_pos b28]) rfl

set_option maxRecDepth 20000 in
theorem zc_PK_address {l : Launch} {G : zz_G} {F : Nat → va_E} {v : Nat → Int32} {sz : Int32} {lv : Nat → Int32} {lz : Int32} {su : Nat → Int32} {pm : Nat → Nat} {cn : Int32} {fl : Nat → Nat → Int32} {ru : Nat → Nat → Int32} {i : Int32} {a b : Nat} (h1 : zz_ix i a 48) (h2 : zz_ix (i + 1) b 48) : zz_M l zy_PK_address zb_PK_address 2 (some .int) 0 0 G [.ref (G.2.2 1), .int i] (zz_K G F v sz lv lz su pm cn fl ru) (some (.int (zs_adr v a b))) (zz_K G F v sz lv lz su pm cn fl ru) := by
  refine zz_M.of (by decide) (Nat.le_of_ble_eq_true rfl) ?_
  intro X hX h hr
  subst hX
  have h : zz_C X G (zz_A G.2.2) 2 zb_PK_address "PortTranslator$Packet" 0 0 0 0 := h
  refine zi_aload_n (pc := 0) h (i := 0) zd_PK_address_0 rfl 0 rfl ?_
  refine zi_get (pc := 1) h zx_PK 1 0 zq_k1 rfl zq_j_0_2 zw_29 rfl zd_PK_address_1 ?_
  refine zi_iload_n (pc := 4) h (i := 1) zd_PK_address_4 rfl 1 rfl ?_
  refine zi_iald (pc := 5) h 2 zq_k2 rfl h1 zd_PK_address_5 ?_
  refine zi_bipush (pc := 6) h zd_PK_address_6 zq_bi_16 ?_
  refine zi_ishl (pc := 8) h zd_PK_address_8 ?_
  refine zi_aload_n (pc := 9) h (i := 0) zd_PK_address_9 rfl 0 rfl ?_
  refine zi_get (pc := 10) h zx_PK 1 0 zq_k1 rfl zq_j_0_2 zw_29 rfl zd_PK_address_10 ?_
  refine zi_iload_n (pc := 13) h (i := 1) zd_PK_address_13 rfl 1 rfl ?_
  refine zi_iconst (pc := 14) h zd_PK_address_14 zq_ic_1 ?_
  refine zi_iadd (pc := 15) h zd_PK_address_15 ?_
  refine zi_iald (pc := 16) h 2 zq_k2 rfl h2 zd_PK_address_16 ?_
  refine zi_ior (pc := 17) h zd_PK_address_17 ?_
  exact zi_ireturn (pc := 18) h hr zd_PK_address_18 rfl rfl

set_option maxRecDepth 20000 in
theorem zc_PK_setAddress {l : Launch} {G : zz_G} {F : Nat → va_E} {v : Nat → Int32} {sz : Int32} {lv : Nat → Int32} {lz : Int32} {su : Nat → Int32} {pm : Nat → Nat} {cn : Int32} {fl : Nat → Nat → Int32} {ru : Nat → Nat → Int32} {i x : Int32} {a b : Nat} (h1 : zz_ix i a 48) (h2 : zz_ix (i + 1) b 48) : zz_M l zy_PK_setAddress zb_PK_setAddress 3 none 0 0 G [.ref (G.2.2 1), .int i, .int x] (zz_K G F v sz lv lz su pm cn fl ru) none (zz_K G F (zs_set v a b x) sz lv lz su pm cn fl ru) := by
  refine zz_M.of (by decide) (Nat.le_of_ble_eq_true rfl) ?_
  intro X hX h hr
  subst hX
  have h : zz_C X G (zz_A G.2.2) 3 zb_PK_setAddress "PortTranslator$Packet" 0 0 0 0 := h
  refine zi_aload_n (pc := 0) h (i := 0) zd_PK_setAddress_0 rfl 0 rfl ?_
  refine zi_get (pc := 1) h zx_PK 1 0 zq_k1 rfl zq_j_0_2 zw_29 rfl zd_PK_setAddress_1 ?_
  refine zi_iload_n (pc := 4) h (i := 1) zd_PK_setAddress_4 rfl 1 rfl ?_
  refine zi_iload_n (pc := 5) h (i := 2) zd_PK_setAddress_5 rfl 2 rfl ?_
  refine zi_bipush (pc := 6) h zd_PK_setAddress_6 zq_bi_16 ?_
  refine zi_iushr (pc := 8) h zd_PK_setAddress_8 rfl ?_
  refine zi_iast (pc := 9) h 2 zq_k2 rfl h1 zd_PK_setAddress_9 zk_u_v ?_
  refine zi_aload_n (pc := 10) h (i := 0) zd_PK_setAddress_10 rfl 0 rfl ?_
  refine zi_get (pc := 11) h zx_PK 1 0 zq_k1 rfl zq_j_0_2 zw_29 rfl zd_PK_setAddress_11 ?_
  refine zi_iload_n (pc := 14) h (i := 1) zd_PK_setAddress_14 rfl 1 rfl ?_
  refine zi_iconst (pc := 15) h zd_PK_setAddress_15 zq_ic_1 ?_
  refine zi_iadd (pc := 16) h zd_PK_setAddress_16 ?_
  refine zi_iload_n (pc := 17) h (i := 2) zd_PK_setAddress_17 rfl 2 rfl ?_
  refine zi_ldc (pc := 18) h zw_231 zd_PK_setAddress_18 ?_
  refine zi_iand (pc := 20) h zd_PK_setAddress_20 ?_
  refine zi_iast (pc := 21) h 2 zq_k2 rfl h2 zd_PK_setAddress_21 zk_u_v ?_
  exact zi_vreturn (pc := 22) h hr zd_PK_setAddress_22 rfl rfl

set_option maxRecDepth 20000 in
theorem zc_PK_lowerTime {l : Launch} {G : zz_G} {F : Nat → va_E} {v : Nat → Int32} {sz : Int32} {lv : Nat → Int32} {lz : Int32} {su : Nat → Int32} {pm : Nat → Nat} {cn : Int32} {fl : Nat → Nat → Int32} {ru : Nat → Nat → Int32} : zz_M l zy_PK_lowerTime zb_PK_lowerTime 1 none 0 0 G [.ref (G.2.2 1)] (zz_K G F v sz lv lz su pm cn fl ru) none (zz_K G F (upd v 4 (v 4 - 256)) sz lv lz su pm cn fl ru) := by
  refine zz_M.of (by decide) (Nat.le_of_ble_eq_true rfl) ?_
  intro X hX h hr
  subst hX
  have h : zz_C X G (zz_A G.2.2) 1 zb_PK_lowerTime "PortTranslator$Packet" 0 0 0 0 := h
  refine zi_aload_n (pc := 0) h (i := 0) zd_PK_lowerTime_0 rfl 0 rfl ?_
  refine zi_get (pc := 1) h zx_PK 1 0 zq_k1 rfl zq_j_0_2 zw_29 rfl zd_PK_lowerTime_1 ?_
  refine zi_iconst (pc := 4) h zd_PK_lowerTime_4 zq_ic_4 ?_
  refine zi_dup2 (pc := 5) h zd_PK_lowerTime_5 rfl rfl ?_
  refine zi_iald (pc := 6) h 2 zq_k2 rfl zq_in_4_48 zd_PK_lowerTime_6 ?_
  refine zi_sipush (pc := 7) h zd_PK_lowerTime_7 zq_si_256 ?_
  refine zi_isub (pc := 10) h zd_PK_lowerTime_10 ?_
  refine zi_iast (pc := 11) h 2 zq_k2 rfl zq_in_4_48 zd_PK_lowerTime_11 zk_u_v ?_
  exact zi_vreturn (pc := 12) h hr zd_PK_lowerTime_12 rfl rfl

set_option maxRecDepth 20000 in
theorem zc_PK_empty {l : Launch} {G : zz_G} {F : Nat → va_E} {v : Nat → Int32} {sz : Int32} {lv : Nat → Int32} {lz : Int32} {su : Nat → Int32} {pm : Nat → Nat} {cn : Int32} {fl : Nat → Nat → Int32} {ru : Nat → Nat → Int32} : zz_M l zy_PK_empty zb_PK_empty 1 none 0 0 G [.ref (G.2.2 1)] (zz_K G F v sz lv lz su pm cn fl ru) none (zz_K G F v 0 lv lz su pm cn fl ru) := by
  refine zz_M.of (by decide) (Nat.le_of_ble_eq_true rfl) ?_
  intro X hX h hr
  subst hX
  have h : zz_C X G (zz_A G.2.2) 1 zb_PK_empty "PortTranslator$Packet" 0 0 0 0 := h
  refine zi_aload_n (pc := 0) h (i := 0) zd_PK_empty_0 rfl 0 rfl ?_
  refine zi_iconst (pc := 1) h zd_PK_empty_1 zq_ic_0 ?_
  refine zi_put (pc := 2) h zx_PK 1 1 zq_k1 rfl zq_j_1_2 zw_32 rfl rfl rfl (Nat.le_of_ble_eq_true rfl) zd_PK_empty_2 zk_u_sz ?_
  exact zi_vreturn (pc := 5) h hr zd_PK_empty_5 rfl rfl

set_option maxRecDepth 20000 in
theorem zc_PK_hasRoomFor {l : Launch} {G : zz_G} {F : Nat → va_E} {v : Nat → Int32} {sz : Int32} {lv : Nat → Int32} {lz : Int32} {su : Nat → Int32} {pm : Nat → Nat} {cn : Int32} {fl : Nat → Nat → Int32} {ru : Nat → Nat → Int32} {k : Int32} : zz_M l zy_PK_hasRoomFor zb_PK_hasRoomFor 2 (some .boolean) 0 0 G [.ref (G.2.2 1), .int k] (zz_K G F v sz lv lz su pm cn fl ru) (some (.int (if 48 - sz < k then 0 else 1))) (zz_K G F v sz lv lz su pm cn fl ru) := by
  refine zz_M.of (by decide) (Nat.le_of_ble_eq_true rfl) ?_
  intro X hX h hr
  subst hX
  have h : zz_C X G (zz_A G.2.2) 2 zb_PK_hasRoomFor "PortTranslator$Packet" 0 0 0 0 := h
  refine zi_iload_n (pc := 0) h (i := 1) zd_PK_hasRoomFor_0 rfl 1 rfl ?_
  refine zi_bipush (pc := 1) h zd_PK_hasRoomFor_1 zq_bi_48 ?_
  refine zi_aload_n (pc := 3) h (i := 0) zd_PK_hasRoomFor_3 rfl 0 rfl ?_
  refine zi_get (pc := 4) h zx_PK 1 1 zq_k1 rfl zq_j_1_2 zw_32 rfl zd_PK_hasRoomFor_4 ?_
  refine zi_isub (pc := 7) h zd_PK_hasRoomFor_7 ?_
  refine zi_icmp_gt (pc := 8) h (tgt := 15) zd_PK_hasRoomFor_8 rfl ?_ ?_
  · intro b8
    refine zi_iconst (pc := 15) h zd_PK_hasRoomFor_15 zq_ic_0 ?_
    exact zi_zreturn (pc := 16) h hr rfl zd_PK_hasRoomFor_16 (by rw [if_pos b8]) rfl
  · intro b8
    refine zi_iconst (pc := 11) h zd_PK_hasRoomFor_11 zq_ic_1 ?_
    refine zi_goto (pc := 12) h (tgt := 16) zd_PK_hasRoomFor_12 rfl ?_
    exact zi_zreturn (pc := 16) h hr rfl zd_PK_hasRoomFor_16 (by rw [if_neg b8]) rfl

set_option maxRecDepth 20000 in
theorem zc_PK_append {l : Launch} {G : zz_G} {F : Nat → va_E} {v : Nat → Int32} {lv : Nat → Int32} {lz : Int32} {su : Nat → Int32} {pm : Nat → Nat} {cn : Int32} {fl : Nat → Nat → Int32} {ru : Nat → Nat → Int32} {n : Nat} {x : Int32} (hn : n < 48) : zz_M l zy_PK_append zb_PK_append 2 none 0 0 G [.ref (G.2.2 1), .int x] (zz_K G F v (nI n) lv lz su pm cn fl ru) none (zz_K G F (upd v n x) (nI (n + 1)) lv lz su pm cn fl ru) := by
  refine zz_M.of (by decide) (Nat.le_of_ble_eq_true rfl) ?_
  intro X hX h hr
  subst hX
  have h : zz_C X G (zz_A G.2.2) 2 zb_PK_append "PortTranslator$Packet" 0 0 0 0 := h
  refine zi_aload_n (pc := 0) h (i := 0) zd_PK_append_0 rfl 0 rfl ?_
  refine zi_get (pc := 1) h zx_PK 1 1 zq_k1 rfl zq_j_1_2 zw_32 rfl zd_PK_append_1 ?_
  refine zi_bipush (pc := 4) h zd_PK_append_4 zq_bi_48 ?_
  refine zi_icmp_ge_f (pc := 6) h (tgt := 29) zd_PK_append_6 rfl (nI_ge hn (by decide)) ?_
  refine zi_aload_n (pc := 9) h (i := 0) zd_PK_append_9 rfl 0 rfl ?_
  refine zi_get (pc := 10) h zx_PK 1 0 zq_k1 rfl zq_j_0_2 zw_29 rfl zd_PK_append_10 ?_
  refine zi_aload_n (pc := 13) h (i := 0) zd_PK_append_13 rfl 0 rfl ?_
  refine zi_get (pc := 14) h zx_PK 1 1 zq_k1 rfl zq_j_1_2 zw_32 rfl zd_PK_append_14 ?_
  refine zi_iload_n (pc := 17) h (i := 1) zd_PK_append_17 rfl 1 rfl ?_
  refine zi_iast (pc := 18) h 2 zq_k2 rfl (zz_ixN hn) zd_PK_append_18 zk_u_v ?_
  refine zi_aload_n (pc := 19) h (i := 0) zd_PK_append_19 rfl 0 rfl ?_
  refine zi_dup (pc := 20) h zd_PK_append_20 rfl ?_
  refine zi_get (pc := 21) h zx_PK 1 1 zq_k1 rfl zq_j_1_2 zw_32 rfl zd_PK_append_21 ?_
  refine zi_iconst (pc := 24) h zd_PK_append_24 zq_ic_1 ?_
  refine zi_iadd (pc := 25) h zd_PK_append_25 ?_
  refine zi_topv (nI (n + 1)) (nI_1 n) ?_
  refine zi_put (pc := 26) h zx_PK 1 1 zq_k1 rfl zq_j_1_2 zw_32 rfl rfl rfl (Nat.le_of_ble_eq_true rfl) zd_PK_append_26 zk_u_sz ?_
  exact zi_vreturn (pc := 29) h hr zd_PK_append_29 rfl rfl

set_option maxRecDepth 20000 in
theorem zl_PK_total {X : zz_X} {r : Option Value} {F' : Nat → va_E} {G : zz_G} {F : Nat → va_E} {v : Nat → Int32} {sz : Int32} {lv : Nat → Int32} {lz : Int32} {su : Nat → Int32} {pm : Nat → Nat} {cn : Int32} {fl : Nat → Nat → Int32} {ru : Nat → Nat → Int32} {a b : Nat} (hb : b ≤ 48) (h : zz_C X G (zz_A G.2.2) 5 zb_PK_total "PortTranslator$Packet" 0 0 0 0) (hr : X.2.2.2.2.2.2.2.2.1.sig.returnType = (some .int)) : ∀ (n i : Nat) (acc : Int32), i + n = b → r = some (.int (zs_tot v i n acc)) → (zz_K G F v sz lv lz su pm cn fl ru) = F' → zz_W X G (zz_A G.2.2) 5 0 0 (zz_E X G r F') (zz_K G F v sz lv lz su pm cn fl ru) 5 [(4, .int (nI i)), (3, .int acc), (0, .ref (G.2.2 1)), (1, .int (nI a)), (2, .int (nI b))] [] := by
  intro n
  induction n with
  | zero =>
    intro i acc hi he hF
    refine zi_iload (pc := 5) h (i := 4) zd_PK_total_5 0 rfl ?_
    refine zi_iload_n (pc := 7) h (i := 2) zd_PK_total_7 rfl 4 rfl ?_
    refine zi_icmp_ge_t (pc := 8) h (tgt := 27) zd_PK_total_8 rfl (nI_le (by omega) (by omega)) ?_
    refine zi_iload_n (pc := 27) h (i := 3) zd_PK_total_27 rfl 1 rfl ?_
    exact zi_ireturn (pc := 28) h hr zd_PK_total_28 he.symm hF
  | succ n ih =>
    intro i acc hi he hF
    refine zi_iload (pc := 5) h (i := 4) zd_PK_total_5 0 rfl ?_
    refine zi_iload_n (pc := 7) h (i := 2) zd_PK_total_7 rfl 4 rfl ?_
    refine zi_icmp_ge_f (pc := 8) h (tgt := 27) zd_PK_total_8 rfl (nI_ge (by omega) (by omega)) ?_
    refine zi_iload_n (pc := 11) h (i := 3) zd_PK_total_11 rfl 1 rfl ?_
    refine zi_aload_n (pc := 12) h (i := 0) zd_PK_total_12 rfl 2 rfl ?_
    refine zi_get (pc := 13) h zx_PK 1 0 zq_k1 rfl zq_j_0_2 zw_29 rfl zd_PK_total_13 ?_
    refine zi_iload (pc := 16) h (i := 4) zd_PK_total_16 0 rfl ?_
    refine zi_iald (pc := 18) h 2 zq_k2 rfl (zz_ixN (by omega)) zd_PK_total_18 ?_
    refine zi_iadd (pc := 19) h zd_PK_total_19 ?_
    refine zi_istore_n (pc := 20) h (i := 3) (L' := [(3, _), (4, _), (0, _), (1, _), (2, _)]) zd_PK_total_20 rfl (by decide) rfl ?_
    refine zi_iinc (pc := 21) h (i := 4) (L' := [(4, _), (3, _), (0, _), (1, _), (2, _)]) zd_PK_total_21 1 rfl (zq_incN i) (by decide) rfl ?_
    refine zi_goto (pc := 24) h (tgt := 5) zd_PK_total_24 rfl ?_
    exact ih (i + 1) _ (by omega) he hF

set_option maxRecDepth 20000 in
theorem zc_PK_total {l : Launch} {G : zz_G} {F : Nat → va_E} {v : Nat → Int32} {sz : Int32} {lv : Nat → Int32} {lz : Int32} {su : Nat → Int32} {pm : Nat → Nat} {cn : Int32} {fl : Nat → Nat → Int32} {ru : Nat → Nat → Int32} {a b : Nat} (ha : a ≤ b) (hb : b ≤ 48) : zz_M l zy_PK_total zb_PK_total 5 (some .int) 0 0 G [.ref (G.2.2 1), .int (nI a), .int (nI b)] (zz_K G F v sz lv lz su pm cn fl ru) (some (.int (zs_tot v a (b - a) 0))) (zz_K G F v sz lv lz su pm cn fl ru) := by
  refine zz_M.of (by decide) (Nat.le_of_ble_eq_true rfl) ?_
  intro X hX h hr
  subst hX
  have h : zz_C X G (zz_A G.2.2) 5 zb_PK_total "PortTranslator$Packet" 0 0 0 0 := h
  refine zi_iconst (pc := 0) h zd_PK_total_0 zq_ic_0 ?_
  refine zi_istore_n (pc := 1) h (i := 3) (L' := [(3, _), (0, _), (1, _), (2, _)]) zd_PK_total_1 rfl (by decide) rfl ?_
  refine zi_iload_n (pc := 2) h (i := 1) zd_PK_total_2 rfl 2 rfl ?_
  refine zi_istore (pc := 3) h (i := 4) (L' := [(4, _), (3, _), (0, _), (1, _), (2, _)]) zd_PK_total_3 (by decide) rfl ?_
  exact zl_PK_total hb h hr (b - a) a 0 (by omega) rfl rfl

set_option maxRecDepth 20000 in
theorem zc_PK_bodyTotal {l : Launch} {G : zz_G} {F : Nat → va_E} {v : Nat → Int32} {lv : Nat → Int32} {lz : Int32} {su : Nat → Int32} {pm : Nat → Nat} {cn : Int32} {fl : Nat → Nat → Int32} {ru : Nat → Nat → Int32} {n : Nat} (h10 : 10 ≤ n) (hn : n ≤ 48) : zz_M l zy_PK_bodyTotal zb_PK_bodyTotal 2 (some .int) 1 24 G [.ref (G.2.2 1)] (zz_K G F v (nI n) lv lz su pm cn fl ru) (some (.int (zs_bt v n))) (zz_K G F v (nI n) lv lz su pm cn fl ru) := by
  refine zz_M.of (by decide) (Nat.le_of_ble_eq_true rfl) ?_
  intro X hX h hr
  subst hX
  have h : zz_C X G (zz_A G.2.2) 2 zb_PK_bodyTotal "PortTranslator$Packet" 1 24 0 0 := h
  refine zi_aload_n (pc := 0) h (i := 0) zd_PK_bodyTotal_0 rfl 0 rfl ?_
  refine zi_iconst (pc := 1) h zd_PK_bodyTotal_1 zq_ic_0 ?_
  refine zi_callV (pc := 2) h (st := []) (zc_PK_kindAt (s := 0) (a := 4) ⟨by decide, by decide, by decide⟩) zm_PK_kindAt zw_232 zx_PK zq_k1 rfl ⟨by decide, by decide⟩ zd_PK_bodyTotal_2 (Nat.le_of_ble_eq_true rfl) rfl ?_
  refine zi_istore_n (pc := 5) h (i := 1) (L' := [(1, _), (0, _)]) zd_PK_bodyTotal_5 rfl (by decide) rfl ?_
  refine zi_iload_n (pc := 6) h (i := 1) zd_PK_bodyTotal_6 rfl 0 rfl ?_
  refine zi_iconst (pc := 7) h zd_PK_bodyTotal_7 zq_ic_1 ?_
  refine zi_icmp_ne (pc := 8) h (tgt := 22) zd_PK_bodyTotal_8 rfl ?_ ?_
  · intro b8
    refine zi_aload_n (pc := 22) h (i := 0) zd_PK_bodyTotal_22 rfl 1 rfl ?_
    refine zi_bipush (pc := 23) h zd_PK_bodyTotal_23 zq_bi_6 ?_
    refine zi_aload_n (pc := 25) h (i := 0) zd_PK_bodyTotal_25 rfl 1 rfl ?_
    refine zi_get (pc := 26) h zx_PK 1 1 zq_k1 rfl zq_j_1_2 zw_32 rfl zd_PK_bodyTotal_26 ?_
    refine zi_callV (pc := 29) h (st := []) (zc_PK_total (a := 6) (b := n) (by omega) hn) zm_PK_total zw_224 zx_PK zq_k1 rfl ⟨by decide, by decide⟩ zd_PK_bodyTotal_29 (Nat.le_of_ble_eq_true rfl) rfl ?_
    refine zi_iload_n (pc := 32) h (i := 1) zd_PK_bodyTotal_32 rfl 0 rfl ?_
    refine zi_iadd (pc := 33) h zd_PK_bodyTotal_33 ?_
    refine zi_iconst (pc := 34) h zd_PK_bodyTotal_34 zq_ic_2 ?_
    refine zi_aload_n (pc := 35) h (i := 0) zd_PK_bodyTotal_35 rfl 1 rfl ?_
    refine zi_get (pc := 36) h zx_PK 1 1 zq_k1 rfl zq_j_1_2 zw_32 rfl zd_PK_bodyTotal_36 ?_
    refine zi_bipush (pc := 39) h zd_PK_bodyTotal_39 zq_bi_10 ?_
    refine zi_isub (pc := 41) h zd_PK_bodyTotal_41 ?_
    refine zi_imul (pc := 42) h zd_PK_bodyTotal_42 ?_
    refine zi_iadd (pc := 43) h zd_PK_bodyTotal_43 ?_
    exact zi_ireturn (pc := 44) h hr zd_PK_bodyTotal_44 (by rw [zs_bt, if_neg b8]) rfl
  · intro b8
    refine zi_aload_n (pc := 11) h (i := 0) zd_PK_bodyTotal_11 rfl 1 rfl ?_
    refine zi_bipush (pc := 12) h zd_PK_bodyTotal_12 zq_bi_10 ?_
    refine zi_aload_n (pc := 14) h (i := 0) zd_PK_bodyTotal_14 rfl 1 rfl ?_
    refine zi_get (pc := 15) h zx_PK 1 1 zq_k1 rfl zq_j_1_2 zw_32 rfl zd_PK_bodyTotal_15 ?_
    refine zi_callV (pc := 18) h (st := []) (zc_PK_total (a := 10) (b := n) h10 hn) zm_PK_total zw_224 zx_PK zq_k1 rfl ⟨by decide, by decide⟩ zd_PK_bodyTotal_18 (Nat.le_of_ble_eq_true rfl) rfl ?_
    exact zi_ireturn (pc := 21) h hr zd_PK_bodyTotal_21 (by rw [zs_bt, if_pos b8]) rfl

set_option maxRecDepth 20000 in
theorem zc_PK_bodyAgrees {l : Launch} {G : zz_G} {F : Nat → va_E} {v : Nat → Int32} {lv : Nat → Int32} {lz : Int32} {su : Nat → Int32} {pm : Nat → Nat} {cn : Int32} {fl : Nat → Nat → Int32} {ru : Nat → Nat → Int32} {n : Nat} (h10 : 10 ≤ n) (hn : n ≤ 48) : zz_M l zy_PK_bodyAgrees zb_PK_bodyAgrees 1 (some .boolean) 2 45 G [.ref (G.2.2 1)] (zz_K G F v (nI n) lv lz su pm cn fl ru) (some (.int (zs_agr v n))) (zz_K G F v (nI n) lv lz su pm cn fl ru) := by
  refine zz_M.of (by decide) (Nat.le_of_ble_eq_true rfl) ?_
  intro X hX h hr
  subst hX
  have h : zz_C X G (zz_A G.2.2) 1 zb_PK_bodyAgrees "PortTranslator$Packet" 2 45 0 0 := h
  refine zi_aload_n (pc := 0) h (i := 0) zd_PK_bodyAgrees_0 rfl 0 rfl ?_
  refine zi_callV (pc := 1) h (st := []) (zc_PK_bodyTotal h10 hn) zm_PK_bodyTotal zw_240 zx_PK zq_k1 rfl ⟨by decide, by decide⟩ zd_PK_bodyAgrees_1 (Nat.le_of_ble_eq_true rfl) rfl ?_
  refine zi_callS (pc := 4) h (st := []) (zc_PK_sum) zm_PK_sum zw_228 ⟨by decide, by decide⟩ zd_PK_bodyAgrees_4 (Nat.le_of_ble_eq_true rfl) rfl ?_
  refine zi_ldc (pc := 7) h zw_231 zd_PK_bodyAgrees_7 ?_
  refine zi_icmp_ne (pc := 9) h (tgt := 16) zd_PK_bodyAgrees_9 rfl ?_ ?_
  · intro b9
    refine zi_iconst (pc := 16) h zd_PK_bodyAgrees_16 zq_ic_0 ?_
    exact zi_zreturn (pc := 17) h hr rfl zd_PK_bodyAgrees_17 (by rw [zs_agr, if_neg b9]) rfl
  · intro b9
    refine zi_iconst (pc := 12) h zd_PK_bodyAgrees_12 zq_ic_1 ?_
    refine zi_goto (pc := 13) h (tgt := 17) zd_PK_bodyAgrees_13 rfl ?_
    exact zi_zreturn (pc := 17) h hr rfl zd_PK_bodyAgrees_17 (by rw [zs_agr, if_pos b9]) rfl

set_option maxRecDepth 20000 in
theorem zc_PK_hasOtherPacket {l : Launch} {G : zz_G} {F : Nat → va_E} {v : Nat → Int32} {lv : Nat → Int32} {lz : Int32} {su : Nat → Int32} {pm : Nat → Nat} {cn : Int32} {fl : Nat → Nat → Int32} {ru : Nat → Nat → Int32} {n : Nat} : zz_M l zy_PK_hasOtherPacket zb_PK_hasOtherPacket 1 (some .boolean) 1 21 G [.ref (G.2.2 1)] (zz_K G F v (nI n) lv lz su pm cn fl ru) (some (.int (zs_oth v n))) (zz_K G F v (nI n) lv lz su pm cn fl ru) := by
  refine zz_M.of (by decide) (Nat.le_of_ble_eq_true rfl) ?_
  intro X hX h hr
  subst hX
  have h : zz_C X G (zz_A G.2.2) 1 zb_PK_hasOtherPacket "PortTranslator$Packet" 1 21 0 0 := h
  refine zi_aload_n (pc := 0) h (i := 0) zd_PK_hasOtherPacket_0 rfl 0 rfl ?_
  refine zi_get (pc := 1) h zx_PK 1 1 zq_k1 rfl zq_j_1_2 zw_32 rfl zd_PK_hasOtherPacket_1 ?_
  refine zi_bipush (pc := 4) h zd_PK_hasOtherPacket_4 zq_bi_28 ?_
  refine zi_icmp_lt (pc := 6) h (tgt := 40) zd_PK_hasOtherPacket_6 rfl ?_ ?_
  · intro b6
    refine zi_iconst (pc := 40) h zd_PK_hasOtherPacket_40 zq_ic_0 ?_
    exact zi_zreturn (pc := 41) h hr rfl zd_PK_hasOtherPacket_41 (by rw [zs_oth, if_pos b6]) rfl
  · intro b6
    refine zi_aload_n (pc := 9) h (i := 0) zd_PK_hasOtherPacket_9 rfl 0 rfl ?_
    refine zi_get (pc := 10) h zx_PK 1 0 zq_k1 rfl zq_j_0_2 zw_29 rfl zd_PK_hasOtherPacket_10 ?_
    refine zi_bipush (pc := 13) h zd_PK_hasOtherPacket_13 zq_bi_14 ?_
    refine zi_iald (pc := 15) h 2 zq_k2 rfl zq_in_14_48 zd_PK_hasOtherPacket_15 ?_
    refine zi_bipush (pc := 16) h zd_PK_hasOtherPacket_16 zq_bi_8 ?_
    refine zi_ishr (pc := 18) h zd_PK_hasOtherPacket_18 ?_
    refine zi_bipush (pc := 19) h zd_PK_hasOtherPacket_19 zq_bi_69 ?_
    refine zi_icmp_ne (pc := 21) h (tgt := 40) zd_PK_hasOtherPacket_21 rfl ?_ ?_
    · intro b21
      refine zi_iconst (pc := 40) h zd_PK_hasOtherPacket_40 zq_ic_0 ?_
      exact zi_zreturn (pc := 41) h hr rfl zd_PK_hasOtherPacket_41 (by rw [zs_oth, if_neg b6, if_neg b21]) rfl
    · intro b21
      refine zi_aload_n (pc := 24) h (i := 0) zd_PK_hasOtherPacket_24 rfl 0 rfl ?_
      refine zi_bipush (pc := 25) h zd_PK_hasOtherPacket_25 zq_bi_14 ?_
      refine zi_callV (pc := 27) h (st := []) (zc_PK_kindAt (s := 14) (a := 18) ⟨by decide, by decide, by decide⟩) zm_PK_kindAt zw_232 zx_PK zq_k1 rfl ⟨by decide, by decide⟩ zd_PK_hasOtherPacket_27 (Nat.le_of_ble_eq_true rfl) rfl ?_
      refine zi_callSN (pc := 30) h (st := []) (zc_PT_isKind) zm_PT_isKind zj_260 ⟨by decide, by decide⟩ zd_PK_hasOtherPacket_30 (Nat.le_of_ble_eq_true rfl) rfl ?_
      refine zi_if_eq (pc := 33) h (tgt := 40) zd_PK_hasOtherPacket_33 rfl ?_ ?_
      · intro b33
        refine zi_iconst (pc := 40) h zd_PK_hasOtherPacket_40 zq_ic_0 ?_
        exact zi_zreturn (pc := 41) h hr rfl zd_PK_hasOtherPacket_41 (by rw [zs_oth, if_neg b6, if_pos b21, if_pos b33]) rfl
      · intro b33
        refine zi_iconst (pc := 36) h zd_PK_hasOtherPacket_36 zq_ic_1 ?_
        refine zi_goto (pc := 37) h (tgt := 41) zd_PK_hasOtherPacket_37 rfl ?_
        exact zi_zreturn (pc := 41) h hr rfl zd_PK_hasOtherPacket_41 (by rw [zs_oth, if_neg b6, if_pos b21, if_neg b33]) rfl

set_option maxRecDepth 20000 in
theorem zc_PK_adjust {l : Launch} {G : zz_G} {F : Nat → va_E} {v : Nat → Int32} {sz : Int32} {lv : Nat → Int32} {lz : Int32} {su : Nat → Int32} {pm : Nat → Nat} {cn : Int32} {fl : Nat → Nat → Int32} {ru : Nat → Nat → Int32} {i c : Int32} {a : Nat} (h1 : zz_ix i a 48) : zz_M l zy_PK_adjust zb_PK_adjust 3 none 1 21 G [.ref (G.2.2 1), .int i, .int c] (zz_K G F v sz lv lz su pm cn fl ru) none (zz_K G F (zs_adj v a c) sz lv lz su pm cn fl ru) := by
  refine zz_M.of (by decide) (Nat.le_of_ble_eq_true rfl) ?_
  intro X hX h hr
  subst hX
  have h : zz_C X G (zz_A G.2.2) 3 zb_PK_adjust "PortTranslator$Packet" 1 21 0 0 := h
  refine zi_aload_n (pc := 0) h (i := 0) zd_PK_adjust_0 rfl 0 rfl ?_
  refine zi_get (pc := 1) h zx_PK 1 0 zq_k1 rfl zq_j_0_2 zw_29 rfl zd_PK_adjust_1 ?_
  refine zi_iload_n (pc := 4) h (i := 1) zd_PK_adjust_4 rfl 1 rfl ?_
  refine zi_ldc (pc := 5) h zw_231 zd_PK_adjust_5 ?_
  refine zi_ldc (pc := 7) h zw_231 zd_PK_adjust_7 ?_
  refine zi_aload_n (pc := 9) h (i := 0) zd_PK_adjust_9 rfl 0 rfl ?_
  refine zi_get (pc := 10) h zx_PK 1 0 zq_k1 rfl zq_j_0_2 zw_29 rfl zd_PK_adjust_10 ?_
  refine zi_iload_n (pc := 13) h (i := 1) zd_PK_adjust_13 rfl 1 rfl ?_
  refine zi_iald (pc := 14) h 2 zq_k2 rfl h1 zd_PK_adjust_14 ?_
  refine zi_isub (pc := 15) h zd_PK_adjust_15 ?_
  refine zi_iload_n (pc := 16) h (i := 2) zd_PK_adjust_16 rfl 2 rfl ?_
  refine zi_iadd (pc := 17) h zd_PK_adjust_17 ?_
  refine zi_callS (pc := 18) h (st := [_, _, _]) (zc_PK_sum) zm_PK_sum zw_228 ⟨by decide, by decide⟩ zd_PK_adjust_18 (Nat.le_of_ble_eq_true rfl) rfl ?_
  refine zi_isub (pc := 21) h zd_PK_adjust_21 ?_
  refine zi_iast (pc := 22) h 2 zq_k2 rfl h1 zd_PK_adjust_22 zk_u_v ?_
  exact zi_vreturn (pc := 23) h hr zd_PK_adjust_23 rfl rfl

set_option maxRecDepth 20000 in
theorem zc_PK_writeBodyChecksum {l : Launch} {G : zz_G} {F : Nat → va_E} {v : Nat → Int32} {lv : Nat → Int32} {lz : Int32} {su : Nat → Int32} {pm : Nat → Nat} {cn : Int32} {fl : Nat → Nat → Int32} {ru : Nat → Nat → Int32} {n : Nat} {i : Int32} {a : Nat} (h1 : zz_ix i a 48) (h10 : 10 ≤ n) (hn : n ≤ 48) : zz_M l zy_PK_writeBodyChecksum zb_PK_writeBodyChecksum 2 none 2 45 G [.ref (G.2.2 1), .int i] (zz_K G F v (nI n) lv lz su pm cn fl ru) none (zz_K G F (zs_wbc v n a) (nI n) lv lz su pm cn fl ru) := by
  refine zz_M.of (by decide) (Nat.le_of_ble_eq_true rfl) ?_
  intro X hX h hr
  subst hX
  have h : zz_C X G (zz_A G.2.2) 2 zb_PK_writeBodyChecksum "PortTranslator$Packet" 2 45 0 0 := h
  refine zi_aload_n (pc := 0) h (i := 0) zd_PK_writeBodyChecksum_0 rfl 0 rfl ?_
  refine zi_get (pc := 1) h zx_PK 1 0 zq_k1 rfl zq_j_0_2 zw_29 rfl zd_PK_writeBodyChecksum_1 ?_
  refine zi_iload_n (pc := 4) h (i := 1) zd_PK_writeBodyChecksum_4 rfl 1 rfl ?_
  refine zi_iconst (pc := 5) h zd_PK_writeBodyChecksum_5 zq_ic_0 ?_
  refine zi_iast (pc := 6) h 2 zq_k2 rfl h1 zd_PK_writeBodyChecksum_6 zk_u_v ?_
  refine zi_aload_n (pc := 7) h (i := 0) zd_PK_writeBodyChecksum_7 rfl 0 rfl ?_
  refine zi_get (pc := 8) h zx_PK 1 0 zq_k1 rfl zq_j_0_2 zw_29 rfl zd_PK_writeBodyChecksum_8 ?_
  refine zi_iload_n (pc := 11) h (i := 1) zd_PK_writeBodyChecksum_11 rfl 1 rfl ?_
  refine zi_ldc (pc := 12) h zw_231 zd_PK_writeBodyChecksum_12 ?_
  refine zi_aload_n (pc := 14) h (i := 0) zd_PK_writeBodyChecksum_14 rfl 0 rfl ?_
  refine zi_callV (pc := 15) h (st := [_, _, _]) (zc_PK_bodyTotal h10 hn) zm_PK_bodyTotal zw_240 zx_PK zq_k1 rfl ⟨by decide, by decide⟩ zd_PK_writeBodyChecksum_15 (Nat.le_of_ble_eq_true rfl) rfl ?_
  refine zi_callS (pc := 18) h (st := [_, _, _]) (zc_PK_sum) zm_PK_sum zw_228 ⟨by decide, by decide⟩ zd_PK_writeBodyChecksum_18 (Nat.le_of_ble_eq_true rfl) rfl ?_
  refine zi_isub (pc := 21) h zd_PK_writeBodyChecksum_21 ?_
  refine zi_iast (pc := 22) h 2 zq_k2 rfl h1 zd_PK_writeBodyChecksum_22 zk_u_v ?_
  exact zi_vreturn (pc := 23) h hr zd_PK_writeBodyChecksum_23 rfl rfl

set_option maxRecDepth 20000 in
theorem zc_PK_isWellFormed {l : Launch} {G : zz_G} {F : Nat → va_E} {v : Nat → Int32} {lv : Nat → Int32} {lz : Int32} {su : Nat → Int32} {pm : Nat → Nat} {cn : Int32} {fl : Nat → Nat → Int32} {ru : Nat → Nat → Int32} {n : Nat} (hn : n ≤ 48) : zz_M l zy_PK_isWellFormed zb_PK_isWellFormed 1 (some .boolean) 3 65 G [.ref (G.2.2 1)] (zz_K G F v (nI n) lv lz su pm cn fl ru) (some (.int (zs_wf v n))) (zz_K G F v (nI n) lv lz su pm cn fl ru) := by
  refine zz_M.of (by decide) (Nat.le_of_ble_eq_true rfl) ?_
  intro X hX h hr
  subst hX
  have h : zz_C X G (zz_A G.2.2) 1 zb_PK_isWellFormed "PortTranslator$Packet" 3 65 0 0 := h
  refine zi_aload_n (pc := 0) h (i := 0) zd_PK_isWellFormed_0 rfl 0 rfl ?_
  refine zi_get (pc := 1) h zx_PK 1 1 zq_k1 rfl zq_j_1_2 zw_32 rfl zd_PK_isWellFormed_1 ?_
  refine zi_bipush (pc := 4) h zd_PK_isWellFormed_4 zq_bi_10 ?_
  refine zi_icmp_lt (pc := 6) h (tgt := 38) zd_PK_isWellFormed_6 rfl ?_ ?_
  · intro b6
    refine zi_iconst (pc := 38) h zd_PK_isWellFormed_38 zq_ic_0 ?_
    exact zi_zreturn (pc := 39) h hr rfl zd_PK_isWellFormed_39 (by rw [zs_wf, if_pos b6]) rfl
  · intro b6
    refine zi_aload_n (pc := 9) h (i := 0) zd_PK_isWellFormed_9 rfl 0 rfl ?_
    refine zi_get (pc := 10) h zx_PK 1 0 zq_k1 rfl zq_j_0_2 zw_29 rfl zd_PK_isWellFormed_10 ?_
    refine zi_iconst (pc := 13) h zd_PK_isWellFormed_13 zq_ic_0 ?_
    refine zi_iald (pc := 14) h 2 zq_k2 rfl zq_in_0_48 zd_PK_isWellFormed_14 ?_
    refine zi_bipush (pc := 15) h zd_PK_isWellFormed_15 zq_bi_8 ?_
    refine zi_ishr (pc := 17) h zd_PK_isWellFormed_17 ?_
    refine zi_bipush (pc := 18) h zd_PK_isWellFormed_18 zq_bi_69 ?_
    refine zi_icmp_ne (pc := 20) h (tgt := 38) zd_PK_isWellFormed_20 rfl ?_ ?_
    · intro b20
      refine zi_iconst (pc := 38) h zd_PK_isWellFormed_38 zq_ic_0 ?_
      exact zi_zreturn (pc := 39) h hr rfl zd_PK_isWellFormed_39 (by rw [zs_wf, if_neg b6, if_neg b20]) rfl
    · intro b20
      refine zi_aload_n (pc := 23) h (i := 0) zd_PK_isWellFormed_23 rfl 0 rfl ?_
      refine zi_get (pc := 24) h zx_PK 1 0 zq_k1 rfl zq_j_0_2 zw_29 rfl zd_PK_isWellFormed_24 ?_
      refine zi_iconst (pc := 27) h zd_PK_isWellFormed_27 zq_ic_1 ?_
      refine zi_iald (pc := 28) h 2 zq_k2 rfl zq_in_1_48 zd_PK_isWellFormed_28 ?_
      refine zi_iconst (pc := 29) h zd_PK_isWellFormed_29 zq_ic_2 ?_
      refine zi_aload_n (pc := 30) h (i := 0) zd_PK_isWellFormed_30 rfl 0 rfl ?_
      refine zi_get (pc := 31) h zx_PK 1 1 zq_k1 rfl zq_j_1_2 zw_32 rfl zd_PK_isWellFormed_31 ?_
      refine zi_imul (pc := 34) h zd_PK_isWellFormed_34 ?_
      refine zi_icmp_eq (pc := 35) h (tgt := 40) zd_PK_isWellFormed_35 rfl ?_ ?_
      · intro b35
        refine zi_aload_n (pc := 40) h (i := 0) zd_PK_isWellFormed_40 rfl 0 rfl ?_
        refine zi_get (pc := 41) h zx_PK 1 0 zq_k1 rfl zq_j_0_2 zw_29 rfl zd_PK_isWellFormed_41 ?_
        refine zi_iconst (pc := 44) h zd_PK_isWellFormed_44 zq_ic_3 ?_
        refine zi_iald (pc := 45) h 2 zq_k2 rfl zq_in_3_48 zd_PK_isWellFormed_45 ?_
        refine zi_ldc (pc := 46) h zw_223 zd_PK_isWellFormed_46 ?_
        refine zi_iand (pc := 48) h zd_PK_isWellFormed_48 ?_
        refine zi_if_ne (pc := 49) h (tgt := 67) zd_PK_isWellFormed_49 rfl ?_ ?_
        · intro b49
          refine zi_iconst (pc := 67) h zd_PK_isWellFormed_67 zq_ic_0 ?_
          exact zi_zreturn (pc := 68) h hr rfl zd_PK_isWellFormed_68 (by rw [zs_wf, if_neg b6, if_pos b20, if_pos b35, if_neg b49]) rfl
        · intro b49
          refine zi_aload_n (pc := 52) h (i := 0) zd_PK_isWellFormed_52 rfl 0 rfl ?_
          refine zi_iconst (pc := 53) h zd_PK_isWellFormed_53 zq_ic_0 ?_
          refine zi_bipush (pc := 54) h zd_PK_isWellFormed_54 zq_bi_10 ?_
          refine zi_callV (pc := 56) h (st := []) (zc_PK_total (a := 0) (b := 10) (by decide) (by decide)) zm_PK_total zw_224 zx_PK zq_k1 rfl ⟨by decide, by decide⟩ zd_PK_isWellFormed_56 (Nat.le_of_ble_eq_true rfl) rfl ?_
          refine zi_callS (pc := 59) h (st := []) (zc_PK_sum) zm_PK_sum zw_228 ⟨by decide, by decide⟩ zd_PK_isWellFormed_59 (Nat.le_of_ble_eq_true rfl) rfl ?_
          refine zi_ldc (pc := 62) h zw_231 zd_PK_isWellFormed_62 ?_
          refine zi_icmp_eq (pc := 64) h (tgt := 69) zd_PK_isWellFormed_64 rfl ?_ ?_
          · intro b64
            refine zi_aload_n (pc := 69) h (i := 0) zd_PK_isWellFormed_69 rfl 0 rfl ?_
            refine zi_iconst (pc := 70) h zd_PK_isWellFormed_70 zq_ic_0 ?_
            refine zi_callV (pc := 71) h (st := []) (zc_PK_kindAt (s := 0) (a := 4) ⟨by decide, by decide, by decide⟩) zm_PK_kindAt zw_232 zx_PK zq_k1 rfl ⟨by decide, by decide⟩ zd_PK_isWellFormed_71 (Nat.le_of_ble_eq_true rfl) rfl ?_
            by_cases c74_1 : v 4 &&& 255 = 1
            · refine zi_lookup (pc := 74) h (off := 121) (tgt := 195) zd_PK_isWellFormed_74 (by decide) (by rw [c74_1]; decide) rfl ?_
              refine zi_aload_n (pc := 195) h (i := 0) zd_PK_isWellFormed_195 rfl 0 rfl ?_
              refine zi_get (pc := 196) h zx_PK 1 1 zq_k1 rfl zq_j_1_2 zw_32 rfl zd_PK_isWellFormed_196 ?_
              refine zi_bipush (pc := 199) h zd_PK_isWellFormed_199 zq_bi_14 ?_
              refine zi_icmp_lt (pc := 201) h (tgt := 243) zd_PK_isWellFormed_201 rfl ?_ ?_
              · intro b201
                refine zi_iconst (pc := 243) h zd_PK_isWellFormed_243 zq_ic_0 ?_
                exact zi_zreturn (pc := 244) h hr rfl zd_PK_isWellFormed_244 (by rw [zs_wf, if_neg b6, if_pos b20, if_pos b35, if_pos b49, if_pos b64, if_pos c74_1, if_pos b201]) rfl
              · intro b201
                refine zi_aload_n (pc := 204) h (i := 0) zd_PK_isWellFormed_204 rfl 0 rfl ?_
                refine zi_callV (pc := 205) h (st := []) (zc_PK_bodyAgrees (zq_le (m := 10) b6 (by omega) (by decide)) hn) zm_PK_bodyAgrees zw_236 zx_PK zq_k1 rfl ⟨by decide, by decide⟩ zd_PK_isWellFormed_205 (Nat.le_of_ble_eq_true rfl) rfl ?_
                refine zi_if_eq (pc := 208) h (tgt := 243) zd_PK_isWellFormed_208 rfl ?_ ?_
                · intro b208
                  refine zi_iconst (pc := 243) h zd_PK_isWellFormed_243 zq_ic_0 ?_
                  exact zi_zreturn (pc := 244) h hr rfl zd_PK_isWellFormed_244 (by rw [zs_wf, if_neg b6, if_pos b20, if_pos b35, if_pos b49, if_pos b64, if_pos c74_1, if_neg b201, if_pos b208]) rfl
                · intro b208
                  refine zi_aload_n (pc := 211) h (i := 0) zd_PK_isWellFormed_211 rfl 0 rfl ?_
                  refine zi_callV (pc := 212) h (st := []) (zc_PK_isEchoRequest) zm_PK_isEchoRequest zw_244 zx_PK zq_k1 rfl ⟨by decide, by decide⟩ zd_PK_isWellFormed_212 (Nat.le_of_ble_eq_true rfl) rfl ?_
                  refine zi_if_ne (pc := 215) h (tgt := 239) zd_PK_isWellFormed_215 rfl ?_ ?_
                  · intro b215
                    refine zi_iconst (pc := 239) h zd_PK_isWellFormed_239 zq_ic_1 ?_
                    refine zi_goto (pc := 240) h (tgt := 244) zd_PK_isWellFormed_240 rfl ?_
                    exact zi_zreturn (pc := 244) h hr rfl zd_PK_isWellFormed_244 (by rw [zs_wf, if_neg b6, if_pos b20, if_pos b35, if_pos b49, if_pos b64, if_pos c74_1, if_neg b201, if_neg b208, if_neg b215]) rfl
                  · intro b215
                    refine zi_aload_n (pc := 218) h (i := 0) zd_PK_isWellFormed_218 rfl 0 rfl ?_
                    refine zi_callV (pc := 219) h (st := []) (zc_PK_isEchoReply) zm_PK_isEchoReply zw_248 zx_PK zq_k1 rfl ⟨by decide, by decide⟩ zd_PK_isWellFormed_219 (Nat.le_of_ble_eq_true rfl) rfl ?_
                    refine zi_if_ne (pc := 222) h (tgt := 239) zd_PK_isWellFormed_222 rfl ?_ ?_
                    · intro b222
                      refine zi_iconst (pc := 239) h zd_PK_isWellFormed_239 zq_ic_1 ?_
                      refine zi_goto (pc := 240) h (tgt := 244) zd_PK_isWellFormed_240 rfl ?_
                      exact zi_zreturn (pc := 244) h hr rfl zd_PK_isWellFormed_244 (by rw [zs_wf, if_neg b6, if_pos b20, if_pos b35, if_pos b49, if_pos b64, if_pos c74_1, if_neg b201, if_neg b208, if_pos b215, if_neg b222]) rfl
                    · intro b222
                      refine zi_aload_n (pc := 225) h (i := 0) zd_PK_isWellFormed_225 rfl 0 rfl ?_
                      refine zi_callV (pc := 226) h (st := []) (zc_PK_isError) zm_PK_isError zw_252 zx_PK zq_k1 rfl ⟨by decide, by decide⟩ zd_PK_isWellFormed_226 (Nat.le_of_ble_eq_true rfl) rfl ?_
                      refine zi_if_eq (pc := 229) h (tgt := 243) zd_PK_isWellFormed_229 rfl ?_ ?_
                      · intro b229
                        refine zi_iconst (pc := 243) h zd_PK_isWellFormed_243 zq_ic_0 ?_
                        exact zi_zreturn (pc := 244) h hr rfl zd_PK_isWellFormed_244 (by rw [zs_wf, if_neg b6, if_pos b20, if_pos b35, if_pos b49, if_pos b64, if_pos c74_1, if_neg b201, if_neg b208, if_pos b215, if_pos b222, if_pos b229]) rfl
                      · intro b229
                        refine zi_aload_n (pc := 232) h (i := 0) zd_PK_isWellFormed_232 rfl 0 rfl ?_
                        refine zi_callV (pc := 233) h (st := []) (zc_PK_hasOtherPacket) zm_PK_hasOtherPacket zw_256 zx_PK zq_k1 rfl ⟨by decide, by decide⟩ zd_PK_isWellFormed_233 (Nat.le_of_ble_eq_true rfl) rfl ?_
                        refine zi_if_eq (pc := 236) h (tgt := 243) zd_PK_isWellFormed_236 rfl ?_ ?_
                        · intro b236
                          refine zi_iconst (pc := 243) h zd_PK_isWellFormed_243 zq_ic_0 ?_
                          exact zi_zreturn (pc := 244) h hr rfl zd_PK_isWellFormed_244 (by rw [zs_wf, if_neg b6, if_pos b20, if_pos b35, if_pos b49, if_pos b64, if_pos c74_1, if_neg b201, if_neg b208, if_pos b215, if_pos b222, if_neg b229, if_pos b236]) rfl
                        · intro b236
                          refine zi_iconst (pc := 239) h zd_PK_isWellFormed_239 zq_ic_1 ?_
                          refine zi_goto (pc := 240) h (tgt := 244) zd_PK_isWellFormed_240 rfl ?_
                          exact zi_zreturn (pc := 244) h hr rfl zd_PK_isWellFormed_244 (by rw [zs_wf, if_neg b6, if_pos b20, if_pos b35, if_pos b49, if_pos b64, if_pos c74_1, if_neg b201, if_neg b208, if_pos b215, if_pos b222, if_neg b229, if_neg b236]) rfl
            by_cases c74_6 : v 4 &&& 255 = 6
            · refine zi_lookup (pc := 74) h (off := 34) (tgt := 108) zd_PK_isWellFormed_74 (by decide) (by rw [c74_6]; decide) rfl ?_
              refine zi_aload_n (pc := 108) h (i := 0) zd_PK_isWellFormed_108 rfl 0 rfl ?_
              refine zi_get (pc := 109) h zx_PK 1 1 zq_k1 rfl zq_j_1_2 zw_32 rfl zd_PK_isWellFormed_109 ?_
              refine zi_bipush (pc := 112) h zd_PK_isWellFormed_112 zq_bi_20 ?_
              refine zi_icmp_lt (pc := 114) h (tgt := 142) zd_PK_isWellFormed_114 rfl ?_ ?_
              · intro b114
                refine zi_iconst (pc := 142) h zd_PK_isWellFormed_142 zq_ic_0 ?_
                exact zi_zreturn (pc := 143) h hr rfl zd_PK_isWellFormed_143 (by rw [zs_wf, if_neg b6, if_pos b20, if_pos b35, if_pos b49, if_pos b64, if_neg c74_1, if_pos c74_6, if_pos b114]) rfl
              · intro b114
                refine zi_aload_n (pc := 117) h (i := 0) zd_PK_isWellFormed_117 rfl 0 rfl ?_
                refine zi_get (pc := 118) h zx_PK 1 0 zq_k1 rfl zq_j_0_2 zw_29 rfl zd_PK_isWellFormed_118 ?_
                refine zi_bipush (pc := 121) h zd_PK_isWellFormed_121 zq_bi_16 ?_
                refine zi_iald (pc := 123) h 2 zq_k2 rfl zq_in_16_48 zd_PK_isWellFormed_123 ?_
                refine zi_bipush (pc := 124) h zd_PK_isWellFormed_124 zq_bi_12 ?_
                refine zi_ishr (pc := 126) h zd_PK_isWellFormed_126 ?_
                refine zi_iconst (pc := 127) h zd_PK_isWellFormed_127 zq_ic_5 ?_
                refine zi_icmp_ne (pc := 128) h (tgt := 142) zd_PK_isWellFormed_128 rfl ?_ ?_
                · intro b128
                  refine zi_iconst (pc := 142) h zd_PK_isWellFormed_142 zq_ic_0 ?_
                  exact zi_zreturn (pc := 143) h hr rfl zd_PK_isWellFormed_143 (by rw [zs_wf, if_neg b6, if_pos b20, if_pos b35, if_pos b49, if_pos b64, if_neg c74_1, if_pos c74_6, if_neg b114, if_neg b128]) rfl
                · intro b128
                  refine zi_aload_n (pc := 131) h (i := 0) zd_PK_isWellFormed_131 rfl 0 rfl ?_
                  refine zi_callV (pc := 132) h (st := []) (zc_PK_bodyAgrees (zq_le (m := 10) b6 (by omega) (by decide)) hn) zm_PK_bodyAgrees zw_236 zx_PK zq_k1 rfl ⟨by decide, by decide⟩ zd_PK_isWellFormed_132 (Nat.le_of_ble_eq_true rfl) rfl ?_
                  refine zi_if_eq (pc := 135) h (tgt := 142) zd_PK_isWellFormed_135 rfl ?_ ?_
                  · intro b135
                    refine zi_iconst (pc := 142) h zd_PK_isWellFormed_142 zq_ic_0 ?_
                    exact zi_zreturn (pc := 143) h hr rfl zd_PK_isWellFormed_143 (by rw [zs_wf, if_neg b6, if_pos b20, if_pos b35, if_pos b49, if_pos b64, if_neg c74_1, if_pos c74_6, if_neg b114, if_pos b128, if_pos b135]) rfl
                  · intro b135
                    refine zi_iconst (pc := 138) h zd_PK_isWellFormed_138 zq_ic_1 ?_
                    refine zi_goto (pc := 139) h (tgt := 143) zd_PK_isWellFormed_139 rfl ?_
                    exact zi_zreturn (pc := 143) h hr rfl zd_PK_isWellFormed_143 (by rw [zs_wf, if_neg b6, if_pos b20, if_pos b35, if_pos b49, if_pos b64, if_neg c74_1, if_pos c74_6, if_neg b114, if_pos b128, if_neg b135]) rfl
            by_cases c74_17 : v 4 &&& 255 = 17
            · refine zi_lookup (pc := 74) h (off := 70) (tgt := 144) zd_PK_isWellFormed_74 (by decide) (by rw [c74_17]; decide) rfl ?_
              refine zi_aload_n (pc := 144) h (i := 0) zd_PK_isWellFormed_144 rfl 0 rfl ?_
              refine zi_get (pc := 145) h zx_PK 1 1 zq_k1 rfl zq_j_1_2 zw_32 rfl zd_PK_isWellFormed_145 ?_
              refine zi_bipush (pc := 148) h zd_PK_isWellFormed_148 zq_bi_14 ?_
              refine zi_icmp_lt (pc := 150) h (tgt := 193) zd_PK_isWellFormed_150 rfl ?_ ?_
              · intro b150
                refine zi_iconst (pc := 193) h zd_PK_isWellFormed_193 zq_ic_0 ?_
                exact zi_zreturn (pc := 194) h hr rfl zd_PK_isWellFormed_194 (by rw [zs_wf, if_neg b6, if_pos b20, if_pos b35, if_pos b49, if_pos b64, if_neg c74_1, if_neg c74_6, if_pos c74_17, if_pos b150]) rfl
              · intro b150
                refine zi_aload_n (pc := 153) h (i := 0) zd_PK_isWellFormed_153 rfl 0 rfl ?_
                refine zi_get (pc := 154) h zx_PK 1 0 zq_k1 rfl zq_j_0_2 zw_29 rfl zd_PK_isWellFormed_154 ?_
                refine zi_bipush (pc := 157) h zd_PK_isWellFormed_157 zq_bi_12 ?_
                refine zi_iald (pc := 159) h 2 zq_k2 rfl zq_in_12_48 zd_PK_isWellFormed_159 ?_
                refine zi_iconst (pc := 160) h zd_PK_isWellFormed_160 zq_ic_2 ?_
                refine zi_aload_n (pc := 161) h (i := 0) zd_PK_isWellFormed_161 rfl 0 rfl ?_
                refine zi_get (pc := 162) h zx_PK 1 1 zq_k1 rfl zq_j_1_2 zw_32 rfl zd_PK_isWellFormed_162 ?_
                refine zi_bipush (pc := 165) h zd_PK_isWellFormed_165 zq_bi_10 ?_
                refine zi_isub (pc := 167) h zd_PK_isWellFormed_167 ?_
                refine zi_imul (pc := 168) h zd_PK_isWellFormed_168 ?_
                refine zi_icmp_ne (pc := 169) h (tgt := 193) zd_PK_isWellFormed_169 rfl ?_ ?_
                · intro b169
                  refine zi_iconst (pc := 193) h zd_PK_isWellFormed_193 zq_ic_0 ?_
                  exact zi_zreturn (pc := 194) h hr rfl zd_PK_isWellFormed_194 (by rw [zs_wf, if_neg b6, if_pos b20, if_pos b35, if_pos b49, if_pos b64, if_neg c74_1, if_neg c74_6, if_pos c74_17, if_neg b150, if_neg b169]) rfl
                · intro b169
                  refine zi_aload_n (pc := 172) h (i := 0) zd_PK_isWellFormed_172 rfl 0 rfl ?_
                  refine zi_get (pc := 173) h zx_PK 1 0 zq_k1 rfl zq_j_0_2 zw_29 rfl zd_PK_isWellFormed_173 ?_
                  refine zi_bipush (pc := 176) h zd_PK_isWellFormed_176 zq_bi_13 ?_
                  refine zi_iald (pc := 178) h 2 zq_k2 rfl zq_in_13_48 zd_PK_isWellFormed_178 ?_
                  refine zi_if_eq (pc := 179) h (tgt := 189) zd_PK_isWellFormed_179 rfl ?_ ?_
                  · intro b179
                    refine zi_iconst (pc := 189) h zd_PK_isWellFormed_189 zq_ic_1 ?_
                    refine zi_goto (pc := 190) h (tgt := 194) zd_PK_isWellFormed_190 rfl ?_
                    exact zi_zreturn (pc := 194) h hr rfl zd_PK_isWellFormed_194 (by rw [zs_wf, if_neg b6, if_pos b20, if_pos b35, if_pos b49, if_pos b64, if_neg c74_1, if_neg c74_6, if_pos c74_17, if_neg b150, if_pos b169, if_pos b179]) rfl
                  · intro b179
                    refine zi_aload_n (pc := 182) h (i := 0) zd_PK_isWellFormed_182 rfl 0 rfl ?_
                    refine zi_callV (pc := 183) h (st := []) (zc_PK_bodyAgrees (zq_le (m := 10) b6 (by omega) (by decide)) hn) zm_PK_bodyAgrees zw_236 zx_PK zq_k1 rfl ⟨by decide, by decide⟩ zd_PK_isWellFormed_183 (Nat.le_of_ble_eq_true rfl) rfl ?_
                    refine zi_if_eq (pc := 186) h (tgt := 193) zd_PK_isWellFormed_186 rfl ?_ ?_
                    · intro b186
                      refine zi_iconst (pc := 193) h zd_PK_isWellFormed_193 zq_ic_0 ?_
                      exact zi_zreturn (pc := 194) h hr rfl zd_PK_isWellFormed_194 (by rw [zs_wf, if_neg b6, if_pos b20, if_pos b35, if_pos b49, if_pos b64, if_neg c74_1, if_neg c74_6, if_pos c74_17, if_neg b150, if_pos b169, if_neg b179, if_pos b186]) rfl
                    · intro b186
                      refine zi_iconst (pc := 189) h zd_PK_isWellFormed_189 zq_ic_1 ?_
                      refine zi_goto (pc := 190) h (tgt := 194) zd_PK_isWellFormed_190 rfl ?_
                      exact zi_zreturn (pc := 194) h hr rfl zd_PK_isWellFormed_194 (by rw [zs_wf, if_neg b6, if_pos b20, if_pos b35, if_pos b49, if_pos b64, if_neg c74_1, if_neg c74_6, if_pos c74_17, if_neg b150, if_pos b169, if_neg b179, if_neg b186]) rfl
            refine zi_lookup (pc := 74) h (off := 171) (tgt := 245) zd_PK_isWellFormed_74 (by decide) (by rw [lv_osw (k := 1) c74_1 (by decide)]; rw [lv_osw (k := 6) c74_6 (by decide)]; rw [lv_osw (k := 17) c74_17 (by decide)]; rfl) rfl ?_
            refine zi_iconst (pc := 245) h zd_PK_isWellFormed_245 zq_ic_0 ?_
            exact zi_zreturn (pc := 246) h hr rfl zd_PK_isWellFormed_246 (by rw [zs_wf, if_neg b6, if_pos b20, if_pos b35, if_pos b49, if_pos b64, if_neg c74_1, if_neg c74_6, if_neg c74_17]) rfl
          · intro b64
            refine zi_iconst (pc := 67) h zd_PK_isWellFormed_67 zq_ic_0 ?_
            exact zi_zreturn (pc := 68) h hr rfl zd_PK_isWellFormed_68 (by rw [zs_wf, if_neg b6, if_pos b20, if_pos b35, if_pos b49, if_neg b64]) rfl
      · intro b35
        refine zi_iconst (pc := 38) h zd_PK_isWellFormed_38 zq_ic_0 ?_
        exact zi_zreturn (pc := 39) h hr rfl zd_PK_isWellFormed_39 (by rw [zs_wf, if_neg b6, if_pos b20, if_neg b35]) rfl

set_option maxRecDepth 20000 in
theorem zc_PK_adjustOther {l : Launch} {G : zz_G} {F : Nat → va_E} {v : Nat → Int32} {sz : Int32} {lv : Nat → Int32} {lz : Int32} {su : Nat → Int32} {pm : Nat → Nat} {cn : Int32} {fl : Nat → Nat → Int32} {ru : Nat → Nat → Int32} {x y : Int32} : zz_M l zy_PK_adjustOther zb_PK_adjustOther 4 none 2 43 G [.ref (G.2.2 1), .int x, .int y] (zz_K G F v sz lv lz su pm cn fl ru) none (zz_K G F (zs_ado v x y) sz lv lz su pm cn fl ru) := by
  refine zz_M.of (by decide) (Nat.le_of_ble_eq_true rfl) ?_
  intro X hX h hr
  subst hX
  have h : zz_C X G (zz_A G.2.2) 4 zb_PK_adjustOther "PortTranslator$Packet" 2 43 0 0 := h
  refine zi_aload_n (pc := 0) h (i := 0) zd_PK_adjustOther_0 rfl 0 rfl ?_
  refine zi_bipush (pc := 1) h zd_PK_adjustOther_1 zq_bi_19 ?_
  refine zi_iload_n (pc := 3) h (i := 1) zd_PK_adjustOther_3 rfl 1 rfl ?_
  refine zi_callVv (pc := 4) h (st := []) (zc_PK_adjust (a := 19) zq_in_19_48) zm_PK_adjust zw_375 zx_PK zq_k1 rfl ⟨by decide, by decide⟩ zd_PK_adjustOther_4 (Nat.le_of_ble_eq_true rfl) rfl ?_
  refine zi_aload_n (pc := 7) h (i := 0) zd_PK_adjustOther_7 rfl 0 rfl ?_
  refine zi_bipush (pc := 8) h zd_PK_adjustOther_8 zq_bi_14 ?_
  refine zi_callV (pc := 10) h (st := []) (zc_PK_kindAt (s := 14) (a := 18) ⟨by decide, by decide, by decide⟩) zm_PK_kindAt zw_232 zx_PK zq_k1 rfl ⟨by decide, by decide⟩ zd_PK_adjustOther_10 (Nat.le_of_ble_eq_true rfl) rfl ?_
  refine zi_istore_n (pc := 13) h (i := 3) (L' := [(3, _), (0, _), (1, _), (2, _)]) zd_PK_adjustOther_13 rfl (by decide) rfl ?_
  refine zi_iload_n (pc := 14) h (i := 3) zd_PK_adjustOther_14 rfl 0 rfl ?_
  refine zi_bipush (pc := 15) h zd_PK_adjustOther_15 zq_bi_17 ?_
  refine zi_icmp_ne (pc := 17) h (tgt := 42) zd_PK_adjustOther_17 rfl ?_ ?_
  · intro b17
    refine zi_iload_n (pc := 42) h (i := 3) zd_PK_adjustOther_42 rfl 0 rfl ?_
    refine zi_iconst (pc := 43) h zd_PK_adjustOther_43 zq_ic_1 ?_
    refine zi_icmp_ne (pc := 44) h (tgt := 54) zd_PK_adjustOther_44 rfl ?_ ?_
    · intro b44
      exact zi_vreturn (pc := 54) h hr zd_PK_adjustOther_54 rfl (by rw [zs_ado, if_neg b17, if_neg b44])
    · intro b44
      refine zi_aload_n (pc := 47) h (i := 0) zd_PK_adjustOther_47 rfl 1 rfl ?_
      refine zi_bipush (pc := 48) h zd_PK_adjustOther_48 zq_bi_25 ?_
      refine zi_iload_n (pc := 50) h (i := 2) zd_PK_adjustOther_50 rfl 3 rfl ?_
      refine zi_callVv (pc := 51) h (st := []) (zc_PK_adjust (a := 25) zq_in_25_48) zm_PK_adjust zw_375 zx_PK zq_k1 rfl ⟨by decide, by decide⟩ zd_PK_adjustOther_51 (Nat.le_of_ble_eq_true rfl) rfl ?_
      exact zi_vreturn (pc := 54) h hr zd_PK_adjustOther_54 rfl (by rw [zs_ado, if_neg b17, if_pos b44])
  · intro b17
    refine zi_aload_n (pc := 20) h (i := 0) zd_PK_adjustOther_20 rfl 1 rfl ?_
    refine zi_get (pc := 21) h zx_PK 1 0 zq_k1 rfl zq_j_0_2 zw_29 rfl zd_PK_adjustOther_21 ?_
    refine zi_bipush (pc := 24) h zd_PK_adjustOther_24 zq_bi_27 ?_
    refine zi_iald (pc := 26) h 2 zq_k2 rfl zq_in_27_48 zd_PK_adjustOther_26 ?_
    refine zi_if_eq (pc := 27) h (tgt := 42) zd_PK_adjustOther_27 rfl ?_ ?_
    · intro b27
      refine zi_iload_n (pc := 42) h (i := 3) zd_PK_adjustOther_42 rfl 0 rfl ?_
      refine zi_iconst (pc := 43) h zd_PK_adjustOther_43 zq_ic_1 ?_
      refine zi_icmp_ne (pc := 44) h (tgt := 54) zd_PK_adjustOther_44 rfl ?_ ?_
      · intro b44
        exact zi_vreturn (pc := 54) h hr zd_PK_adjustOther_54 rfl (by rw [zs_ado, if_pos b17, if_pos b27, if_neg b44])
      · intro b44
        refine zi_aload_n (pc := 47) h (i := 0) zd_PK_adjustOther_47 rfl 1 rfl ?_
        refine zi_bipush (pc := 48) h zd_PK_adjustOther_48 zq_bi_25 ?_
        refine zi_iload_n (pc := 50) h (i := 2) zd_PK_adjustOther_50 rfl 3 rfl ?_
        refine zi_callVv (pc := 51) h (st := []) (zc_PK_adjust (a := 25) zq_in_25_48) zm_PK_adjust zw_375 zx_PK zq_k1 rfl ⟨by decide, by decide⟩ zd_PK_adjustOther_51 (Nat.le_of_ble_eq_true rfl) rfl ?_
        exact zi_vreturn (pc := 54) h hr zd_PK_adjustOther_54 rfl (by rw [zs_ado, if_pos b17, if_pos b27, if_pos b44])
    · intro b27
      refine zi_aload_n (pc := 30) h (i := 0) zd_PK_adjustOther_30 rfl 1 rfl ?_
      refine zi_bipush (pc := 31) h zd_PK_adjustOther_31 zq_bi_27 ?_
      refine zi_iload_n (pc := 33) h (i := 1) zd_PK_adjustOther_33 rfl 2 rfl ?_
      refine zi_iload_n (pc := 34) h (i := 2) zd_PK_adjustOther_34 rfl 3 rfl ?_
      refine zi_iadd (pc := 35) h zd_PK_adjustOther_35 ?_
      refine zi_callVv (pc := 36) h (st := []) (zc_PK_adjust (a := 27) zq_in_27_48) zm_PK_adjust zw_375 zx_PK zq_k1 rfl ⟨by decide, by decide⟩ zd_PK_adjustOther_36 (Nat.le_of_ble_eq_true rfl) rfl ?_
      refine zi_goto (pc := 39) h (tgt := 54) zd_PK_adjustOther_39 rfl ?_
      exact zi_vreturn (pc := 54) h hr zd_PK_adjustOther_54 rfl (by rw [zs_ado, if_pos b17, if_neg b27])

set_option maxRecDepth 20000 in
theorem zc_PK_writeChecksums {l : Launch} {G : zz_G} {F : Nat → va_E} {v : Nat → Int32} {lv : Nat → Int32} {lz : Int32} {su : Nat → Int32} {pm : Nat → Nat} {cn : Int32} {fl : Nat → Nat → Int32} {ru : Nat → Nat → Int32} {n : Nat} (h10 : 10 ≤ n) (hn : n ≤ 48) : zz_M l zy_PK_writeChecksums zb_PK_writeChecksums 2 none 3 66 G [.ref (G.2.2 1)] (zz_K G F v (nI n) lv lz su pm cn fl ru) none (zz_K G F (zs_wcs v n) (nI n) lv lz su pm cn fl ru) := by
  refine zz_M.of (by decide) (Nat.le_of_ble_eq_true rfl) ?_
  intro X hX h hr
  subst hX
  have h : zz_C X G (zz_A G.2.2) 2 zb_PK_writeChecksums "PortTranslator$Packet" 3 66 0 0 := h
  refine zi_aload_n (pc := 0) h (i := 0) zd_PK_writeChecksums_0 rfl 0 rfl ?_
  refine zi_get (pc := 1) h zx_PK 1 0 zq_k1 rfl zq_j_0_2 zw_29 rfl zd_PK_writeChecksums_1 ?_
  refine zi_iconst (pc := 4) h zd_PK_writeChecksums_4 zq_ic_5 ?_
  refine zi_iconst (pc := 5) h zd_PK_writeChecksums_5 zq_ic_0 ?_
  refine zi_iast (pc := 6) h 2 zq_k2 rfl zq_in_5_48 zd_PK_writeChecksums_6 zk_u_v ?_
  refine zi_aload_n (pc := 7) h (i := 0) zd_PK_writeChecksums_7 rfl 0 rfl ?_
  refine zi_get (pc := 8) h zx_PK 1 0 zq_k1 rfl zq_j_0_2 zw_29 rfl zd_PK_writeChecksums_8 ?_
  refine zi_iconst (pc := 11) h zd_PK_writeChecksums_11 zq_ic_5 ?_
  refine zi_ldc (pc := 12) h zw_231 zd_PK_writeChecksums_12 ?_
  refine zi_aload_n (pc := 14) h (i := 0) zd_PK_writeChecksums_14 rfl 0 rfl ?_
  refine zi_iconst (pc := 15) h zd_PK_writeChecksums_15 zq_ic_0 ?_
  refine zi_bipush (pc := 16) h zd_PK_writeChecksums_16 zq_bi_10 ?_
  refine zi_callV (pc := 18) h (st := [_, _, _]) (zc_PK_total (a := 0) (b := 10) (by decide) (by decide)) zm_PK_total zw_224 zx_PK zq_k1 rfl ⟨by decide, by decide⟩ zd_PK_writeChecksums_18 (Nat.le_of_ble_eq_true rfl) rfl ?_
  refine zi_callS (pc := 21) h (st := [_, _, _]) (zc_PK_sum) zm_PK_sum zw_228 ⟨by decide, by decide⟩ zd_PK_writeChecksums_21 (Nat.le_of_ble_eq_true rfl) rfl ?_
  refine zi_isub (pc := 24) h zd_PK_writeChecksums_24 ?_
  refine zi_iast (pc := 25) h 2 zq_k2 rfl zq_in_5_48 zd_PK_writeChecksums_25 zk_u_v ?_
  refine zi_aload_n (pc := 26) h (i := 0) zd_PK_writeChecksums_26 rfl 0 rfl ?_
  refine zi_iconst (pc := 27) h zd_PK_writeChecksums_27 zq_ic_0 ?_
  refine zi_callV (pc := 28) h (st := []) (zc_PK_kindAt (s := 0) (a := 4) ⟨by decide, by decide, by decide⟩) zm_PK_kindAt zw_232 zx_PK zq_k1 rfl ⟨by decide, by decide⟩ zd_PK_writeChecksums_28 (Nat.le_of_ble_eq_true rfl) rfl ?_
  refine zi_istore_n (pc := 31) h (i := 1) (L' := [(1, _), (0, _)]) zd_PK_writeChecksums_31 rfl (by decide) rfl ?_
  refine zi_iload_n (pc := 32) h (i := 1) zd_PK_writeChecksums_32 rfl 0 rfl ?_
  refine zi_bipush (pc := 33) h zd_PK_writeChecksums_33 zq_bi_6 ?_
  refine zi_icmp_ne (pc := 35) h (tgt := 47) zd_PK_writeChecksums_35 rfl ?_ ?_
  · intro b35
    refine zi_iload_n (pc := 47) h (i := 1) zd_PK_writeChecksums_47 rfl 0 rfl ?_
    refine zi_iconst (pc := 48) h zd_PK_writeChecksums_48 zq_ic_1 ?_
    refine zi_icmp_ne (pc := 49) h (tgt := 61) zd_PK_writeChecksums_49 rfl ?_ ?_
    · intro b49
      refine zi_aload_n (pc := 61) h (i := 0) zd_PK_writeChecksums_61 rfl 1 rfl ?_
      refine zi_get (pc := 62) h zx_PK 1 0 zq_k1 rfl zq_j_0_2 zw_29 rfl zd_PK_writeChecksums_62 ?_
      refine zi_bipush (pc := 65) h zd_PK_writeChecksums_65 zq_bi_13 ?_
      refine zi_iald (pc := 67) h 2 zq_k2 rfl zq_in_13_48 zd_PK_writeChecksums_67 ?_
      refine zi_if_eq (pc := 68) h (tgt := 96) zd_PK_writeChecksums_68 rfl ?_ ?_
      · intro b68
        exact zi_vreturn (pc := 96) h hr zd_PK_writeChecksums_96 rfl (by unfold zs_wcs zs_hcs; rw [if_neg b35, if_neg b49, if_pos b68])
      · intro b68
        refine zi_aload_n (pc := 71) h (i := 0) zd_PK_writeChecksums_71 rfl 1 rfl ?_
        refine zi_bipush (pc := 72) h zd_PK_writeChecksums_72 zq_bi_13 ?_
        refine zi_callVv (pc := 74) h (st := []) (zc_PK_writeBodyChecksum (a := 13) zq_in_13_48 h10 hn) zm_PK_writeBodyChecksum zw_409 zx_PK zq_k1 rfl ⟨by decide, by decide⟩ zd_PK_writeChecksums_74 (Nat.le_of_ble_eq_true rfl) rfl ?_
        refine zi_aload_n (pc := 77) h (i := 0) zd_PK_writeChecksums_77 rfl 1 rfl ?_
        refine zi_get (pc := 78) h zx_PK 1 0 zq_k1 rfl zq_j_0_2 zw_29 rfl zd_PK_writeChecksums_78 ?_
        refine zi_bipush (pc := 81) h zd_PK_writeChecksums_81 zq_bi_13 ?_
        refine zi_iald (pc := 83) h 2 zq_k2 rfl zq_in_13_48 zd_PK_writeChecksums_83 ?_
        refine zi_if_ne (pc := 84) h (tgt := 96) zd_PK_writeChecksums_84 rfl ?_ ?_
        · intro b84
          exact zi_vreturn (pc := 96) h hr zd_PK_writeChecksums_96 rfl (by unfold zs_wcs zs_hcs; rw [if_neg b35, if_neg b49, if_neg b68, if_neg b84])
        · intro b84
          refine zi_aload_n (pc := 87) h (i := 0) zd_PK_writeChecksums_87 rfl 1 rfl ?_
          refine zi_get (pc := 88) h zx_PK 1 0 zq_k1 rfl zq_j_0_2 zw_29 rfl zd_PK_writeChecksums_88 ?_
          refine zi_bipush (pc := 91) h zd_PK_writeChecksums_91 zq_bi_13 ?_
          refine zi_ldc (pc := 93) h zw_231 zd_PK_writeChecksums_93 ?_
          refine zi_iast (pc := 95) h 2 zq_k2 rfl zq_in_13_48 zd_PK_writeChecksums_95 zk_u_v ?_
          exact zi_vreturn (pc := 96) h hr zd_PK_writeChecksums_96 rfl (by unfold zs_wcs zs_hcs; rw [if_neg b35, if_neg b49, if_neg b68, if_pos b84])
    · intro b49
      refine zi_aload_n (pc := 52) h (i := 0) zd_PK_writeChecksums_52 rfl 1 rfl ?_
      refine zi_bipush (pc := 53) h zd_PK_writeChecksums_53 zq_bi_11 ?_
      refine zi_callVv (pc := 55) h (st := []) (zc_PK_writeBodyChecksum (a := 11) zq_in_11_48 h10 hn) zm_PK_writeBodyChecksum zw_409 zx_PK zq_k1 rfl ⟨by decide, by decide⟩ zd_PK_writeChecksums_55 (Nat.le_of_ble_eq_true rfl) rfl ?_
      refine zi_goto (pc := 58) h (tgt := 96) zd_PK_writeChecksums_58 rfl ?_
      exact zi_vreturn (pc := 96) h hr zd_PK_writeChecksums_96 rfl (by unfold zs_wcs zs_hcs; rw [if_neg b35, if_pos b49])
  · intro b35
    refine zi_aload_n (pc := 38) h (i := 0) zd_PK_writeChecksums_38 rfl 1 rfl ?_
    refine zi_bipush (pc := 39) h zd_PK_writeChecksums_39 zq_bi_18 ?_
    refine zi_callVv (pc := 41) h (st := []) (zc_PK_writeBodyChecksum (a := 18) zq_in_18_48 h10 hn) zm_PK_writeBodyChecksum zw_409 zx_PK zq_k1 rfl ⟨by decide, by decide⟩ zd_PK_writeChecksums_41 (Nat.le_of_ble_eq_true rfl) rfl ?_
    refine zi_goto (pc := 44) h (tgt := 96) zd_PK_writeChecksums_44 rfl ?_
    exact zi_vreturn (pc := 96) h hr zd_PK_writeChecksums_96 rfl (by unfold zs_wcs zs_hcs; rw [if_pos b35])

set_option maxRecDepth 20000 in
theorem zc_PK_copyFrom {l : Launch} {G : zz_G} {F : Nat → va_E} {v : Nat → Int32} {sz : Int32} {lv : Nat → Int32} {lz : Int32} {su : Nat → Int32} {pm : Nat → Nat} {cn : Int32} {fl : Nat → Nat → Int32} {ru : Nat → Nat → Int32} : zz_M l zy_PK_copyFrom zb_PK_copyFrom 2 none 1 40 G [.ref (G.2.2 3), .ref (G.2.2 1)] (zz_K G F v sz lv lz su pm cn fl ru) none (zz_K G F v sz (va_cpy v lv 0 0 48) sz su pm cn fl ru) := by
  refine zz_M.of (by decide) (Nat.le_of_ble_eq_true rfl) ?_
  intro X hX h hr
  subst hX
  have h : zz_C X G (zz_A G.2.2) 2 zb_PK_copyFrom "PortTranslator$Packet" 1 40 0 0 := h
  refine zi_aload_n (pc := 0) h (i := 1) zd_PK_copyFrom_0 rfl 1 rfl ?_
  refine zi_get (pc := 1) h zx_PK 1 0 zq_k1 rfl zq_j_0_2 zw_29 rfl zd_PK_copyFrom_1 ?_
  refine zi_iconst (pc := 4) h zd_PK_copyFrom_4 zq_ic_0 ?_
  refine zi_aload_n (pc := 5) h (i := 0) zd_PK_copyFrom_5 rfl 0 rfl ?_
  refine zi_get (pc := 6) h zx_PK 3 0 zq_k3 rfl zq_j_0_2 zw_29 rfl zd_PK_copyFrom_6 ?_
  refine zi_iconst (pc := 9) h zd_PK_copyFrom_9 zq_ic_0 ?_
  refine zi_bipush (pc := 10) h zd_PK_copyFrom_10 zq_bi_48 ?_
  refine zi_copyi (pc := 12) h zw_417 zw_419 zw_418 zw_9 2 4 zq_k2 zq_k4 rfl rfl (by decide) (by decide) (by decide) (by decide) (by decide) (by decide) (by decide) zd_PK_copyFrom_12 zk_u_lv ?_
  refine zi_aload_n (pc := 15) h (i := 0) zd_PK_copyFrom_15 rfl 0 rfl ?_
  refine zi_aload_n (pc := 16) h (i := 1) zd_PK_copyFrom_16 rfl 1 rfl ?_
  refine zi_get (pc := 17) h zx_PK 1 1 zq_k1 rfl zq_j_1_2 zw_32 rfl zd_PK_copyFrom_17 ?_
  refine zi_put (pc := 20) h zx_PK 3 1 zq_k3 rfl zq_j_1_2 zw_32 rfl rfl rfl (Nat.le_of_ble_eq_true rfl) zd_PK_copyFrom_20 zk_u_lz ?_
  exact zi_vreturn (pc := 23) h hr zd_PK_copyFrom_23 rfl rfl
