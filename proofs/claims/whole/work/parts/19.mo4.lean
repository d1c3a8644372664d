def zv_fo (t : Int32) : Int32 := nI (zv_fold t.toNatClampNeg)
theorem zc_MO_foldI {l : Launch} {G : zz_G} {F : Nat → va_E} {t : Int32} (h0 : ¬ t < 0) : zz_M l zy_MO_fold zb_MO_fold 2 (some .int) 0 0 G [.int t] F (some (.int (zv_fo t))) F := by
  obtain ⟨j, hj, rfl⟩ := nI_of h0
  unfold zv_fo
  rw [nI_clamp hj]
  exact zc_MO_fold hj
def zv_neg (x : Int32) : Int32 := if 0 ≤ x then x else -5
def zv_wb (w : Nat → Int32) (n : Nat) (k : Int32) : Int32 := if k = 6 then (if 20 ≤ nI n then (if zv_fo (zv_bt w n k) = 65535 then (if w 16 / 4096 = 5 then 1 else 0) else 0) else 0) else if 14 ≤ nI n then (if zv_fo (zv_bt w n k) = 65535 then
  (if k = 17 then (if w 12 = 2 * (nI n - 10) then 1 else 0) else if zv_err w = 0 then (if w 10 = 2048 then 1 else if w 10 = 0 then 1 else 0) else (if nI n < 28 then 0 else if w 14 / 256 = 69 then (if zv_isk (w 18 &&& 255) = 0 then 0 else 1) else 0))
  else (if k = 17 then (if w 12 = 2 * (nI n - 10) then (if w 13 = 0 then 1 else 0) else 0) else 0)) else 0
def zv_wl (w : Nat → Int32) (n : Nat) : Int32 := if nI n < 10 then 0 else if w 0 / 256 = 69 then (if w 1 = 2 * nI n then (if w 3 &&& 49151 = 0 then (if zv_fo (zs_tot w 0 10 0) = 65535 then (if zv_isk (w 4 &&& 255) = 0 then 0 else if zv_wb w n (w 4 &&& 255) = 0 then 0 else 1) else 0) else 0) else 0) else 0
def zv_c1 (w : Nat → Int32) (a b d : Nat) (x p : Int32) : Nat → Int32 := upd (zs_set w a b x) d p
def zv_s1 (w : Nat → Int32) (a b d : Nat) (x p : Int32) : Int32 := zv_adj (zv_adj (65535 - zv_c1 w a b d x p 19) (w a) (zv_c1 w a b d x p a)) (w b) (zv_c1 w a b d x p b)
def zv_c2 (w : Nat → Int32) (a b d : Nat) (x p : Int32) : Nat → Int32 := upd (zv_c1 w a b d x p) 19 (65535 - zv_fo (zv_s1 w a b d x p))
def zv_s2 (w : Nat → Int32) (a b d : Nat) (x p : Int32) : Int32 := zv_adj (zv_adj (zv_adj (65535 - zv_c2 w a b d x p 27) (w a) (zv_c2 w a b d x p a)) (w b) (zv_c2 w a b d x p b)) (w d) p
def zv_s3 (w : Nat → Int32) (a b d : Nat) (x p : Int32) : Int32 := zv_adj (65535 - zv_c2 w a b d x p 25) (w d) p
def zv_co (w : Nat → Int32) (a b d : Nat) (x p : Int32) : Nat → Int32 := if zv_c2 w a b d x p 18 &&& 255 = 17 then (if zv_c2 w a b d x p 27 = 0 then (if zv_c2 w a b d x p 18 &&& 255 = 1 then upd (zv_c2 w a b d x p) 25 (65535 - zv_fo (zv_s3 w a b d x p)) else zv_c2 w a b d x p) else upd (zv_c2 w a b d x p) 27 (65535 - zv_fo (zv_s2 w a b d x p))) else if zv_c2 w a b d x p 18 &&& 255 = 1 then upd (zv_c2 w a b d x p) 25 (65535 - zv_fo (zv_s3 w a b d x p)) else zv_c2 w a b d x p
def zv_hc (w : Nat → Int32) : Nat → Int32 := upd (upd w 5 0) 5 (65535 - zv_fo (zs_tot (upd w 5 0) 0 10 0))
def zv_bs (w : Nat → Int32) (n i : Nat) (k : Int32) : Nat → Int32 := upd (upd w i 0) i (65535 - zv_fo (zv_bt (upd w i 0) n k))
def zv_ws (w : Nat → Int32) (n : Nat) (k : Int32) : Nat → Int32 := if k = 6 then zv_bs (zv_hc w) n 18 k else if k = 17 then (if zv_hc w 13 = 0 then zv_hc w else if 65535 - zv_fo (zv_bt (upd (zv_hc w) 13 0) n k) = 0 then upd (upd (zv_hc w) 13 0) 13 65535 else zv_bs (zv_hc w) n 13 k) else zv_bs (zv_hc w) n 11 k
def zv_cp (w la : Nat → Int32) : Nat → Nat → Nat → Int32
  | _, 0 => la
  | i, n + 1 => zv_cp w (upd la i (w i)) (i + 1) n
section
variable {l : Launch} {G : zz_G} {F : Nat → va_E} {w : Nat → Int32} {sz : Int32} {la : Nat → Int32} {lz : Int32} {ra fa : Nat → Nat → Int32} {cd : Int32} {c : Nat} {k o q a p : Int32}
theorem zc_MO_find_rn (hc : c ≤ 12) (hq : zs_ff (zv_mr fa k o q a p) 0 c = none) : zz_M l zy_MO_find zb_MO_find 9 (some .int) 0 0 G [.ref (G.2.2 26), .int k, .int o, .int q, .int 1, .int a, .int p] (zz_N G F w sz la lz ra (nI c) fa cd) (some (.int (-1))) (zz_N G F w sz la lz ra (nI c) fa cd) := by
  have h := zc_MO_find_r (l := l) (G := G) (F := F) (w := w) (sz := sz) (la := la) (lz := lz) (ra := ra) (fa := fa) (cd := cd) (k := k) (o := o) (q := q) (a := a) (p := p) hc
  rw [hq] at h
  exact h
theorem zc_MO_find_rs {i : Nat} (hc : c ≤ 12) (hq : zs_ff (zv_mr fa k o q a p) 0 c = some i) : zz_M l zy_MO_find zb_MO_find 9 (some .int) 0 0 G [.ref (G.2.2 26), .int k, .int o, .int q, .int 1, .int a, .int p] (zz_N G F w sz la lz ra (nI c) fa cd) (some (.int (nI i))) (zz_N G F w sz la lz ra (nI c) fa cd) := by
  have h := zc_MO_find_r (l := l) (G := G) (F := F) (w := w) (sz := sz) (la := la) (lz := lz) (ra := ra) (fa := fa) (cd := cd) (k := k) (o := o) (q := q) (a := a) (p := p) hc
  rw [hq] at h
  exact h
theorem zc_MO_find_wn (hc : c ≤ 12) (hq : zs_ff (zv_mw fa k o q p) 0 c = none) : zz_M l zy_MO_find zb_MO_find 9 (some .int) 0 0 G [.ref (G.2.2 26), .int k, .int o, .int q, .int 0, .int a, .int p] (zz_N G F w sz la lz ra (nI c) fa cd) (some (.int (-1))) (zz_N G F w sz la lz ra (nI c) fa cd) := by
  have h := zc_MO_find_w (l := l) (G := G) (F := F) (w := w) (sz := sz) (la := la) (lz := lz) (ra := ra) (fa := fa) (cd := cd) (k := k) (o := o) (q := q) (a := a) (p := p) hc
  rw [hq] at h
  exact h
theorem zc_MO_find_ws {i : Nat} (hc : c ≤ 12) (hq : zs_ff (zv_mw fa k o q p) 0 c = some i) : zz_M l zy_MO_find zb_MO_find 9 (some .int) 0 0 G [.ref (G.2.2 26), .int k, .int o, .int q, .int 0, .int a, .int p] (zz_N G F w sz la lz ra (nI c) fa cd) (some (.int (nI i))) (zz_N G F w sz la lz ra (nI c) fa cd) := by
  have h := zc_MO_find_w (l := l) (G := G) (F := F) (w := w) (sz := sz) (la := la) (lz := lz) (ra := ra) (fa := fa) (cd := cd) (k := k) (o := o) (q := q) (a := a) (p := p) hc
  rw [hq] at h
  exact h
end

set_option maxRecDepth 20000 in
theorem zc_MO_begin_no {l : Launch} {G : zz_G} {F : Nat → va_E} {w : Nat → Int32} {sz : Int32} {la : Nat → Int32} {lz : Int32} {ra : Nat → Nat → Int32} {fa : Nat → Nat → Int32} {cd : Int32} {c : Nat} {k a p o q : Int32} (hc : c ≤ 12) (hb : ∀ i, ra 3 i = 0 ∨ ra 3 i = 1) (hm : zv_may w ra k o = 0) : zz_M l zy_MO_begin zb_MO_begin 8 (some .int) 1 27 G [.ref (G.2.2 26), .int k, .int a, .int p, .int o, .int q] (zz_N G F w sz la lz ra (nI c) fa cd) (some (.int (-5))) (zz_N G F w sz la lz ra (nI c) fa cd) := by
  refine zz_M.of (by decide) (Nat.le_of_ble_eq_true rfl) ?_
  intro X hX h hr
  subst hX
  have h : zz_C X G (zz_A G.2.2) 8 zb_MO_begin "PortTranslatorModel" 1 27 0 0 := h
  refine zi_aload_n (pc := 0) h (i := 0) zd_MO_begin_0 rfl 0 rfl ?_
  refine zi_get (pc := 1) h zx_MO 26 0 zq_k26 rfl zq_j_0_18 zw_584 rfl zd_MO_begin_1 ?_
  refine zi_bipush (pc := 4) h zd_MO_begin_4 zq_bi_16 ?_
  refine zi_iald (pc := 6) h 27 zq_k27 rfl zq_in_16_48 zd_MO_begin_6 ?_
  refine zi_iconst (pc := 7) h zd_MO_begin_7 zq_ic_2 ?_
  refine zi_iand (pc := 8) h zd_MO_begin_8 ?_
  refine zi_if_eq (pc := 9) h (tgt := 29) zd_MO_begin_9 rfl ?_ ?_
  · intro b9
    refine zi_iconst (pc := 29) h zd_MO_begin_29 zq_ic_0 ?_
    refine zi_istore (pc := 30) h (i := 6) (L' := [(6, _), (0, _), (1, _), (2, _), (3, _), (4, _), (5, _)]) zd_MO_begin_30 (by decide) rfl ?_
    refine zi_iload_n (pc := 32) h (i := 1) zd_MO_begin_32 rfl 2 rfl ?_
    refine zi_iconst (pc := 33) h zd_MO_begin_33 zq_ic_1 ?_
    refine zi_icmp_ne (pc := 34) h (tgt := 47) zd_MO_begin_34 rfl ?_ ?_
    · intro b34
      refine zi_iload_n (pc := 47) h (i := 1) zd_MO_begin_47 rfl 2 rfl ?_
      refine zi_bipush (pc := 48) h zd_MO_begin_48 zq_bi_6 ?_
      refine zi_icmp_ne (pc := 50) h (tgt := 58) zd_MO_begin_50 rfl ?_ ?_
      · intro b50
        refine zi_aload_n (pc := 58) h (i := 0) zd_MO_begin_58 rfl 1 rfl ?_
        refine zi_iload_n (pc := 59) h (i := 1) zd_MO_begin_59 rfl 2 rfl ?_
        refine zi_iload (pc := 60) h (i := 4) zd_MO_begin_60 5 rfl ?_
        refine zi_callV (pc := 62) h (st := []) (zc_MO_permitted hb) zm_MO_permitted zw_715 zx_MO zq_k26 rfl ⟨by decide, by decide⟩ zd_MO_begin_62 (Nat.le_of_ble_eq_true rfl) rfl ?_
        refine zi_if_ne_f (pc := 65) h (tgt := 71) zd_MO_begin_65 rfl (by have e := hm; unfold zv_may zv_st at e; (try rw [if_pos b9] at e); (try rw [if_neg b34] at e); (try rw [if_neg b50] at e); exact e) ?_
        refine zi_bipush (pc := 68) h zd_MO_begin_68 zq_bi_m5 ?_
        exact zi_ireturn (pc := 70) h hr zd_MO_begin_70 rfl rfl
      · intro b50
        refine zi_iload (pc := 53) h (i := 6) zd_MO_begin_53 0 rfl ?_
        refine zi_if_eq_t (pc := 55) h (tgt := 68) zd_MO_begin_55 rfl (by decide) ?_
        refine zi_bipush (pc := 68) h zd_MO_begin_68 zq_bi_m5 ?_
        exact zi_ireturn (pc := 70) h hr zd_MO_begin_70 rfl rfl
    · intro b34
      refine zi_aload_n (pc := 37) h (i := 0) zd_MO_begin_37 rfl 1 rfl ?_
      refine zi_get (pc := 38) h zx_MO 26 0 zq_k26 rfl zq_j_0_18 zw_584 rfl zd_MO_begin_38 ?_
      refine zi_bipush (pc := 41) h zd_MO_begin_41 zq_bi_10 ?_
      refine zi_iald (pc := 43) h 27 zq_k27 rfl zq_in_10_48 zd_MO_begin_43 ?_
      refine zi_if_eq (pc := 44) h (tgt := 68) zd_MO_begin_44 rfl ?_ ?_
      · intro b44
        refine zi_bipush (pc := 68) h zd_MO_begin_68 zq_bi_m5 ?_
        exact zi_ireturn (pc := 70) h hr zd_MO_begin_70 rfl rfl
      · intro b44
        refine zi_iload_n (pc := 47) h (i := 1) zd_MO_begin_47 rfl 2 rfl ?_
        refine zi_bipush (pc := 48) h zd_MO_begin_48 zq_bi_6 ?_
        refine zi_icmp_ne (pc := 50) h (tgt := 58) zd_MO_begin_50 rfl ?_ ?_
        · intro b50
          refine zi_aload_n (pc := 58) h (i := 0) zd_MO_begin_58 rfl 1 rfl ?_
          refine zi_iload_n (pc := 59) h (i := 1) zd_MO_begin_59 rfl 2 rfl ?_
          refine zi_iload (pc := 60) h (i := 4) zd_MO_begin_60 5 rfl ?_
          refine zi_callV (pc := 62) h (st := []) (zc_MO_permitted hb) zm_MO_permitted zw_715 zx_MO zq_k26 rfl ⟨by decide, by decide⟩ zd_MO_begin_62 (Nat.le_of_ble_eq_true rfl) rfl ?_
          refine zi_if_ne_f (pc := 65) h (tgt := 71) zd_MO_begin_65 rfl (by have e := hm; unfold zv_may zv_st at e; (try rw [if_pos b9] at e); (try rw [if_pos b34] at e); (try rw [if_neg b44] at e); (try rw [if_neg b50] at e); exact e) ?_
          refine zi_bipush (pc := 68) h zd_MO_begin_68 zq_bi_m5 ?_
          exact zi_ireturn (pc := 70) h hr zd_MO_begin_70 rfl rfl
        · intro b50
          refine zi_iload (pc := 53) h (i := 6) zd_MO_begin_53 0 rfl ?_
          refine zi_if_eq_t (pc := 55) h (tgt := 68) zd_MO_begin_55 rfl (by decide) ?_
          refine zi_bipush (pc := 68) h zd_MO_begin_68 zq_bi_m5 ?_
          exact zi_ireturn (pc := 70) h hr zd_MO_begin_70 rfl rfl
  · intro b9
    refine zi_aload_n (pc := 12) h (i := 0) zd_MO_begin_12 rfl 0 rfl ?_
    refine zi_get (pc := 13) h zx_MO 26 0 zq_k26 rfl zq_j_0_18 zw_584 rfl zd_MO_begin_13 ?_
    refine zi_bipush (pc := 16) h zd_MO_begin_16 zq_bi_16 ?_
    refine zi_iald (pc := 18) h 27 zq_k27 rfl zq_in_16_48 zd_MO_begin_18 ?_
    refine zi_bipush (pc := 19) h zd_MO_begin_19 zq_bi_20 ?_
    refine zi_iand (pc := 21) h zd_MO_begin_21 ?_
    refine zi_if_ne (pc := 22) h (tgt := 29) zd_MO_begin_22 rfl ?_ ?_
    · intro b22
      refine zi_iconst (pc := 29) h zd_MO_begin_29 zq_ic_0 ?_
      refine zi_istore (pc := 30) h (i := 6) (L' := [(6, _), (0, _), (1, _), (2, _), (3, _), (4, _), (5, _)]) zd_MO_begin_30 (by decide) rfl ?_
      refine zi_iload_n (pc := 32) h (i := 1) zd_MO_begin_32 rfl 2 rfl ?_
      refine zi_iconst (pc := 33) h zd_MO_begin_33 zq_ic_1 ?_
      refine zi_icmp_ne (pc := 34) h (tgt := 47) zd_MO_begin_34 rfl ?_ ?_
      · intro b34
        refine zi_iload_n (pc := 47) h (i := 1) zd_MO_begin_47 rfl 2 rfl ?_
        refine zi_bipush (pc := 48) h zd_MO_begin_48 zq_bi_6 ?_
        refine zi_icmp_ne (pc := 50) h (tgt := 58) zd_MO_begin_50 rfl ?_ ?_
        · intro b50
          refine zi_aload_n (pc := 58) h (i := 0) zd_MO_begin_58 rfl 1 rfl ?_
          refine zi_iload_n (pc := 59) h (i := 1) zd_MO_begin_59 rfl 2 rfl ?_
          refine zi_iload (pc := 60) h (i := 4) zd_MO_begin_60 5 rfl ?_
          refine zi_callV (pc := 62) h (st := []) (zc_MO_permitted hb) zm_MO_permitted zw_715 zx_MO zq_k26 rfl ⟨by decide, by decide⟩ zd_MO_begin_62 (Nat.le_of_ble_eq_true rfl) rfl ?_
          refine zi_if_ne_f (pc := 65) h (tgt := 71) zd_MO_begin_65 rfl (by have e := hm; unfold zv_may zv_st at e; (try rw [if_neg b9] at e); (try rw [if_neg b22] at e); (try rw [if_neg b34] at e); (try rw [if_neg b50] at e); exact e) ?_
          refine zi_bipush (pc := 68) h zd_MO_begin_68 zq_bi_m5 ?_
          exact zi_ireturn (pc := 70) h hr zd_MO_begin_70 rfl rfl
        · intro b50
          refine zi_iload (pc := 53) h (i := 6) zd_MO_begin_53 0 rfl ?_
          refine zi_if_eq_t (pc := 55) h (tgt := 68) zd_MO_begin_55 rfl (by decide) ?_
          refine zi_bipush (pc := 68) h zd_MO_begin_68 zq_bi_m5 ?_
          exact zi_ireturn (pc := 70) h hr zd_MO_begin_70 rfl rfl
      · intro b34
        refine zi_aload_n (pc := 37) h (i := 0) zd_MO_begin_37 rfl 1 rfl ?_
        refine zi_get (pc := 38) h zx_MO 26 0 zq_k26 rfl zq_j_0_18 zw_584 rfl zd_MO_begin_38 ?_
        refine zi_bipush (pc := 41) h zd_MO_begin_41 zq_bi_10 ?_
        refine zi_iald (pc := 43) h 27 zq_k27 rfl zq_in_10_48 zd_MO_begin_43 ?_
        refine zi_if_eq (pc := 44) h (tgt := 68) zd_MO_begin_44 rfl ?_ ?_
        · intro b44
          refine zi_bipush (pc := 68) h zd_MO_begin_68 zq_bi_m5 ?_
          exact zi_ireturn (pc := 70) h hr zd_MO_begin_70 rfl rfl
        · intro b44
          refine zi_iload_n (pc := 47) h (i := 1) zd_MO_begin_47 rfl 2 rfl ?_
          refine zi_bipush (pc := 48) h zd_MO_begin_48 zq_bi_6 ?_
          refine zi_icmp_ne (pc := 50) h (tgt := 58) zd_MO_begin_50 rfl ?_ ?_
          · intro b50
            refine zi_aload_n (pc := 58) h (i := 0) zd_MO_begin_58 rfl 1 rfl ?_
            refine zi_iload_n (pc := 59) h (i := 1) zd_MO_begin_59 rfl 2 rfl ?_
            refine zi_iload (pc := 60) h (i := 4) zd_MO_begin_60 5 rfl ?_
            refine zi_callV (pc := 62) h (st := []) (zc_MO_permitted hb) zm_MO_permitted zw_715 zx_MO zq_k26 rfl ⟨by decide, by decide⟩ zd_MO_begin_62 (Nat.le_of_ble_eq_true rfl) rfl ?_
            refine zi_if_ne_f (pc := 65) h (tgt := 71) zd_MO_begin_65 rfl (by have e := hm; unfold zv_may zv_st at e; (try rw [if_neg b9] at e); (try rw [if_neg b22] at e); (try rw [if_pos b34] at e); (try rw [if_neg b44] at e); (try rw [if_neg b50] at e); exact e) ?_
            refine zi_bipush (pc := 68) h zd_MO_begin_68 zq_bi_m5 ?_
            exact zi_ireturn (pc := 70) h hr zd_MO_begin_70 rfl rfl
          · intro b50
            refine zi_iload (pc := 53) h (i := 6) zd_MO_begin_53 0 rfl ?_
            refine zi_if_eq_t (pc := 55) h (tgt := 68) zd_MO_begin_55 rfl (by decide) ?_
            refine zi_bipush (pc := 68) h zd_MO_begin_68 zq_bi_m5 ?_
            exact zi_ireturn (pc := 70) h hr zd_MO_begin_70 rfl rfl
    · intro b22
      refine zi_iconst (pc := 25) h zd_MO_begin_25 zq_ic_1 ?_
      refine zi_goto (pc := 26) h (tgt := 30) zd_MO_begin_26 rfl ?_
      refine zi_istore (pc := 30) h (i := 6) (L' := [(6, _), (0, _), (1, _), (2, _), (3, _), (4, _), (5, _)]) zd_MO_begin_30 (by decide) rfl ?_
      refine zi_iload_n (pc := 32) h (i := 1) zd_MO_begin_32 rfl 2 rfl ?_
      refine zi_iconst (pc := 33) h zd_MO_begin_33 zq_ic_1 ?_
      refine zi_icmp_ne (pc := 34) h (tgt := 47) zd_MO_begin_34 rfl ?_ ?_
      · intro b34
        refine zi_iload_n (pc := 47) h (i := 1) zd_MO_begin_47 rfl 2 rfl ?_
        refine zi_bipush (pc := 48) h zd_MO_begin_48 zq_bi_6 ?_
        refine zi_icmp_ne (pc := 50) h (tgt := 58) zd_MO_begin_50 rfl ?_ ?_
        · intro b50
          refine zi_aload_n (pc := 58) h (i := 0) zd_MO_begin_58 rfl 1 rfl ?_
          refine zi_iload_n (pc := 59) h (i := 1) zd_MO_begin_59 rfl 2 rfl ?_
          refine zi_iload (pc := 60) h (i := 4) zd_MO_begin_60 5 rfl ?_
          refine zi_callV (pc := 62) h (st := []) (zc_MO_permitted hb) zm_MO_permitted zw_715 zx_MO zq_k26 rfl ⟨by decide, by decide⟩ zd_MO_begin_62 (Nat.le_of_ble_eq_true rfl) rfl ?_
          refine zi_if_ne_f (pc := 65) h (tgt := 71) zd_MO_begin_65 rfl (by have e := hm; unfold zv_may zv_st at e; (try rw [if_neg b9] at e); (try rw [if_pos b22] at e); (try rw [if_neg b34] at e); (try rw [if_neg b50] at e); exact e) ?_
          refine zi_bipush (pc := 68) h zd_MO_begin_68 zq_bi_m5 ?_
          exact zi_ireturn (pc := 70) h hr zd_MO_begin_70 rfl rfl
        · intro b50
          refine zi_iload (pc := 53) h (i := 6) zd_MO_begin_53 0 rfl ?_
          refine zi_if_eq_f (pc := 55) h (tgt := 68) zd_MO_begin_55 rfl (by decide) ?_
          refine zi_aload_n (pc := 58) h (i := 0) zd_MO_begin_58 rfl 1 rfl ?_
          refine zi_iload_n (pc := 59) h (i := 1) zd_MO_begin_59 rfl 2 rfl ?_
          refine zi_iload (pc := 60) h (i := 4) zd_MO_begin_60 5 rfl ?_
          refine zi_callV (pc := 62) h (st := []) (zc_MO_permitted hb) zm_MO_permitted zw_715 zx_MO zq_k26 rfl ⟨by decide, by decide⟩ zd_MO_begin_62 (Nat.le_of_ble_eq_true rfl) rfl ?_
          refine zi_if_ne_f (pc := 65) h (tgt := 71) zd_MO_begin_65 rfl (by have e := hm; unfold zv_may zv_st at e; (try rw [if_neg b9] at e); (try rw [if_pos b22] at e); (try rw [if_neg b34] at e); (try rw [if_pos b50] at e); exact e) ?_
          refine zi_bipush (pc := 68) h zd_MO_begin_68 zq_bi_m5 ?_
          exact zi_ireturn (pc := 70) h hr zd_MO_begin_70 rfl rfl
      · intro b34
        refine zi_aload_n (pc := 37) h (i := 0) zd_MO_begin_37 rfl 1 rfl ?_
        refine zi_get (pc := 38) h zx_MO 26 0 zq_k26 rfl zq_j_0_18 zw_584 rfl zd_MO_begin_38 ?_
        refine zi_bipush (pc := 41) h zd_MO_begin_41 zq_bi_10 ?_
        refine zi_iald (pc := 43) h 27 zq_k27 rfl zq_in_10_48 zd_MO_begin_43 ?_
        refine zi_if_eq (pc := 44) h (tgt := 68) zd_MO_begin_44 rfl ?_ ?_
        · intro b44
          refine zi_bipush (pc := 68) h zd_MO_begin_68 zq_bi_m5 ?_
          exact zi_ireturn (pc := 70) h hr zd_MO_begin_70 rfl rfl
        · intro b44
          refine zi_iload_n (pc := 47) h (i := 1) zd_MO_begin_47 rfl 2 rfl ?_
          refine zi_bipush (pc := 48) h zd_MO_begin_48 zq_bi_6 ?_
          refine zi_icmp_ne (pc := 50) h (tgt := 58) zd_MO_begin_50 rfl ?_ ?_
          · intro b50
            refine zi_aload_n (pc := 58) h (i := 0) zd_MO_begin_58 rfl 1 rfl ?_
            refine zi_iload_n (pc := 59) h (i := 1) zd_MO_begin_59 rfl 2 rfl ?_
            refine zi_iload (pc := 60) h (i := 4) zd_MO_begin_60 5 rfl ?_
            refine zi_callV (pc := 62) h (st := []) (zc_MO_permitted hb) zm_MO_permitted zw_715 zx_MO zq_k26 rfl ⟨by decide, by decide⟩ zd_MO_begin_62 (Nat.le_of_ble_eq_true rfl) rfl ?_
            refine zi_if_ne_f (pc := 65) h (tgt := 71) zd_MO_begin_65 rfl (by have e := hm; unfold zv_may zv_st at e; (try rw [if_neg b9] at e); (try rw [if_pos b22] at e); (try rw [if_pos b34] at e); (try rw [if_neg b44] at e); (try rw [if_neg b50] at e); exact e) ?_
            refine zi_bipush (pc := 68) h zd_MO_begin_68 zq_bi_m5 ?_
            exact zi_ireturn (pc := 70) h hr zd_MO_begin_70 rfl rfl
          · intro b50
            refine zi_iload (pc := 53) h (i := 6) zd_MO_begin_53 0 rfl ?_
            refine zi_if_eq_f (pc := 55) h (tgt := 68) zd_MO_begin_55 rfl (by decide) ?_
            refine zi_aload_n (pc := 58) h (i := 0) zd_MO_begin_58 rfl 1 rfl ?_
            refine zi_iload_n (pc := 59) h (i := 1) zd_MO_begin_59 rfl 2 rfl ?_
            refine zi_iload (pc := 60) h (i := 4) zd_MO_begin_60 5 rfl ?_
            refine zi_callV (pc := 62) h (st := []) (zc_MO_permitted hb) zm_MO_permitted zw_715 zx_MO zq_k26 rfl ⟨by decide, by decide⟩ zd_MO_begin_62 (Nat.le_of_ble_eq_true rfl) rfl ?_
            refine zi_if_ne_f (pc := 65) h (tgt := 71) zd_MO_begin_65 rfl (by have e := hm; unfold zv_may zv_st at e; (try rw [if_neg b9] at e); (try rw [if_pos b22] at e); (try rw [if_pos b34] at e); (try rw [if_neg b44] at e); (try rw [if_pos b50] at e); exact e) ?_
            refine zi_bipush (pc := 68) h zd_MO_begin_68 zq_bi_m5 ?_
            exact zi_ireturn (pc := 70) h hr zd_MO_begin_70 rfl rfl

set_option maxRecDepth 20000 in
theorem zc_MO_begin_full {l : Launch} {G : zz_G} {F : Nat → va_E} {w : Nat → Int32} {sz : Int32} {la : Nat → Int32} {lz : Int32} {ra : Nat → Nat → Int32} {fa : Nat → Nat → Int32} {cd : Int32} {k a p o q : Int32} (hb : ∀ i, ra 3 i = 0 ∨ ra 3 i = 1) (hm : ¬ zv_may w ra k o = 0) : zz_M l zy_MO_begin zb_MO_begin 8 (some .int) 1 27 G [.ref (G.2.2 26), .int k, .int a, .int p, .int o, .int q] (zz_N G F w sz la lz ra (nI 12) fa cd) (some (.int (-6))) (zz_N G F w sz la lz ra (nI 12) fa cd) := by
  refine zz_M.of (by decide) (Nat.le_of_ble_eq_true rfl) ?_
  intro X hX h hr
  subst hX
  have h : zz_C X G (zz_A G.2.2) 8 zb_MO_begin "PortTranslatorModel" 1 27 0 0 := h
  refine zi_aload_n (pc := 0) h (i := 0) zd_MO_begin_0 rfl 0 rfl ?_
  refine zi_get (pc := 1) h zx_MO 26 0 zq_k26 rfl zq_j_0_18 zw_584 rfl zd_MO_begin_1 ?_
  refine zi_bipush (pc := 4) h zd_MO_begin_4 zq_bi_16 ?_
  refine zi_iald (pc := 6) h 27 zq_k27 rfl zq_in_16_48 zd_MO_begin_6 ?_
  refine zi_iconst (pc := 7) h zd_MO_begin_7 zq_ic_2 ?_
  refine zi_iand (pc := 8) h zd_MO_begin_8 ?_
  refine zi_if_eq (pc := 9) h (tgt := 29) zd_MO_begin_9 rfl ?_ ?_
  · intro b9
    refine zi_iconst (pc := 29) h zd_MO_begin_29 zq_ic_0 ?_
    refine zi_istore (pc := 30) h (i := 6) (L' := [(6, _), (0, _), (1, _), (2, _), (3, _), (4, _), (5, _)]) zd_MO_begin_30 (by decide) rfl ?_
    refine zi_iload_n (pc := 32) h (i := 1) zd_MO_begin_32 rfl 2 rfl ?_
    refine zi_iconst (pc := 33) h zd_MO_begin_33 zq_ic_1 ?_
    refine zi_icmp_ne (pc := 34) h (tgt := 47) zd_MO_begin_34 rfl ?_ ?_
    · intro b34
      refine zi_iload_n (pc := 47) h (i := 1) zd_MO_begin_47 rfl 2 rfl ?_
      refine zi_bipush (pc := 48) h zd_MO_begin_48 zq_bi_6 ?_
      refine zi_icmp_ne (pc := 50) h (tgt := 58) zd_MO_begin_50 rfl ?_ ?_
      · intro b50
        refine zi_aload_n (pc := 58) h (i := 0) zd_MO_begin_58 rfl 1 rfl ?_
        refine zi_iload_n (pc := 59) h (i := 1) zd_MO_begin_59 rfl 2 rfl ?_
        refine zi_iload (pc := 60) h (i := 4) zd_MO_begin_60 5 rfl ?_
        refine zi_callV (pc := 62) h (st := []) (zc_MO_permitted hb) zm_MO_permitted zw_715 zx_MO zq_k26 rfl ⟨by decide, by decide⟩ zd_MO_begin_62 (Nat.le_of_ble_eq_true rfl) rfl ?_
        refine zi_if_ne_t (pc := 65) h (tgt := 71) zd_MO_begin_65 rfl (by have e := hm; unfold zv_may zv_st at e; (try rw [if_pos b9] at e); (try rw [if_neg b34] at e); (try rw [if_neg b50] at e); exact e) ?_
        refine zi_aload_n (pc := 71) h (i := 0) zd_MO_begin_71 rfl 1 rfl ?_
        refine zi_iload_n (pc := 72) h (i := 1) zd_MO_begin_72 rfl 2 rfl ?_
        refine zi_iload_n (pc := 73) h (i := 2) zd_MO_begin_73 rfl 3 rfl ?_
        refine zi_iload_n (pc := 74) h (i := 3) zd_MO_begin_74 rfl 4 rfl ?_
        refine zi_callV (pc := 75) h (st := []) (zc_MO_portFor (Nat.le_refl 12)) zm_MO_portFor zw_719 zx_MO zq_k26 rfl ⟨by decide, by decide⟩ zd_MO_begin_75 (Nat.le_of_ble_eq_true rfl) rfl ?_
        refine zi_istore (pc := 78) h (i := 7) (L' := [(7, _), (6, _), (0, _), (1, _), (2, _), (3, _), (4, _), (5, _)]) zd_MO_begin_78 (by decide) rfl ?_
        refine zi_aload_n (pc := 80) h (i := 0) zd_MO_begin_80 rfl 2 rfl ?_
        refine zi_get (pc := 81) h zx_MO 26 8 zq_k26 rfl zq_j_8_18 zw_592 rfl zd_MO_begin_81 ?_
        refine zi_bipush (pc := 84) h zd_MO_begin_84 zq_bi_12 ?_
        refine zi_icmp_eq_t (pc := 86) h (tgt := 94) zd_MO_begin_86 rfl rfl ?_
        refine zi_bipush (pc := 94) h zd_MO_begin_94 zq_bi_m6 ?_
        exact zi_ireturn (pc := 96) h hr zd_MO_begin_96 rfl rfl
      · intro b50
        refine zi_iload (pc := 53) h (i := 6) zd_MO_begin_53 0 rfl ?_
        refine zi_if_eq_t (pc := 55) h (tgt := 68) zd_MO_begin_55 rfl (by decide) ?_
        exact absurd (by unfold zv_may zv_st; (try rw [if_pos b9]); (try rw [if_neg b34]); (try rw [if_pos b50]); (try rfl)) hm
    · intro b34
      refine zi_aload_n (pc := 37) h (i := 0) zd_MO_begin_37 rfl 1 rfl ?_
      refine zi_get (pc := 38) h zx_MO 26 0 zq_k26 rfl zq_j_0_18 zw_584 rfl zd_MO_begin_38 ?_
      refine zi_bipush (pc := 41) h zd_MO_begin_41 zq_bi_10 ?_
      refine zi_iald (pc := 43) h 27 zq_k27 rfl zq_in_10_48 zd_MO_begin_43 ?_
      refine zi_if_eq (pc := 44) h (tgt := 68) zd_MO_begin_44 rfl ?_ ?_
      · intro b44
        exact absurd (by unfold zv_may zv_st; (try rw [if_pos b9]); (try rw [if_pos b34]); (try rw [if_pos b44]); (try rfl)) hm
      · intro b44
        refine zi_iload_n (pc := 47) h (i := 1) zd_MO_begin_47 rfl 2 rfl ?_
        refine zi_bipush (pc := 48) h zd_MO_begin_48 zq_bi_6 ?_
        refine zi_icmp_ne (pc := 50) h (tgt := 58) zd_MO_begin_50 rfl ?_ ?_
        · intro b50
          refine zi_aload_n (pc := 58) h (i := 0) zd_MO_begin_58 rfl 1 rfl ?_
          refine zi_iload_n (pc := 59) h (i := 1) zd_MO_begin_59 rfl 2 rfl ?_
          refine zi_iload (pc := 60) h (i := 4) zd_MO_begin_60 5 rfl ?_
          refine zi_callV (pc := 62) h (st := []) (zc_MO_permitted hb) zm_MO_permitted zw_715 zx_MO zq_k26 rfl ⟨by decide, by decide⟩ zd_MO_begin_62 (Nat.le_of_ble_eq_true rfl) rfl ?_
          refine zi_if_ne_t (pc := 65) h (tgt := 71) zd_MO_begin_65 rfl (by have e := hm; unfold zv_may zv_st at e; (try rw [if_pos b9] at e); (try rw [if_pos b34] at e); (try rw [if_neg b44] at e); (try rw [if_neg b50] at e); exact e) ?_
          refine zi_aload_n (pc := 71) h (i := 0) zd_MO_begin_71 rfl 1 rfl ?_
          refine zi_iload_n (pc := 72) h (i := 1) zd_MO_begin_72 rfl 2 rfl ?_
          refine zi_iload_n (pc := 73) h (i := 2) zd_MO_begin_73 rfl 3 rfl ?_
          refine zi_iload_n (pc := 74) h (i := 3) zd_MO_begin_74 rfl 4 rfl ?_
          refine zi_callV (pc := 75) h (st := []) (zc_MO_portFor (Nat.le_refl 12)) zm_MO_portFor zw_719 zx_MO zq_k26 rfl ⟨by decide, by decide⟩ zd_MO_begin_75 (Nat.le_of_ble_eq_true rfl) rfl ?_
          refine zi_istore (pc := 78) h (i := 7) (L' := [(7, _), (6, _), (0, _), (1, _), (2, _), (3, _), (4, _), (5, _)]) zd_MO_begin_78 (by decide) rfl ?_
          refine zi_aload_n (pc := 80) h (i := 0) zd_MO_begin_80 rfl 2 rfl ?_
          refine zi_get (pc := 81) h zx_MO 26 8 zq_k26 rfl zq_j_8_18 zw_592 rfl zd_MO_begin_81 ?_
          refine zi_bipush (pc := 84) h zd_MO_begin_84 zq_bi_12 ?_
          refine zi_icmp_eq_t (pc := 86) h (tgt := 94) zd_MO_begin_86 rfl rfl ?_
          refine zi_bipush (pc := 94) h zd_MO_begin_94 zq_bi_m6 ?_
          exact zi_ireturn (pc := 96) h hr zd_MO_begin_96 rfl rfl
        · intro b50
          refine zi_iload (pc := 53) h (i := 6) zd_MO_begin_53 0 rfl ?_
          refine zi_if_eq_t (pc := 55) h (tgt := 68) zd_MO_begin_55 rfl (by decide) ?_
          exact absurd (by unfold zv_may zv_st; (try rw [if_pos b9]); (try rw [if_pos b34]); (try rw [if_neg b44]); (try rw [if_pos b50]); (try rfl)) hm
  · intro b9
    refine zi_aload_n (pc := 12) h (i := 0) zd_MO_begin_12 rfl 0 rfl ?_
    refine zi_get (pc := 13) h zx_MO 26 0 zq_k26 rfl zq_j_0_18 zw_584 rfl zd_MO_begin_13 ?_
    refine zi_bipush (pc := 16) h zd_MO_begin_16 zq_bi_16 ?_
    refine zi_iald (pc := 18) h 27 zq_k27 rfl zq_in_16_48 zd_MO_begin_18 ?_
    refine zi_bipush (pc := 19) h zd_MO_begin_19 zq_bi_20 ?_
    refine zi_iand (pc := 21) h zd_MO_begin_21 ?_
    refine zi_if_ne (pc := 22) h (tgt := 29) zd_MO_begin_22 rfl ?_ ?_
    · intro b22
      refine zi_iconst (pc := 29) h zd_MO_begin_29 zq_ic_0 ?_
      refine zi_istore (pc := 30) h (i := 6) (L' := [(6, _), (0, _), (1, _), (2, _), (3, _), (4, _), (5, _)]) zd_MO_begin_30 (by decide) rfl ?_
      refine zi_iload_n (pc := 32) h (i := 1) zd_MO_begin_32 rfl 2 rfl ?_
      refine zi_iconst (pc := 33) h zd_MO_begin_33 zq_ic_1 ?_
      refine zi_icmp_ne (pc := 34) h (tgt := 47) zd_MO_begin_34 rfl ?_ ?_
      · intro b34
        refine zi_iload_n (pc := 47) h (i := 1) zd_MO_begin_47 rfl 2 rfl ?_
        refine zi_bipush (pc := 48) h zd_MO_begin_48 zq_bi_6 ?_
        refine zi_icmp_ne (pc := 50) h (tgt := 58) zd_MO_begin_50 rfl ?_ ?_
        · intro b50
          refine zi_aload_n (pc := 58) h (i := 0) zd_MO_begin_58 rfl 1 rfl ?_
          refine zi_iload_n (pc := 59) h (i := 1) zd_MO_begin_59 rfl 2 rfl ?_
          refine zi_iload (pc := 60) h (i := 4) zd_MO_begin_60 5 rfl ?_
          refine zi_callV (pc := 62) h (st := []) (zc_MO_permitted hb) zm_MO_permitted zw_715 zx_MO zq_k26 rfl ⟨by decide, by decide⟩ zd_MO_begin_62 (Nat.le_of_ble_eq_true rfl) rfl ?_
          refine zi_if_ne_t (pc := 65) h (tgt := 71) zd_MO_begin_65 rfl (by have e := hm; unfold zv_may zv_st at e; (try rw [if_neg b9] at e); (try rw [if_neg b22] at e); (try rw [if_neg b34] at e); (try rw [if_neg b50] at e); exact e) ?_
          refine zi_aload_n (pc := 71) h (i := 0) zd_MO_begin_71 rfl 1 rfl ?_
          refine zi_iload_n (pc := 72) h (i := 1) zd_MO_begin_72 rfl 2 rfl ?_
          refine zi_iload_n (pc := 73) h (i := 2) zd_MO_begin_73 rfl 3 rfl ?_
          refine zi_iload_n (pc := 74) h (i := 3) zd_MO_begin_74 rfl 4 rfl ?_
          refine zi_callV (pc := 75) h (st := []) (zc_MO_portFor (Nat.le_refl 12)) zm_MO_portFor zw_719 zx_MO zq_k26 rfl ⟨by decide, by decide⟩ zd_MO_begin_75 (Nat.le_of_ble_eq_true rfl) rfl ?_
          refine zi_istore (pc := 78) h (i := 7) (L' := [(7, _), (6, _), (0, _), (1, _), (2, _), (3, _), (4, _), (5, _)]) zd_MO_begin_78 (by decide) rfl ?_
          refine zi_aload_n (pc := 80) h (i := 0) zd_MO_begin_80 rfl 2 rfl ?_
          refine zi_get (pc := 81) h zx_MO 26 8 zq_k26 rfl zq_j_8_18 zw_592 rfl zd_MO_begin_81 ?_
          refine zi_bipush (pc := 84) h zd_MO_begin_84 zq_bi_12 ?_
          refine zi_icmp_eq_t (pc := 86) h (tgt := 94) zd_MO_begin_86 rfl rfl ?_
          refine zi_bipush (pc := 94) h zd_MO_begin_94 zq_bi_m6 ?_
          exact zi_ireturn (pc := 96) h hr zd_MO_begin_96 rfl rfl
        · intro b50
          refine zi_iload (pc := 53) h (i := 6) zd_MO_begin_53 0 rfl ?_
          refine zi_if_eq_t (pc := 55) h (tgt := 68) zd_MO_begin_55 rfl (by decide) ?_
          exact absurd (by unfold zv_may zv_st; (try rw [if_neg b9]); (try rw [if_neg b22]); (try rw [if_neg b34]); (try rw [if_pos b50]); (try rfl)) hm
      · intro b34
        refine zi_aload_n (pc := 37) h (i := 0) zd_MO_begin_37 rfl 1 rfl ?_
        refine zi_get (pc := 38) h zx_MO 26 0 zq_k26 rfl zq_j_0_18 zw_584 rfl zd_MO_begin_38 ?_
        refine zi_bipush (pc := 41) h zd_MO_begin_41 zq_bi_10 ?_
        refine zi_iald (pc := 43) h 27 zq_k27 rfl zq_in_10_48 zd_MO_begin_43 ?_
        refine zi_if_eq (pc := 44) h (tgt := 68) zd_MO_begin_44 rfl ?_ ?_
        · intro b44
          exact absurd (by unfold zv_may zv_st; (try rw [if_neg b9]); (try rw [if_neg b22]); (try rw [if_pos b34]); (try rw [if_pos b44]); (try rfl)) hm
        · intro b44
          refine zi_iload_n (pc := 47) h (i := 1) zd_MO_begin_47 rfl 2 rfl ?_
          refine zi_bipush (pc := 48) h zd_MO_begin_48 zq_bi_6 ?_
          refine zi_icmp_ne (pc := 50) h (tgt := 58) zd_MO_begin_50 rfl ?_ ?_
          · intro b50
            refine zi_aload_n (pc := 58) h (i := 0) zd_MO_begin_58 rfl 1 rfl ?_
            refine zi_iload_n (pc := 59) h (i := 1) zd_MO_begin_59 rfl 2 rfl ?_
            refine zi_iload (pc := 60) h (i := 4) zd_MO_begin_60 5 rfl ?_
            refine zi_callV (pc := 62) h (st := []) (zc_MO_permitted hb) zm_MO_permitted zw_715 zx_MO zq_k26 rfl ⟨by decide, by decide⟩ zd_MO_begin_62 (Nat.le_of_ble_eq_true rfl) rfl ?_
            refine zi_if_ne_t (pc := 65) h (tgt := 71) zd_MO_begin_65 rfl (by have e := hm; unfold zv_may zv_st at e; (try rw [if_neg b9] at e); (try rw [if_neg b22] at e); (try rw [if_pos b34] at e); (try rw [if_neg b44] at e); (try rw [if_neg b50] at e); exact e) ?_
            refine zi_aload_n (pc := 71) h (i := 0) zd_MO_begin_71 rfl 1 rfl ?_
            refine zi_iload_n (pc := 72) h (i := 1) zd_MO_begin_72 rfl 2 rfl ?_
            refine zi_iload_n (pc := 73) h (i := 2) zd_MO_begin_73 rfl 3 rfl ?_
            refine zi_iload_n (pc := 74) h (i := 3) zd_MO_begin_74 rfl 4 rfl ?_
            refine zi_callV (pc := 75) h (st := []) (zc_MO_portFor (Nat.le_refl 12)) zm_MO_portFor zw_719 zx_MO zq_k26 rfl ⟨by decide, by decide⟩ zd_MO_begin_75 (Nat.le_of_ble_eq_true rfl) rfl ?_
            refine zi_istore (pc := 78) h (i := 7) (L' := [(7, _), (6, _), (0, _), (1, _), (2, _), (3, _), (4, _), (5, _)]) zd_MO_begin_78 (by decide) rfl ?_
            refine zi_aload_n (pc := 80) h (i := 0) zd_MO_begin_80 rfl 2 rfl ?_
            refine zi_get (pc := 81) h zx_MO 26 8 zq_k26 rfl zq_j_8_18 zw_592 rfl zd_MO_begin_81 ?_
            refine zi_bipush (pc := 84) h zd_MO_begin_84 zq_bi_12 ?_
            refine zi_icmp_eq_t (pc := 86) h (tgt := 94) zd_MO_begin_86 rfl rfl ?_
            refine zi_bipush (pc := 94) h zd_MO_begin_94 zq_bi_m6 ?_
            exact zi_ireturn (pc := 96) h hr zd_MO_begin_96 rfl rfl
          · intro b50
            refine zi_iload (pc := 53) h (i := 6) zd_MO_begin_53 0 rfl ?_
            refine zi_if_eq_t (pc := 55) h (tgt := 68) zd_MO_begin_55 rfl (by decide) ?_
            exact absurd (by unfold zv_may zv_st; (try rw [if_neg b9]); (try rw [if_neg b22]); (try rw [if_pos b34]); (try rw [if_neg b44]); (try rw [if_pos b50]); (try rfl)) hm
    · intro b22
      refine zi_iconst (pc := 25) h zd_MO_begin_25 zq_ic_1 ?_
      refine zi_goto (pc := 26) h (tgt := 30) zd_MO_begin_26 rfl ?_
      refine zi_istore (pc := 30) h (i := 6) (L' := [(6, _), (0, _), (1, _), (2, _), (3, _), (4, _), (5, _)]) zd_MO_begin_30 (by decide) rfl ?_
      refine zi_iload_n (pc := 32) h (i := 1) zd_MO_begin_32 rfl 2 rfl ?_
      refine zi_iconst (pc := 33) h zd_MO_begin_33 zq_ic_1 ?_
      refine zi_icmp_ne (pc := 34) h (tgt := 47) zd_MO_begin_34 rfl ?_ ?_
      · intro b34
        refine zi_iload_n (pc := 47) h (i := 1) zd_MO_begin_47 rfl 2 rfl ?_
        refine zi_bipush (pc := 48) h zd_MO_begin_48 zq_bi_6 ?_
        refine zi_icmp_ne (pc := 50) h (tgt := 58) zd_MO_begin_50 rfl ?_ ?_
        · intro b50
          refine zi_aload_n (pc := 58) h (i := 0) zd_MO_begin_58 rfl 1 rfl ?_
          refine zi_iload_n (pc := 59) h (i := 1) zd_MO_begin_59 rfl 2 rfl ?_
          refine zi_iload (pc := 60) h (i := 4) zd_MO_begin_60 5 rfl ?_
          refine zi_callV (pc := 62) h (st := []) (zc_MO_permitted hb) zm_MO_permitted zw_715 zx_MO zq_k26 rfl ⟨by decide, by decide⟩ zd_MO_begin_62 (Nat.le_of_ble_eq_true rfl) rfl ?_
          refine zi_if_ne_t (pc := 65) h (tgt := 71) zd_MO_begin_65 rfl (by have e := hm; unfold zv_may zv_st at e; (try rw [if_neg b9] at e); (try rw [if_pos b22] at e); (try rw [if_neg b34] at e); (try rw [if_neg b50] at e); exact e) ?_
          refine zi_aload_n (pc := 71) h (i := 0) zd_MO_begin_71 rfl 1 rfl ?_
          refine zi_iload_n (pc := 72) h (i := 1) zd_MO_begin_72 rfl 2 rfl ?_
          refine zi_iload_n (pc := 73) h (i := 2) zd_MO_begin_73 rfl 3 rfl ?_
          refine zi_iload_n (pc := 74) h (i := 3) zd_MO_begin_74 rfl 4 rfl ?_
          refine zi_callV (pc := 75) h (st := []) (zc_MO_portFor (Nat.le_refl 12)) zm_MO_portFor zw_719 zx_MO zq_k26 rfl ⟨by decide, by decide⟩ zd_MO_begin_75 (Nat.le_of_ble_eq_true rfl) rfl ?_
          refine zi_istore (pc := 78) h (i := 7) (L' := [(7, _), (6, _), (0, _), (1, _), (2, _), (3, _), (4, _), (5, _)]) zd_MO_begin_78 (by decide) rfl ?_
          refine zi_aload_n (pc := 80) h (i := 0) zd_MO_begin_80 rfl 2 rfl ?_
          refine zi_get (pc := 81) h zx_MO 26 8 zq_k26 rfl zq_j_8_18 zw_592 rfl zd_MO_begin_81 ?_
          refine zi_bipush (pc := 84) h zd_MO_begin_84 zq_bi_12 ?_
          refine zi_icmp_eq_t (pc := 86) h (tgt := 94) zd_MO_begin_86 rfl rfl ?_
          refine zi_bipush (pc := 94) h zd_MO_begin_94 zq_bi_m6 ?_
          exact zi_ireturn (pc := 96) h hr zd_MO_begin_96 rfl rfl
        · intro b50
          refine zi_iload (pc := 53) h (i := 6) zd_MO_begin_53 0 rfl ?_
          refine zi_if_eq_f (pc := 55) h (tgt := 68) zd_MO_begin_55 rfl (by decide) ?_
          refine zi_aload_n (pc := 58) h (i := 0) zd_MO_begin_58 rfl 1 rfl ?_
          refine zi_iload_n (pc := 59) h (i := 1) zd_MO_begin_59 rfl 2 rfl ?_
          refine zi_iload (pc := 60) h (i := 4) zd_MO_begin_60 5 rfl ?_
          refine zi_callV (pc := 62) h (st := []) (zc_MO_permitted hb) zm_MO_permitted zw_715 zx_MO zq_k26 rfl ⟨by decide, by decide⟩ zd_MO_begin_62 (Nat.le_of_ble_eq_true rfl) rfl ?_
          refine zi_if_ne_t (pc := 65) h (tgt := 71) zd_MO_begin_65 rfl (by have e := hm; unfold zv_may zv_st at e; (try rw [if_neg b9] at e); (try rw [if_pos b22] at e); (try rw [if_neg b34] at e); (try rw [if_pos b50] at e); exact e) ?_
          refine zi_aload_n (pc := 71) h (i := 0) zd_MO_begin_71 rfl 1 rfl ?_
          refine zi_iload_n (pc := 72) h (i := 1) zd_MO_begin_72 rfl 2 rfl ?_
          refine zi_iload_n (pc := 73) h (i := 2) zd_MO_begin_73 rfl 3 rfl ?_
          refine zi_iload_n (pc := 74) h (i := 3) zd_MO_begin_74 rfl 4 rfl ?_
          refine zi_callV (pc := 75) h (st := []) (zc_MO_portFor (Nat.le_refl 12)) zm_MO_portFor zw_719 zx_MO zq_k26 rfl ⟨by decide, by decide⟩ zd_MO_begin_75 (Nat.le_of_ble_eq_true rfl) rfl ?_
          refine zi_istore (pc := 78) h (i := 7) (L' := [(7, _), (6, _), (0, _), (1, _), (2, _), (3, _), (4, _), (5, _)]) zd_MO_begin_78 (by decide) rfl ?_
          refine zi_aload_n (pc := 80) h (i := 0) zd_MO_begin_80 rfl 2 rfl ?_
          refine zi_get (pc := 81) h zx_MO 26 8 zq_k26 rfl zq_j_8_18 zw_592 rfl zd_MO_begin_81 ?_
          refine zi_bipush (pc := 84) h zd_MO_begin_84 zq_bi_12 ?_
          refine zi_icmp_eq_t (pc := 86) h (tgt := 94) zd_MO_begin_86 rfl rfl ?_
          refine zi_bipush (pc := 94) h zd_MO_begin_94 zq_bi_m6 ?_
          exact zi_ireturn (pc := 96) h hr zd_MO_begin_96 rfl rfl
      · intro b34
        refine zi_aload_n (pc := 37) h (i := 0) zd_MO_begin_37 rfl 1 rfl ?_
        refine zi_get (pc := 38) h zx_MO 26 0 zq_k26 rfl zq_j_0_18 zw_584 rfl zd_MO_begin_38 ?_
        refine zi_bipush (pc := 41) h zd_MO_begin_41 zq_bi_10 ?_
        refine zi_iald (pc := 43) h 27 zq_k27 rfl zq_in_10_48 zd_MO_begin_43 ?_
        refine zi_if_eq (pc := 44) h (tgt := 68) zd_MO_begin_44 rfl ?_ ?_
        · intro b44
          exact absurd (by unfold zv_may zv_st; (try rw [if_neg b9]); (try rw [if_pos b22]); (try rw [if_pos b34]); (try rw [if_pos b44]); (try rfl)) hm
        · intro b44
          refine zi_iload_n (pc := 47) h (i := 1) zd_MO_begin_47 rfl 2 rfl ?_
          refine zi_bipush (pc := 48) h zd_MO_begin_48 zq_bi_6 ?_
          refine zi_icmp_ne (pc := 50) h (tgt := 58) zd_MO_begin_50 rfl ?_ ?_
          · intro b50
            refine zi_aload_n (pc := 58) h (i := 0) zd_MO_begin_58 rfl 1 rfl ?_
            refine zi_iload_n (pc := 59) h (i := 1) zd_MO_begin_59 rfl 2 rfl ?_
            refine zi_iload (pc := 60) h (i := 4) zd_MO_begin_60 5 rfl ?_
            refine zi_callV (pc := 62) h (st := []) (zc_MO_permitted hb) zm_MO_permitted zw_715 zx_MO zq_k26 rfl ⟨by decide, by decide⟩ zd_MO_begin_62 (Nat.le_of_ble_eq_true rfl) rfl ?_
            refine zi_if_ne_t (pc := 65) h (tgt := 71) zd_MO_begin_65 rfl (by have e := hm; unfold zv_may zv_st at e; (try rw [if_neg b9] at e); (try rw [if_pos b22] at e); (try rw [if_pos b34] at e); (try rw [if_neg b44] at e); (try rw [if_neg b50] at e); exact e) ?_
            refine zi_aload_n (pc := 71) h (i := 0) zd_MO_begin_71 rfl 1 rfl ?_
            refine zi_iload_n (pc := 72) h (i := 1) zd_MO_begin_72 rfl 2 rfl ?_
            refine zi_iload_n (pc := 73) h (i := 2) zd_MO_begin_73 rfl 3 rfl ?_
            refine zi_iload_n (pc := 74) h (i := 3) zd_MO_begin_74 rfl 4 rfl ?_
            refine zi_callV (pc := 75) h (st := []) (zc_MO_portFor (Nat.le_refl 12)) zm_MO_portFor zw_719 zx_MO zq_k26 rfl ⟨by decide, by decide⟩ zd_MO_begin_75 (Nat.le_of_ble_eq_true rfl) rfl ?_
            refine zi_istore (pc := 78) h (i := 7) (L' := [(7, _), (6, _), (0, _), (1, _), (2, _), (3, _), (4, _), (5, _)]) zd_MO_begin_78 (by decide) rfl ?_
            refine zi_aload_n (pc := 80) h (i := 0) zd_MO_begin_80 rfl 2 rfl ?_
            refine zi_get (pc := 81) h zx_MO 26 8 zq_k26 rfl zq_j_8_18 zw_592 rfl zd_MO_begin_81 ?_
            refine zi_bipush (pc := 84) h zd_MO_begin_84 zq_bi_12 ?_
            refine zi_icmp_eq_t (pc := 86) h (tgt := 94) zd_MO_begin_86 rfl rfl ?_
            refine zi_bipush (pc := 94) h zd_MO_begin_94 zq_bi_m6 ?_
            exact zi_ireturn (pc := 96) h hr zd_MO_begin_96 rfl rfl
          · intro b50
            refine zi_iload (pc := 53) h (i := 6) zd_MO_begin_53 0 rfl ?_
            refine zi_if_eq_f (pc := 55) h (tgt := 68) zd_MO_begin_55 rfl (by decide) ?_
            refine zi_aload_n (pc := 58) h (i := 0) zd_MO_begin_58 rfl 1 rfl ?_
            refine zi_iload_n (pc := 59) h (i := 1) zd_MO_begin_59 rfl 2 rfl ?_
            refine zi_iload (pc := 60) h (i := 4) zd_MO_begin_60 5 rfl ?_
            refine zi_callV (pc := 62) h (st := []) (zc_MO_permitted hb) zm_MO_permitted zw_715 zx_MO zq_k26 rfl ⟨by decide, by decide⟩ zd_MO_begin_62 (Nat.le_of_ble_eq_true rfl) rfl ?_
            refine zi_if_ne_t (pc := 65) h (tgt := 71) zd_MO_begin_65 rfl (by have e := hm; unfold zv_may zv_st at e; (try rw [if_neg b9] at e); (try rw [if_pos b22] at e); (try rw [if_pos b34] at e); (try rw [if_neg b44] at e); (try rw [if_pos b50] at e); exact e) ?_
            refine zi_aload_n (pc := 71) h (i := 0) zd_MO_begin_71 rfl 1 rfl ?_
            refine zi_iload_n (pc := 72) h (i := 1) zd_MO_begin_72 rfl 2 rfl ?_
            refine zi_iload_n (pc := 73) h (i := 2) zd_MO_begin_73 rfl 3 rfl ?_
            refine zi_iload_n (pc := 74) h (i := 3) zd_MO_begin_74 rfl 4 rfl ?_
            refine zi_callV (pc := 75) h (st := []) (zc_MO_portFor (Nat.le_refl 12)) zm_MO_portFor zw_719 zx_MO zq_k26 rfl ⟨by decide, by decide⟩ zd_MO_begin_75 (Nat.le_of_ble_eq_true rfl) rfl ?_
            refine zi_istore (pc := 78) h (i := 7) (L' := [(7, _), (6, _), (0, _), (1, _), (2, _), (3, _), (4, _), (5, _)]) zd_MO_begin_78 (by decide) rfl ?_
            refine zi_aload_n (pc := 80) h (i := 0) zd_MO_begin_80 rfl 2 rfl ?_
            refine zi_get (pc := 81) h zx_MO 26 8 zq_k26 rfl zq_j_8_18 zw_592 rfl zd_MO_begin_81 ?_
            refine zi_bipush (pc := 84) h zd_MO_begin_84 zq_bi_12 ?_
            refine zi_icmp_eq_t (pc := 86) h (tgt := 94) zd_MO_begin_86 rfl rfl ?_
            refine zi_bipush (pc := 94) h zd_MO_begin_94 zq_bi_m6 ?_
            exact zi_ireturn (pc := 96) h hr zd_MO_begin_96 rfl rfl

set_option maxRecDepth 20000 in
theorem zc_MO_begin_nop {l : Launch} {G : zz_G} {F : Nat → va_E} {w : Nat → Int32} {sz : Int32} {la : Nat → Int32} {lz : Int32} {ra : Nat → Nat → Int32} {fa : Nat → Nat → Int32} {cd : Int32} {c : Nat} {k a p o q : Int32} (hc2 : c < 12) (hb : ∀ i, ra 3 i = 0 ∨ ra 3 i = 1) (hm : ¬ zv_may w ra k o = 0) (hp : ¬ 0 ≤ zv_pf fa c k a p) : zz_M l zy_MO_begin zb_MO_begin 8 (some .int) 1 27 G [.ref (G.2.2 26), .int k, .int a, .int p, .int o, .int q] (zz_N G F w sz la lz ra (nI c) fa cd) (some (.int (-6))) (zz_N G F w sz la lz ra (nI c) fa cd) := by
  refine zz_M.of (by decide) (Nat.le_of_ble_eq_true rfl) ?_
  intro X hX h hr
  subst hX
  have h : zz_C X G (zz_A G.2.2) 8 zb_MO_begin "PortTranslatorModel" 1 27 0 0 := h
  have hc : c ≤ 12 := Nat.le_of_lt hc2
  refine zi_aload_n (pc := 0) h (i := 0) zd_MO_begin_0 rfl 0 rfl ?_
  refine zi_get (pc := 1) h zx_MO 26 0 zq_k26 rfl zq_j_0_18 zw_584 rfl zd_MO_begin_1 ?_
  refine zi_bipush (pc := 4) h zd_MO_begin_4 zq_bi_16 ?_
  refine zi_iald (pc := 6) h 27 zq_k27 rfl zq_in_16_48 zd_MO_begin_6 ?_
  refine zi_iconst (pc := 7) h zd_MO_begin_7 zq_ic_2 ?_
  refine zi_iand (pc := 8) h zd_MO_begin_8 ?_
  refine zi_if_eq (pc := 9) h (tgt := 29) zd_MO_begin_9 rfl ?_ ?_
  · intro b9
    refine zi_iconst (pc := 29) h zd_MO_begin_29 zq_ic_0 ?_
    refine zi_istore (pc := 30) h (i := 6) (L' := [(6, _), (0, _), (1, _), (2, _), (3, _), (4, _), (5, _)]) zd_MO_begin_30 (by decide) rfl ?_
    refine zi_iload_n (pc := 32) h (i := 1) zd_MO_begin_32 rfl 2 rfl ?_
    refine zi_iconst (pc := 33) h zd_MO_begin_33 zq_ic_1 ?_
    refine zi_icmp_ne (pc := 34) h (tgt := 47) zd_MO_begin_34 rfl ?_ ?_
    · intro b34
      refine zi_iload_n (pc := 47) h (i := 1) zd_MO_begin_47 rfl 2 rfl ?_
      refine zi_bipush (pc := 48) h zd_MO_begin_48 zq_bi_6 ?_
      refine zi_icmp_ne (pc := 50) h (tgt := 58) zd_MO_begin_50 rfl ?_ ?_
      · intro b50
        refine zi_aload_n (pc := 58) h (i := 0) zd_MO_begin_58 rfl 1 rfl ?_
        refine zi_iload_n (pc := 59) h (i := 1) zd_MO_begin_59 rfl 2 rfl ?_
        refine zi_iload (pc := 60) h (i := 4) zd_MO_begin_60 5 rfl ?_
        refine zi_callV (pc := 62) h (st := []) (zc_MO_permitted hb) zm_MO_permitted zw_715 zx_MO zq_k26 rfl ⟨by decide, by decide⟩ zd_MO_begin_62 (Nat.le_of_ble_eq_true rfl) rfl ?_
        refine zi_if_ne_t (pc := 65) h (tgt := 71) zd_MO_begin_65 rfl (by have e := hm; unfold zv_may zv_st at e; (try rw [if_pos b9] at e); (try rw [if_neg b34] at e); (try rw [if_neg b50] at e); exact e) ?_
        refine zi_aload_n (pc := 71) h (i := 0) zd_MO_begin_71 rfl 1 rfl ?_
        refine zi_iload_n (pc := 72) h (i := 1) zd_MO_begin_72 rfl 2 rfl ?_
        refine zi_iload_n (pc := 73) h (i := 2) zd_MO_begin_73 rfl 3 rfl ?_
        refine zi_iload_n (pc := 74) h (i := 3) zd_MO_begin_74 rfl 4 rfl ?_
        refine zi_callV (pc := 75) h (st := []) (zc_MO_portFor hc) zm_MO_portFor zw_719 zx_MO zq_k26 rfl ⟨by decide, by decide⟩ zd_MO_begin_75 (Nat.le_of_ble_eq_true rfl) rfl ?_
        refine zi_istore (pc := 78) h (i := 7) (L' := [(7, _), (6, _), (0, _), (1, _), (2, _), (3, _), (4, _), (5, _)]) zd_MO_begin_78 (by decide) rfl ?_
        refine zi_aload_n (pc := 80) h (i := 0) zd_MO_begin_80 rfl 2 rfl ?_
        refine zi_get (pc := 81) h zx_MO 26 8 zq_k26 rfl zq_j_8_18 zw_592 rfl zd_MO_begin_81 ?_
        refine zi_bipush (pc := 84) h zd_MO_begin_84 zq_bi_12 ?_
        refine zi_icmp_eq_f (pc := 86) h (tgt := 94) zd_MO_begin_86 rfl (fun e => absurd ((nI_eq (b := 12) (by omega) (by decide)).mp e) (by omega)) ?_
        refine zi_iload (pc := 89) h (i := 7) zd_MO_begin_89 0 rfl ?_
        refine zi_if_ge_f (pc := 91) h (tgt := 97) zd_MO_begin_91 rfl hp ?_
        refine zi_bipush (pc := 94) h zd_MO_begin_94 zq_bi_m6 ?_
        exact zi_ireturn (pc := 96) h hr zd_MO_begin_96 rfl rfl
      · intro b50
        refine zi_iload (pc := 53) h (i := 6) zd_MO_begin_53 0 rfl ?_
        refine zi_if_eq_t (pc := 55) h (tgt := 68) zd_MO_begin_55 rfl (by decide) ?_
        exact absurd (by unfold zv_may zv_st; (try rw [if_pos b9]); (try rw [if_neg b34]); (try rw [if_pos b50]); (try rfl)) hm
    · intro b34
      refine zi_aload_n (pc := 37) h (i := 0) zd_MO_begin_37 rfl 1 rfl ?_
      refine zi_get (pc := 38) h zx_MO 26 0 zq_k26 rfl zq_j_0_18 zw_584 rfl zd_MO_begin_38 ?_
      refine zi_bipush (pc := 41) h zd_MO_begin_41 zq_bi_10 ?_
      refine zi_iald (pc := 43) h 27 zq_k27 rfl zq_in_10_48 zd_MO_begin_43 ?_
      refine zi_if_eq (pc := 44) h (tgt := 68) zd_MO_begin_44 rfl ?_ ?_
      · intro b44
        exact absurd (by unfold zv_may zv_st; (try rw [if_pos b9]); (try rw [if_pos b34]); (try rw [if_pos b44]); (try rfl)) hm
      · intro b44
        refine zi_iload_n (pc := 47) h (i := 1) zd_MO_begin_47 rfl 2 rfl ?_
        refine zi_bipush (pc := 48) h zd_MO_begin_48 zq_bi_6 ?_
        refine zi_icmp_ne (pc := 50) h (tgt := 58) zd_MO_begin_50 rfl ?_ ?_
        · intro b50
          refine zi_aload_n (pc := 58) h (i := 0) zd_MO_begin_58 rfl 1 rfl ?_
          refine zi_iload_n (pc := 59) h (i := 1) zd_MO_begin_59 rfl 2 rfl ?_
          refine zi_iload (pc := 60) h (i := 4) zd_MO_begin_60 5 rfl ?_
          refine zi_callV (pc := 62) h (st := []) (zc_MO_permitted hb) zm_MO_permitted zw_715 zx_MO zq_k26 rfl ⟨by decide, by decide⟩ zd_MO_begin_62 (Nat.le_of_ble_eq_true rfl) rfl ?_
          refine zi_if_ne_t (pc := 65) h (tgt := 71) zd_MO_begin_65 rfl (by have e := hm; unfold zv_may zv_st at e; (try rw [if_pos b9] at e); (try rw [if_pos b34] at e); (try rw [if_neg b44] at e); (try rw [if_neg b50] at e); exact e) ?_
          refine zi_aload_n (pc := 71) h (i := 0) zd_MO_begin_71 rfl 1 rfl ?_
          refine zi_iload_n (pc := 72) h (i := 1) zd_MO_begin_72 rfl 2 rfl ?_
          refine zi_iload_n (pc := 73) h (i := 2) zd_MO_begin_73 rfl 3 rfl ?_
          refine zi_iload_n (pc := 74) h (i := 3) zd_MO_begin_74 rfl 4 rfl ?_
          refine zi_callV (pc := 75) h (st := []) (zc_MO_portFor hc) zm_MO_portFor zw_719 zx_MO zq_k26 rfl ⟨by decide, by decide⟩ zd_MO_begin_75 (Nat.le_of_ble_eq_true rfl) rfl ?_
          refine zi_istore (pc := 78) h (i := 7) (L' := [(7, _), (6, _), (0, _), (1, _), (2, _), (3, _), (4, _), (5, _)]) zd_MO_begin_78 (by decide) rfl ?_
          refine zi_aload_n (pc := 80) h (i := 0) zd_MO_begin_80 rfl 2 rfl ?_
          refine zi_get (pc := 81) h zx_MO 26 8 zq_k26 rfl zq_j_8_18 zw_592 rfl zd_MO_begin_81 ?_
          refine zi_bipush (pc := 84) h zd_MO_begin_84 zq_bi_12 ?_
          refine zi_icmp_eq_f (pc := 86) h (tgt := 94) zd_MO_begin_86 rfl (fun e => absurd ((nI_eq (b := 12) (by omega) (by decide)).mp e) (by omega)) ?_
          refine zi_iload (pc := 89) h (i := 7) zd_MO_begin_89 0 rfl ?_
          refine zi_if_ge_f (pc := 91) h (tgt := 97) zd_MO_begin_91 rfl hp ?_
          refine zi_bipush (pc := 94) h zd_MO_begin_94 zq_bi_m6 ?_
          exact zi_ireturn (pc := 96) h hr zd_MO_begin_96 rfl rfl
        · intro b50
          refine zi_iload (pc := 53) h (i := 6) zd_MO_begin_53 0 rfl ?_
          refine zi_if_eq_t (pc := 55) h (tgt := 68) zd_MO_begin_55 rfl (by decide) ?_
          exact absurd (by unfold zv_may zv_st; (try rw [if_pos b9]); (try rw [if_pos b34]); (try rw [if_neg b44]); (try rw [if_pos b50]); (try rfl)) hm
  · intro b9
    refine zi_aload_n (pc := 12) h (i := 0) zd_MO_begin_12 rfl 0 rfl ?_
    refine zi_get (pc := 13) h zx_MO 26 0 zq_k26 rfl zq_j_0_18 zw_584 rfl zd_MO_begin_13 ?_
    refine zi_bipush (pc := 16) h zd_MO_begin_16 zq_bi_16 ?_
    refine zi_iald (pc := 18) h 27 zq_k27 rfl zq_in_16_48 zd_MO_begin_18 ?_
    refine zi_bipush (pc := 19) h zd_MO_begin_19 zq_bi_20 ?_
    refine zi_iand (pc := 21) h zd_MO_begin_21 ?_
    refine zi_if_ne (pc := 22) h (tgt := 29) zd_MO_begin_22 rfl ?_ ?_
    · intro b22
      refine zi_iconst (pc := 29) h zd_MO_begin_29 zq_ic_0 ?_
      refine zi_istore (pc := 30) h (i := 6) (L' := [(6, _), (0, _), (1, _), (2, _), (3, _), (4, _), (5, _)]) zd_MO_begin_30 (by decide) rfl ?_
      refine zi_iload_n (pc := 32) h (i := 1) zd_MO_begin_32 rfl 2 rfl ?_
      refine zi_iconst (pc := 33) h zd_MO_begin_33 zq_ic_1 ?_
      refine zi_icmp_ne (pc := 34) h (tgt := 47) zd_MO_begin_34 rfl ?_ ?_
      · intro b34
        refine zi_iload_n (pc := 47) h (i := 1) zd_MO_begin_47 rfl 2 rfl ?_
        refine zi_bipush (pc := 48) h zd_MO_begin_48 zq_bi_6 ?_
        refine zi_icmp_ne (pc := 50) h (tgt := 58) zd_MO_begin_50 rfl ?_ ?_
        · intro b50
          refine zi_aload_n (pc := 58) h (i := 0) zd_MO_begin_58 rfl 1 rfl ?_
          refine zi_iload_n (pc := 59) h (i := 1) zd_MO_begin_59 rfl 2 rfl ?_
          refine zi_iload (pc := 60) h (i := 4) zd_MO_begin_60 5 rfl ?_
          refine zi_callV (pc := 62) h (st := []) (zc_MO_permitted hb) zm_MO_permitted zw_715 zx_MO zq_k26 rfl ⟨by decide, by decide⟩ zd_MO_begin_62 (Nat.le_of_ble_eq_true rfl) rfl ?_
          refine zi_if_ne_t (pc := 65) h (tgt := 71) zd_MO_begin_65 rfl (by have e := hm; unfold zv_may zv_st at e; (try rw [if_neg b9] at e); (try rw [if_neg b22] at e); (try rw [if_neg b34] at e); (try rw [if_neg b50] at e); exact e) ?_
          refine zi_aload_n (pc := 71) h (i := 0) zd_MO_begin_71 rfl 1 rfl ?_
          refine zi_iload_n (pc := 72) h (i := 1) zd_MO_begin_72 rfl 2 rfl ?_
          refine zi_iload_n (pc := 73) h (i := 2) zd_MO_begin_73 rfl 3 rfl ?_
          refine zi_iload_n (pc := 74) h (i := 3) zd_MO_begin_74 rfl 4 rfl ?_
          refine zi_callV (pc := 75) h (st := []) (zc_MO_portFor hc) zm_MO_portFor zw_719 zx_MO zq_k26 rfl ⟨by decide, by decide⟩ zd_MO_begin_75 (Nat.le_of_ble_eq_true rfl) rfl ?_
          refine zi_istore (pc := 78) h (i := 7) (L' := [(7, _), (6, _), (0, _), (1, _), (2, _), (3, _), (4, _), (5, _)]) zd_MO_begin_78 (by decide) rfl ?_
          refine zi_aload_n (pc := 80) h (i := 0) zd_MO_begin_80 rfl 2 rfl ?_
          refine zi_get (pc := 81) h zx_MO 26 8 zq_k26 rfl zq_j_8_18 zw_592 rfl zd_MO_begin_81 ?_
          refine zi_bipush (pc := 84) h zd_MO_begin_84 zq_bi_12 ?_
          refine zi_icmp_eq_f (pc := 86) h (tgt := 94) zd_MO_begin_86 rfl (fun e => absurd ((nI_eq (b := 12) (by omega) (by decide)).mp e) (by omega)) ?_
          refine zi_iload (pc := 89) h (i := 7) zd_MO_begin_89 0 rfl ?_
          refine zi_if_ge_f (pc := 91) h (tgt := 97) zd_MO_begin_91 rfl hp ?_
          refine zi_bipush (pc := 94) h zd_MO_begin_94 zq_bi_m6 ?_
          exact zi_ireturn (pc := 96) h hr zd_MO_begin_96 rfl rfl
        · intro b50
          refine zi_iload (pc := 53) h (i := 6) zd_MO_begin_53 0 rfl ?_
          refine zi_if_eq_t (pc := 55) h (tgt := 68) zd_MO_begin_55 rfl (by decide) ?_
          exact absurd (by unfold zv_may zv_st; (try rw [if_neg b9]); (try rw [if_neg b22]); (try rw [if_neg b34]); (try rw [if_pos b50]); (try rfl)) hm
      · intro b34
        refine zi_aload_n (pc := 37) h (i := 0) zd_MO_begin_37 rfl 1 rfl ?_
        refine zi_get (pc := 38) h zx_MO 26 0 zq_k26 rfl zq_j_0_18 zw_584 rfl zd_MO_begin_38 ?_
        refine zi_bipush (pc := 41) h zd_MO_begin_41 zq_bi_10 ?_
        refine zi_iald (pc := 43) h 27 zq_k27 rfl zq_in_10_48 zd_MO_begin_43 ?_
        refine zi_if_eq (pc := 44) h (tgt := 68) zd_MO_begin_44 rfl ?_ ?_
        · intro b44
          exact absurd (by unfold zv_may zv_st; (try rw [if_neg b9]); (try rw [if_neg b22]); (try rw [if_pos b34]); (try rw [if_pos b44]); (try rfl)) hm
        · intro b44
          refine zi_iload_n (pc := 47) h (i := 1) zd_MO_begin_47 rfl 2 rfl ?_
          refine zi_bipush (pc := 48) h zd_MO_begin_48 zq_bi_6 ?_
          refine zi_icmp_ne (pc := 50) h (tgt := 58) zd_MO_begin_50 rfl ?_ ?_
          · intro b50
            refine zi_aload_n (pc := 58) h (i := 0) zd_MO_begin_58 rfl 1 rfl ?_
            refine zi_iload_n (pc := 59) h (i := 1) zd_MO_begin_59 rfl 2 rfl ?_
            refine zi_iload (pc := 60) h (i := 4) zd_MO_begin_60 5 rfl ?_
            refine zi_callV (pc := 62) h (st := []) (zc_MO_permitted hb) zm_MO_permitted zw_715 zx_MO zq_k26 rfl ⟨by decide, by decide⟩ zd_MO_begin_62 (Nat.le_of_ble_eq_true rfl) rfl ?_
            refine zi_if_ne_t (pc := 65) h (tgt := 71) zd_MO_begin_65 rfl (by have e := hm; unfold zv_may zv_st at e; (try rw [if_neg b9] at e); (try rw [if_neg b22] at e); (try rw [if_pos b34] at e); (try rw [if_neg b44] at e); (try rw [if_neg b50] at e); exact e) ?_
            refine zi_aload_n (pc := 71) h (i := 0) zd_MO_begin_71 rfl 1 rfl ?_
            refine zi_iload_n (pc := 72) h (i := 1) zd_MO_begin_72 rfl 2 rfl ?_
            refine zi_iload_n (pc := 73) h (i := 2) zd_MO_begin_73 rfl 3 rfl ?_
            refine zi_iload_n (pc := 74) h (i := 3) zd_MO_begin_74 rfl 4 rfl ?_
            refine zi_callV (pc := 75) h (st := []) (zc_MO_portFor hc) zm_MO_portFor zw_719 zx_MO zq_k26 rfl ⟨by decide, by decide⟩ zd_MO_begin_75 (Nat.le_of_ble_eq_true rfl) rfl ?_
            refine zi_istore (pc := 78) h (i := 7) (L' := [(7, _), (6, _), (0, _), (1, _), (2, _), (3, _), (4, _), (5, _)]) zd_MO_begin_78 (by decide) rfl ?_
            refine zi_aload_n (pc := 80) h (i := 0) zd_MO_begin_80 rfl 2 rfl ?_
            refine zi_get (pc := 81) h zx_MO 26 8 zq_k26 rfl zq_j_8_18 zw_592 rfl zd_MO_begin_81 ?_
            refine zi_bipush (pc := 84) h zd_MO_begin_84 zq_bi_12 ?_
            refine zi_icmp_eq_f (pc := 86) h (tgt := 94) zd_MO_begin_86 rfl (fun e => absurd ((nI_eq (b := 12) (by omega) (by decide)).mp e) (by omega)) ?_
            refine zi_iload (pc := 89) h (i := 7) zd_MO_begin_89 0 rfl ?_
            refine zi_if_ge_f (pc := 91) h (tgt := 97) zd_MO_begin_91 rfl hp ?_
            refine zi_bipush (pc := 94) h zd_MO_begin_94 zq_bi_m6 ?_
            exact zi_ireturn (pc := 96) h hr zd_MO_begin_96 rfl rfl
          · intro b50
            refine zi_iload (pc := 53) h (i := 6) zd_MO_begin_53 0 rfl ?_
            refine zi_if_eq_t (pc := 55) h (tgt := 68) zd_MO_begin_55 rfl (by decide) ?_
            exact absurd (by unfold zv_may zv_st; (try rw [if_neg b9]); (try rw [if_neg b22]); (try rw [if_pos b34]); (try rw [if_neg b44]); (try rw [if_pos b50]); (try rfl)) hm
    · intro b22
      refine zi_iconst (pc := 25) h zd_MO_begin_25 zq_ic_1 ?_
      refine zi_goto (pc := 26) h (tgt := 30) zd_MO_begin_26 rfl ?_
      refine zi_istore (pc := 30) h (i := 6) (L' := [(6, _), (0, _), (1, _), (2, _), (3, _), (4, _), (5, _)]) zd_MO_begin_30 (by decide) rfl ?_
      refine zi_iload_n (pc := 32) h (i := 1) zd_MO_begin_32 rfl 2 rfl ?_
      refine zi_iconst (pc := 33) h zd_MO_begin_33 zq_ic_1 ?_
      refine zi_icmp_ne (pc := 34) h (tgt := 47) zd_MO_begin_34 rfl ?_ ?_
      · intro b34
        refine zi_iload_n (pc := 47) h (i := 1) zd_MO_begin_47 rfl 2 rfl ?_
        refine zi_bipush (pc := 48) h zd_MO_begin_48 zq_bi_6 ?_
        refine zi_icmp_ne (pc := 50) h (tgt := 58) zd_MO_begin_50 rfl ?_ ?_
        · intro b50
          refine zi_aload_n (pc := 58) h (i := 0) zd_MO_begin_58 rfl 1 rfl ?_
          refine zi_iload_n (pc := 59) h (i := 1) zd_MO_begin_59 rfl 2 rfl ?_
          refine zi_iload (pc := 60) h (i := 4) zd_MO_begin_60 5 rfl ?_
          refine zi_callV (pc := 62) h (st := []) (zc_MO_permitted hb) zm_MO_permitted zw_715 zx_MO zq_k26 rfl ⟨by decide, by decide⟩ zd_MO_begin_62 (Nat.le_of_ble_eq_true rfl) rfl ?_
          refine zi_if_ne_t (pc := 65) h (tgt := 71) zd_MO_begin_65 rfl (by have e := hm; unfold zv_may zv_st at e; (try rw [if_neg b9] at e); (try rw [if_pos b22] at e); (try rw [if_neg b34] at e); (try rw [if_neg b50] at e); exact e) ?_
          refine zi_aload_n (pc := 71) h (i := 0) zd_MO_begin_71 rfl 1 rfl ?_
          refine zi_iload_n (pc := 72) h (i := 1) zd_MO_begin_72 rfl 2 rfl ?_
          refine zi_iload_n (pc := 73) h (i := 2) zd_MO_begin_73 rfl 3 rfl ?_
          refine zi_iload_n (pc := 74) h (i := 3) zd_MO_begin_74 rfl 4 rfl ?_
          refine zi_callV (pc := 75) h (st := []) (zc_MO_portFor hc) zm_MO_portFor zw_719 zx_MO zq_k26 rfl ⟨by decide, by decide⟩ zd_MO_begin_75 (Nat.le_of_ble_eq_true rfl) rfl ?_
          refine zi_istore (pc := 78) h (i := 7) (L' := [(7, _), (6, _), (0, _), (1, _), (2, _), (3, _), (4, _), (5, _)]) zd_MO_begin_78 (by decide) rfl ?_
          refine zi_aload_n (pc := 80) h (i := 0) zd_MO_begin_80 rfl 2 rfl ?_
          refine zi_get (pc := 81) h zx_MO 26 8 zq_k26 rfl zq_j_8_18 zw_592 rfl zd_MO_begin_81 ?_
          refine zi_bipush (pc := 84) h zd_MO_begin_84 zq_bi_12 ?_
          refine zi_icmp_eq_f (pc := 86) h (tgt := 94) zd_MO_begin_86 rfl (fun e => absurd ((nI_eq (b := 12) (by omega) (by decide)).mp e) (by omega)) ?_
          refine zi_iload (pc := 89) h (i := 7) zd_MO_begin_89 0 rfl ?_
          refine zi_if_ge_f (pc := 91) h (tgt := 97) zd_MO_begin_91 rfl hp ?_
          refine zi_bipush (pc := 94) h zd_MO_begin_94 zq_bi_m6 ?_
          exact zi_ireturn (pc := 96) h hr zd_MO_begin_96 rfl rfl
        · intro b50
          refine zi_iload (pc := 53) h (i := 6) zd_MO_begin_53 0 rfl ?_
          refine zi_if_eq_f (pc := 55) h (tgt := 68) zd_MO_begin_55 rfl (by decide) ?_
          refine zi_aload_n (pc := 58) h (i := 0) zd_MO_begin_58 rfl 1 rfl ?_
          refine zi_iload_n (pc := 59) h (i := 1) zd_MO_begin_59 rfl 2 rfl ?_
          refine zi_iload (pc := 60) h (i := 4) zd_MO_begin_60 5 rfl ?_
          refine zi_callV (pc := 62) h (st := []) (zc_MO_permitted hb) zm_MO_permitted zw_715 zx_MO zq_k26 rfl ⟨by decide, by decide⟩ zd_MO_begin_62 (Nat.le_of_ble_eq_true rfl) rfl ?_
          refine zi_if_ne_t (pc := 65) h (tgt := 71) zd_MO_begin_65 rfl (by have e := hm; unfold zv_may zv_st at e; (try rw [if_neg b9] at e); (try rw [if_pos b22] at e); (try rw [if_neg b34] at e); (try rw [if_pos b50] at e); exact e) ?_
          refine zi_aload_n (pc := 71) h (i := 0) zd_MO_begin_71 rfl 1 rfl ?_
          refine zi_iload_n (pc := 72) h (i := 1) zd_MO_begin_72 rfl 2 rfl ?_
          refine zi_iload_n (pc := 73) h (i := 2) zd_MO_begin_73 rfl 3 rfl ?_
          refine zi_iload_n (pc := 74) h (i := 3) zd_MO_begin_74 rfl 4 rfl ?_
          refine zi_callV (pc := 75) h (st := []) (zc_MO_portFor hc) zm_MO_portFor zw_719 zx_MO zq_k26 rfl ⟨by decide, by decide⟩ zd_MO_begin_75 (Nat.le_of_ble_eq_true rfl) rfl ?_
          refine zi_istore (pc := 78) h (i := 7) (L' := [(7, _), (6, _), (0, _), (1, _), (2, _), (3, _), (4, _), (5, _)]) zd_MO_begin_78 (by decide) rfl ?_
          refine zi_aload_n (pc := 80) h (i := 0) zd_MO_begin_80 rfl 2 rfl ?_
          refine zi_get (pc := 81) h zx_MO 26 8 zq_k26 rfl zq_j_8_18 zw_592 rfl zd_MO_begin_81 ?_
          refine zi_bipush (pc := 84) h zd_MO_begin_84 zq_bi_12 ?_
          refine zi_icmp_eq_f (pc := 86) h (tgt := 94) zd_MO_begin_86 rfl (fun e => absurd ((nI_eq (b := 12) (by omega) (by decide)).mp e) (by omega)) ?_
          refine zi_iload (pc := 89) h (i := 7) zd_MO_begin_89 0 rfl ?_
          refine zi_if_ge_f (pc := 91) h (tgt := 97) zd_MO_begin_91 rfl hp ?_
          refine zi_bipush (pc := 94) h zd_MO_begin_94 zq_bi_m6 ?_
          exact zi_ireturn (pc := 96) h hr zd_MO_begin_96 rfl rfl
      · intro b34
        refine zi_aload_n (pc := 37) h (i := 0) zd_MO_begin_37 rfl 1 rfl ?_
        refine zi_get (pc := 38) h zx_MO 26 0 zq_k26 rfl zq_j_0_18 zw_584 rfl zd_MO_begin_38 ?_
        refine zi_bipush (pc := 41) h zd_MO_begin_41 zq_bi_10 ?_
        refine zi_iald (pc := 43) h 27 zq_k27 rfl zq_in_10_48 zd_MO_begin_43 ?_
        refine zi_if_eq (pc := 44) h (tgt := 68) zd_MO_begin_44 rfl ?_ ?_
        · intro b44
          exact absurd (by unfold zv_may zv_st; (try rw [if_neg b9]); (try rw [if_pos b22]); (try rw [if_pos b34]); (try rw [if_pos b44]); (try rfl)) hm
        · intro b44
          refine zi_iload_n (pc := 47) h (i := 1) zd_MO_begin_47 rfl 2 rfl ?_
          refine zi_bipush (pc := 48) h zd_MO_begin_48 zq_bi_6 ?_
          refine zi_icmp_ne (pc := 50) h (tgt := 58) zd_MO_begin_50 rfl ?_ ?_
          · intro b50
            refine zi_aload_n (pc := 58) h (i := 0) zd_MO_begin_58 rfl 1 rfl ?_
            refine zi_iload_n (pc := 59) h (i := 1) zd_MO_begin_59 rfl 2 rfl ?_
            refine zi_iload (pc := 60) h (i := 4) zd_MO_begin_60 5 rfl ?_
            refine zi_callV (pc := 62) h (st := []) (zc_MO_permitted hb) zm_MO_permitted zw_715 zx_MO zq_k26 rfl ⟨by decide, by decide⟩ zd_MO_begin_62 (Nat.le_of_ble_eq_true rfl) rfl ?_
            refine zi_if_ne_t (pc := 65) h (tgt := 71) zd_MO_begin_65 rfl (by have e := hm; unfold zv_may zv_st at e; (try rw [if_neg b9] at e); (try rw [if_pos b22] at e); (try rw [if_pos b34] at e); (try rw [if_neg b44] at e); (try rw [if_neg b50] at e); exact e) ?_
            refine zi_aload_n (pc := 71) h (i := 0) zd_MO_begin_71 rfl 1 rfl ?_
            refine zi_iload_n (pc := 72) h (i := 1) zd_MO_begin_72 rfl 2 rfl ?_
            refine zi_iload_n (pc := 73) h (i := 2) zd_MO_begin_73 rfl 3 rfl ?_
            refine zi_iload_n (pc := 74) h (i := 3) zd_MO_begin_74 rfl 4 rfl ?_
            refine zi_callV (pc := 75) h (st := []) (zc_MO_portFor hc) zm_MO_portFor zw_719 zx_MO zq_k26 rfl ⟨by decide, by decide⟩ zd_MO_begin_75 (Nat.le_of_ble_eq_true rfl) rfl ?_
            refine zi_istore (pc := 78) h (i := 7) (L' := [(7, _), (6, _), (0, _), (1, _), (2, _), (3, _), (4, _), (5, _)]) zd_MO_begin_78 (by decide) rfl ?_
            refine zi_aload_n (pc := 80) h (i := 0) zd_MO_begin_80 rfl 2 rfl ?_
            refine zi_get (pc := 81) h zx_MO 26 8 zq_k26 rfl zq_j_8_18 zw_592 rfl zd_MO_begin_81 ?_
            refine zi_bipush (pc := 84) h zd_MO_begin_84 zq_bi_12 ?_
            refine zi_icmp_eq_f (pc := 86) h (tgt := 94) zd_MO_begin_86 rfl (fun e => absurd ((nI_eq (b := 12) (by omega) (by decide)).mp e) (by omega)) ?_
            refine zi_iload (pc := 89) h (i := 7) zd_MO_begin_89 0 rfl ?_
            refine zi_if_ge_f (pc := 91) h (tgt := 97) zd_MO_begin_91 rfl hp ?_
            refine zi_bipush (pc := 94) h zd_MO_begin_94 zq_bi_m6 ?_
            exact zi_ireturn (pc := 96) h hr zd_MO_begin_96 rfl rfl
          · intro b50
            refine zi_iload (pc := 53) h (i := 6) zd_MO_begin_53 0 rfl ?_
            refine zi_if_eq_f (pc := 55) h (tgt := 68) zd_MO_begin_55 rfl (by decide) ?_
            refine zi_aload_n (pc := 58) h (i := 0) zd_MO_begin_58 rfl 1 rfl ?_
            refine zi_iload_n (pc := 59) h (i := 1) zd_MO_begin_59 rfl 2 rfl ?_
            refine zi_iload (pc := 60) h (i := 4) zd_MO_begin_60 5 rfl ?_
            refine zi_callV (pc := 62) h (st := []) (zc_MO_permitted hb) zm_MO_permitted zw_715 zx_MO zq_k26 rfl ⟨by decide, by decide⟩ zd_MO_begin_62 (Nat.le_of_ble_eq_true rfl) rfl ?_
            refine zi_if_ne_t (pc := 65) h (tgt := 71) zd_MO_begin_65 rfl (by have e := hm; unfold zv_may zv_st at e; (try rw [if_neg b9] at e); (try rw [if_pos b22] at e); (try rw [if_pos b34] at e); (try rw [if_neg b44] at e); (try rw [if_pos b50] at e); exact e) ?_
            refine zi_aload_n (pc := 71) h (i := 0) zd_MO_begin_71 rfl 1 rfl ?_
            refine zi_iload_n (pc := 72) h (i := 1) zd_MO_begin_72 rfl 2 rfl ?_
            refine zi_iload_n (pc := 73) h (i := 2) zd_MO_begin_73 rfl 3 rfl ?_
            refine zi_iload_n (pc := 74) h (i := 3) zd_MO_begin_74 rfl 4 rfl ?_
            refine zi_callV (pc := 75) h (st := []) (zc_MO_portFor hc) zm_MO_portFor zw_719 zx_MO zq_k26 rfl ⟨by decide, by decide⟩ zd_MO_begin_75 (Nat.le_of_ble_eq_true rfl) rfl ?_
            refine zi_istore (pc := 78) h (i := 7) (L' := [(7, _), (6, _), (0, _), (1, _), (2, _), (3, _), (4, _), (5, _)]) zd_MO_begin_78 (by decide) rfl ?_
            refine zi_aload_n (pc := 80) h (i := 0) zd_MO_begin_80 rfl 2 rfl ?_
            refine zi_get (pc := 81) h zx_MO 26 8 zq_k26 rfl zq_j_8_18 zw_592 rfl zd_MO_begin_81 ?_
            refine zi_bipush (pc := 84) h zd_MO_begin_84 zq_bi_12 ?_
            refine zi_icmp_eq_f (pc := 86) h (tgt := 94) zd_MO_begin_86 rfl (fun e => absurd ((nI_eq (b := 12) (by omega) (by decide)).mp e) (by omega)) ?_
            refine zi_iload (pc := 89) h (i := 7) zd_MO_begin_89 0 rfl ?_
            refine zi_if_ge_f (pc := 91) h (tgt := 97) zd_MO_begin_91 rfl hp ?_
            refine zi_bipush (pc := 94) h zd_MO_begin_94 zq_bi_m6 ?_
            exact zi_ireturn (pc := 96) h hr zd_MO_begin_96 rfl rfl

set_option maxRecDepth 20000 in
theorem zc_MO_begin_ok {l : Launch} {G : zz_G} {F : Nat → va_E} {w : Nat → Int32} {sz : Int32} {la : Nat → Int32} {lz : Int32} {ra : Nat → Nat → Int32} {fa : Nat → Nat → Int32} {cd : Int32} {c : Nat} {k a p o q : Int32} (hc2 : c < 12) (hb : ∀ i, ra 3 i = 0 ∨ ra 3 i = 1) (hm : ¬ zv_may w ra k o = 0) (hp : 0 ≤ zv_pf fa c k a p) : zz_M l zy_MO_begin zb_MO_begin 8 (some .int) 1 27 G [.ref (G.2.2 26), .int k, .int a, .int p, .int o, .int q] (zz_N G F w sz la lz ra (nI c) fa cd) (some (.int (nI c))) (zz_N G F w sz la lz ra (nI (c + 1)) (zv_add fa c k a p o q (zv_pf fa c k a p)) cd) := by
  refine zz_M.of (by decide) (Nat.le_of_ble_eq_true rfl) ?_
  intro X hX h hr
  subst hX
  have h : zz_C X G (zz_A G.2.2) 8 zb_MO_begin "PortTranslatorModel" 1 27 0 0 := h
  have hc : c ≤ 12 := Nat.le_of_lt hc2
  refine zi_aload_n (pc := 0) h (i := 0) zd_MO_begin_0 rfl 0 rfl ?_
  refine zi_get (pc := 1) h zx_MO 26 0 zq_k26 rfl zq_j_0_18 zw_584 rfl zd_MO_begin_1 ?_
  refine zi_bipush (pc := 4) h zd_MO_begin_4 zq_bi_16 ?_
  refine zi_iald (pc := 6) h 27 zq_k27 rfl zq_in_16_48 zd_MO_begin_6 ?_
  refine zi_iconst (pc := 7) h zd_MO_begin_7 zq_ic_2 ?_
  refine zi_iand (pc := 8) h zd_MO_begin_8 ?_
  refine zi_if_eq (pc := 9) h (tgt := 29) zd_MO_begin_9 rfl ?_ ?_
  · intro b9
    refine zi_iconst (pc := 29) h zd_MO_begin_29 zq_ic_0 ?_
    refine zi_istore (pc := 30) h (i := 6) (L' := [(6, _), (0, _), (1, _), (2, _), (3, _), (4, _), (5, _)]) zd_MO_begin_30 (by decide) rfl ?_
    refine zi_iload_n (pc := 32) h (i := 1) zd_MO_begin_32 rfl 2 rfl ?_
    refine zi_iconst (pc := 33) h zd_MO_begin_33 zq_ic_1 ?_
    refine zi_icmp_ne (pc := 34) h (tgt := 47) zd_MO_begin_34 rfl ?_ ?_
    · intro b34
      refine zi_iload_n (pc := 47) h (i := 1) zd_MO_begin_47 rfl 2 rfl ?_
      refine zi_bipush (pc := 48) h zd_MO_begin_48 zq_bi_6 ?_
      refine zi_icmp_ne (pc := 50) h (tgt := 58) zd_MO_begin_50 rfl ?_ ?_
      · intro b50
        refine zi_aload_n (pc := 58) h (i := 0) zd_MO_begin_58 rfl 1 rfl ?_
        refine zi_iload_n (pc := 59) h (i := 1) zd_MO_begin_59 rfl 2 rfl ?_
        refine zi_iload (pc := 60) h (i := 4) zd_MO_begin_60 5 rfl ?_
        refine zi_callV (pc := 62) h (st := []) (zc_MO_permitted hb) zm_MO_permitted zw_715 zx_MO zq_k26 rfl ⟨by decide, by decide⟩ zd_MO_begin_62 (Nat.le_of_ble_eq_true rfl) rfl ?_
        refine zi_if_ne_t (pc := 65) h (tgt := 71) zd_MO_begin_65 rfl (by have e := hm; unfold zv_may zv_st at e; (try rw [if_pos b9] at e); (try rw [if_neg b34] at e); (try rw [if_neg b50] at e); exact e) ?_
        refine zi_aload_n (pc := 71) h (i := 0) zd_MO_begin_71 rfl 1 rfl ?_
        refine zi_iload_n (pc := 72) h (i := 1) zd_MO_begin_72 rfl 2 rfl ?_
        refine zi_iload_n (pc := 73) h (i := 2) zd_MO_begin_73 rfl 3 rfl ?_
        refine zi_iload_n (pc := 74) h (i := 3) zd_MO_begin_74 rfl 4 rfl ?_
        refine zi_callV (pc := 75) h (st := []) (zc_MO_portFor hc) zm_MO_portFor zw_719 zx_MO zq_k26 rfl ⟨by decide, by decide⟩ zd_MO_begin_75 (Nat.le_of_ble_eq_true rfl) rfl ?_
        refine zi_istore (pc := 78) h (i := 7) (L' := [(7, _), (6, _), (0, _), (1, _), (2, _), (3, _), (4, _), (5, _)]) zd_MO_begin_78 (by decide) rfl ?_
        refine zi_aload_n (pc := 80) h (i := 0) zd_MO_begin_80 rfl 2 rfl ?_
        refine zi_get (pc := 81) h zx_MO 26 8 zq_k26 rfl zq_j_8_18 zw_592 rfl zd_MO_begin_81 ?_
        refine zi_bipush (pc := 84) h zd_MO_begin_84 zq_bi_12 ?_
        refine zi_icmp_eq_f (pc := 86) h (tgt := 94) zd_MO_begin_86 rfl (fun e => absurd ((nI_eq (b := 12) (by omega) (by decide)).mp e) (by omega)) ?_
        refine zi_iload (pc := 89) h (i := 7) zd_MO_begin_89 0 rfl ?_
        refine zi_if_ge_t (pc := 91) h (tgt := 97) zd_MO_begin_91 rfl hp ?_
        refine zi_aload_n (pc := 97) h (i := 0) zd_MO_begin_97 rfl 2 rfl ?_
        refine zi_get (pc := 98) h zx_MO 26 9 zq_k26 rfl zq_j_9_18 zw_593 rfl zd_MO_begin_98 ?_
        refine zi_aload_n (pc := 101) h (i := 0) zd_MO_begin_101 rfl 2 rfl ?_
        refine zi_get (pc := 102) h zx_MO 26 8 zq_k26 rfl zq_j_8_18 zw_592 rfl zd_MO_begin_102 ?_
        refine zi_iload_n (pc := 105) h (i := 1) zd_MO_begin_105 rfl 3 rfl ?_
        refine zi_iast (pc := 106) h (f := (fa 0)) 33 zq_k33 rfl (zz_ixN (j := c) hc2) zd_MO_begin_106 zn_u_f0 ?_
        refine zi_aload_n (pc := 107) h (i := 0) zd_MO_begin_107 rfl 2 rfl ?_
        refine zi_get (pc := 108) h zx_MO 26 10 zq_k26 rfl zq_j_10_18 zw_594 rfl zd_MO_begin_108 ?_
        refine zi_aload_n (pc := 111) h (i := 0) zd_MO_begin_111 rfl 2 rfl ?_
        refine zi_get (pc := 112) h zx_MO 26 8 zq_k26 rfl zq_j_8_18 zw_592 rfl zd_MO_begin_112 ?_
        refine zi_iload_n (pc := 115) h (i := 2) zd_MO_begin_115 rfl 4 rfl ?_
        refine zi_iast (pc := 116) h (f := (fa 1)) 34 zq_k34 rfl (zz_ixN (j := c) hc2) zd_MO_begin_116 zn_u_f1 ?_
        refine zi_aload_n (pc := 117) h (i := 0) zd_MO_begin_117 rfl 2 rfl ?_
        refine zi_get (pc := 118) h zx_MO 26 11 zq_k26 rfl zq_j_11_18 zw_595 rfl zd_MO_begin_118 ?_
        refine zi_aload_n (pc := 121) h (i := 0) zd_MO_begin_121 rfl 2 rfl ?_
        refine zi_get (pc := 122) h zx_MO 26 8 zq_k26 rfl zq_j_8_18 zw_592 rfl zd_MO_begin_122 ?_
        refine zi_iload_n (pc := 125) h (i := 3) zd_MO_begin_125 rfl 5 rfl ?_
        refine zi_iast (pc := 126) h (f := (fa 2)) 35 zq_k35 rfl (zz_ixN (j := c) hc2) zd_MO_begin_126 zn_u_f2 ?_
        refine zi_aload_n (pc := 127) h (i := 0) zd_MO_begin_127 rfl 2 rfl ?_
        refine zi_get (pc := 128) h zx_MO 26 12 zq_k26 rfl zq_j_12_18 zw_596 rfl zd_MO_begin_128 ?_
        refine zi_aload_n (pc := 131) h (i := 0) zd_MO_begin_131 rfl 2 rfl ?_
        refine zi_get (pc := 132) h zx_MO 26 8 zq_k26 rfl zq_j_8_18 zw_592 rfl zd_MO_begin_132 ?_
        refine zi_iload (pc := 135) h (i := 4) zd_MO_begin_135 6 rfl ?_
        refine zi_iast (pc := 137) h (f := (fa 3)) 36 zq_k36 rfl (zz_ixN (j := c) hc2) zd_MO_begin_137 zn_u_f3 ?_
        refine zi_aload_n (pc := 138) h (i := 0) zd_MO_begin_138 rfl 2 rfl ?_
        refine zi_get (pc := 139) h zx_MO 26 13 zq_k26 rfl zq_j_13_18 zw_597 rfl zd_MO_begin_139 ?_
        refine zi_aload_n (pc := 142) h (i := 0) zd_MO_begin_142 rfl 2 rfl ?_
        refine zi_get (pc := 143) h zx_MO 26 8 zq_k26 rfl zq_j_8_18 zw_592 rfl zd_MO_begin_143 ?_
        refine zi_iload (pc := 146) h (i := 5) zd_MO_begin_146 7 rfl ?_
        refine zi_iast (pc := 148) h (f := (fa 4)) 37 zq_k37 rfl (zz_ixN (j := c) hc2) zd_MO_begin_148 zn_u_f4 ?_
        refine zi_aload_n (pc := 149) h (i := 0) zd_MO_begin_149 rfl 2 rfl ?_
        refine zi_get (pc := 150) h zx_MO 26 14 zq_k26 rfl zq_j_14_18 zw_598 rfl zd_MO_begin_150 ?_
        refine zi_aload_n (pc := 153) h (i := 0) zd_MO_begin_153 rfl 2 rfl ?_
        refine zi_get (pc := 154) h zx_MO 26 8 zq_k26 rfl zq_j_8_18 zw_592 rfl zd_MO_begin_154 ?_
        refine zi_iload (pc := 157) h (i := 7) zd_MO_begin_157 0 rfl ?_
        refine zi_iast (pc := 159) h (f := (fa 5)) 38 zq_k38 rfl (zz_ixN (j := c) hc2) zd_MO_begin_159 zn_u_f5 ?_
        refine zi_aload_n (pc := 160) h (i := 0) zd_MO_begin_160 rfl 2 rfl ?_
        refine zi_get (pc := 161) h zx_MO 26 15 zq_k26 rfl zq_j_15_18 zw_599 rfl zd_MO_begin_161 ?_
        refine zi_aload_n (pc := 164) h (i := 0) zd_MO_begin_164 rfl 2 rfl ?_
        refine zi_get (pc := 165) h zx_MO 26 8 zq_k26 rfl zq_j_8_18 zw_592 rfl zd_MO_begin_165 ?_
        refine zi_iconst (pc := 168) h zd_MO_begin_168 zq_ic_0 ?_
        refine zi_iast (pc := 169) h (f := (fa 6)) 39 zq_k39 rfl (zz_ixN (j := c) hc2) zd_MO_begin_169 zn_u_f6 ?_
        refine zi_aload_n (pc := 170) h (i := 0) zd_MO_begin_170 rfl 2 rfl ?_
        refine zi_get (pc := 171) h zx_MO 26 16 zq_k26 rfl zq_j_16_18 zw_600 rfl zd_MO_begin_171 ?_
        refine zi_aload_n (pc := 174) h (i := 0) zd_MO_begin_174 rfl 2 rfl ?_
        refine zi_get (pc := 175) h zx_MO 26 8 zq_k26 rfl zq_j_8_18 zw_592 rfl zd_MO_begin_175 ?_
        refine zi_iconst (pc := 178) h zd_MO_begin_178 zq_ic_0 ?_
        refine zi_iast (pc := 179) h (f := (fa 7)) 40 zq_k40 rfl (zz_ixN (j := c) hc2) zd_MO_begin_179 zn_u_f7 ?_
        refine zi_aload_n (pc := 180) h (i := 0) zd_MO_begin_180 rfl 2 rfl ?_
        refine zi_dup (pc := 181) h zd_MO_begin_181 rfl ?_
        refine zi_get (pc := 182) h zx_MO 26 8 zq_k26 rfl zq_j_8_18 zw_592 rfl zd_MO_begin_182 ?_
        refine zi_iconst (pc := 185) h zd_MO_begin_185 zq_ic_1 ?_
        refine zi_iadd (pc := 186) h zd_MO_begin_186 ?_
        refine zi_topv (nI (c + 1)) (nI_1 c) ?_
        refine zi_put (pc := 187) h zx_MO 26 8 zq_k26 rfl zq_j_8_18 zw_592 rfl rfl rfl (Nat.le_of_ble_eq_true rfl) zd_MO_begin_187 zn_u_fn ?_
        refine zi_aload_n (pc := 190) h (i := 0) zd_MO_begin_190 rfl 2 rfl ?_
        refine zi_get (pc := 191) h zx_MO 26 8 zq_k26 rfl zq_j_8_18 zw_592 rfl zd_MO_begin_191 ?_
        refine zi_iconst (pc := 194) h zd_MO_begin_194 zq_ic_1 ?_
        refine zi_isub (pc := 195) h zd_MO_begin_195 ?_
        refine zi_topv (nI c) (nI_pred c) ?_
        exact zi_ireturn (pc := 196) h hr zd_MO_begin_196 rfl rfl
      · intro b50
        refine zi_iload (pc := 53) h (i := 6) zd_MO_begin_53 0 rfl ?_
        refine zi_if_eq_t (pc := 55) h (tgt := 68) zd_MO_begin_55 rfl (by decide) ?_
        exact absurd (by unfold zv_may zv_st; (try rw [if_pos b9]); (try rw [if_neg b34]); (try rw [if_pos b50]); (try rfl)) hm
    · intro b34
      refine zi_aload_n (pc := 37) h (i := 0) zd_MO_begin_37 rfl 1 rfl ?_
      refine zi_get (pc := 38) h zx_MO 26 0 zq_k26 rfl zq_j_0_18 zw_584 rfl zd_MO_begin_38 ?_
      refine zi_bipush (pc := 41) h zd_MO_begin_41 zq_bi_10 ?_
      refine zi_iald (pc := 43) h 27 zq_k27 rfl zq_in_10_48 zd_MO_begin_43 ?_
      refine zi_if_eq (pc := 44) h (tgt := 68) zd_MO_begin_44 rfl ?_ ?_
      · intro b44
        exact absurd (by unfold zv_may zv_st; (try rw [if_pos b9]); (try rw [if_pos b34]); (try rw [if_pos b44]); (try rfl)) hm
      · intro b44
        refine zi_iload_n (pc := 47) h (i := 1) zd_MO_begin_47 rfl 2 rfl ?_
        refine zi_bipush (pc := 48) h zd_MO_begin_48 zq_bi_6 ?_
        refine zi_icmp_ne (pc := 50) h (tgt := 58) zd_MO_begin_50 rfl ?_ ?_
        · intro b50
          refine zi_aload_n (pc := 58) h (i := 0) zd_MO_begin_58 rfl 1 rfl ?_
          refine zi_iload_n (pc := 59) h (i := 1) zd_MO_begin_59 rfl 2 rfl ?_
          refine zi_iload (pc := 60) h (i := 4) zd_MO_begin_60 5 rfl ?_
          refine zi_callV (pc := 62) h (st := []) (zc_MO_permitted hb) zm_MO_permitted zw_715 zx_MO zq_k26 rfl ⟨by decide, by decide⟩ zd_MO_begin_62 (Nat.le_of_ble_eq_true rfl) rfl ?_
          refine zi_if_ne_t (pc := 65) h (tgt := 71) zd_MO_begin_65 rfl (by have e := hm; unfold zv_may zv_st at e; (try rw [if_pos b9] at e); (try rw [if_pos b34] at e); (try rw [if_neg b44] at e); (try rw [if_neg b50] at e); exact e) ?_
          refine zi_aload_n (pc := 71) h (i := 0) zd_MO_begin_71 rfl 1 rfl ?_
          refine zi_iload_n (pc := 72) h (i := 1) zd_MO_begin_72 rfl 2 rfl ?_
          refine zi_iload_n (pc := 73) h (i := 2) zd_MO_begin_73 rfl 3 rfl ?_
          refine zi_iload_n (pc := 74) h (i := 3) zd_MO_begin_74 rfl 4 rfl ?_
          refine zi_callV (pc := 75) h (st := []) (zc_MO_portFor hc) zm_MO_portFor zw_719 zx_MO zq_k26 rfl ⟨by decide, by decide⟩ zd_MO_begin_75 (Nat.le_of_ble_eq_true rfl) rfl ?_
          refine zi_istore (pc := 78) h (i := 7) (L' := [(7, _), (6, _), (0, _), (1, _), (2, _), (3, _), (4, _), (5, _)]) zd_MO_begin_78 (by decide) rfl ?_
          refine zi_aload_n (pc := 80) h (i := 0) zd_MO_begin_80 rfl 2 rfl ?_
          refine zi_get (pc := 81) h zx_MO 26 8 zq_k26 rfl zq_j_8_18 zw_592 rfl zd_MO_begin_81 ?_
          refine zi_bipush (pc := 84) h zd_MO_begin_84 zq_bi_12 ?_
          refine zi_icmp_eq_f (pc := 86) h (tgt := 94) zd_MO_begin_86 rfl (fun e => absurd ((nI_eq (b := 12) (by omega) (by decide)).mp e) (by omega)) ?_
          refine zi_iload (pc := 89) h (i := 7) zd_MO_begin_89 0 rfl ?_
          refine zi_if_ge_t (pc := 91) h (tgt := 97) zd_MO_begin_91 rfl hp ?_
          refine zi_aload_n (pc := 97) h (i := 0) zd_MO_begin_97 rfl 2 rfl ?_
          refine zi_get (pc := 98) h zx_MO 26 9 zq_k26 rfl zq_j_9_18 zw_593 rfl zd_MO_begin_98 ?_
          refine zi_aload_n (pc := 101) h (i := 0) zd_MO_begin_101 rfl 2 rfl ?_
          refine zi_get (pc := 102) h zx_MO 26 8 zq_k26 rfl zq_j_8_18 zw_592 rfl zd_MO_begin_102 ?_
          refine zi_iload_n (pc := 105) h (i := 1) zd_MO_begin_105 rfl 3 rfl ?_
          refine zi_iast (pc := 106) h (f := (fa 0)) 33 zq_k33 rfl (zz_ixN (j := c) hc2) zd_MO_begin_106 zn_u_f0 ?_
          refine zi_aload_n (pc := 107) h (i := 0) zd_MO_begin_107 rfl 2 rfl ?_
          refine zi_get (pc := 108) h zx_MO 26 10 zq_k26 rfl zq_j_10_18 zw_594 rfl zd_MO_begin_108 ?_
          refine zi_aload_n (pc := 111) h (i := 0) zd_MO_begin_111 rfl 2 rfl ?_
          refine zi_get (pc := 112) h zx_MO 26 8 zq_k26 rfl zq_j_8_18 zw_592 rfl zd_MO_begin_112 ?_
          refine zi_iload_n (pc := 115) h (i := 2) zd_MO_begin_115 rfl 4 rfl ?_
          refine zi_iast (pc := 116) h (f := (fa 1)) 34 zq_k34 rfl (zz_ixN (j := c) hc2) zd_MO_begin_116 zn_u_f1 ?_
          refine zi_aload_n (pc := 117) h (i := 0) zd_MO_begin_117 rfl 2 rfl ?_
          refine zi_get (pc := 118) h zx_MO 26 11 zq_k26 rfl zq_j_11_18 zw_595 rfl zd_MO_begin_118 ?_
          refine zi_aload_n (pc := 121) h (i := 0) zd_MO_begin_121 rfl 2 rfl ?_
          refine zi_get (pc := 122) h zx_MO 26 8 zq_k26 rfl zq_j_8_18 zw_592 rfl zd_MO_begin_122 ?_
          refine zi_iload_n (pc := 125) h (i := 3) zd_MO_begin_125 rfl 5 rfl ?_
          refine zi_iast (pc := 126) h (f := (fa 2)) 35 zq_k35 rfl (zz_ixN (j := c) hc2) zd_MO_begin_126 zn_u_f2 ?_
          refine zi_aload_n (pc := 127) h (i := 0) zd_MO_begin_127 rfl 2 rfl ?_
          refine zi_get (pc := 128) h zx_MO 26 12 zq_k26 rfl zq_j_12_18 zw_596 rfl zd_MO_begin_128 ?_
          refine zi_aload_n (pc := 131) h (i := 0) zd_MO_begin_131 rfl 2 rfl ?_
          refine zi_get (pc := 132) h zx_MO 26 8 zq_k26 rfl zq_j_8_18 zw_592 rfl zd_MO_begin_132 ?_
          refine zi_iload (pc := 135) h (i := 4) zd_MO_begin_135 6 rfl ?_
          refine zi_iast (pc := 137) h (f := (fa 3)) 36 zq_k36 rfl (zz_ixN (j := c) hc2) zd_MO_begin_137 zn_u_f3 ?_
          refine zi_aload_n (pc := 138) h (i := 0) zd_MO_begin_138 rfl 2 rfl ?_
          refine zi_get (pc := 139) h zx_MO 26 13 zq_k26 rfl zq_j_13_18 zw_597 rfl zd_MO_begin_139 ?_
          refine zi_aload_n (pc := 142) h (i := 0) zd_MO_begin_142 rfl 2 rfl ?_
          refine zi_get (pc := 143) h zx_MO 26 8 zq_k26 rfl zq_j_8_18 zw_592 rfl zd_MO_begin_143 ?_
          refine zi_iload (pc := 146) h (i := 5) zd_MO_begin_146 7 rfl ?_
          refine zi_iast (pc := 148) h (f := (fa 4)) 37 zq_k37 rfl (zz_ixN (j := c) hc2) zd_MO_begin_148 zn_u_f4 ?_
          refine zi_aload_n (pc := 149) h (i := 0) zd_MO_begin_149 rfl 2 rfl ?_
          refine zi_get (pc := 150) h zx_MO 26 14 zq_k26 rfl zq_j_14_18 zw_598 rfl zd_MO_begin_150 ?_
          refine zi_aload_n (pc := 153) h (i := 0) zd_MO_begin_153 rfl 2 rfl ?_
          refine zi_get (pc := 154) h zx_MO 26 8 zq_k26 rfl zq_j_8_18 zw_592 rfl zd_MO_begin_154 ?_
          refine zi_iload (pc := 157) h (i := 7) zd_MO_begin_157 0 rfl ?_
          refine zi_iast (pc := 159) h (f := (fa 5)) 38 zq_k38 rfl (zz_ixN (j := c) hc2) zd_MO_begin_159 zn_u_f5 ?_
          refine zi_aload_n (pc := 160) h (i := 0) zd_MO_begin_160 rfl 2 rfl ?_
          refine zi_get (pc := 161) h zx_MO 26 15 zq_k26 rfl zq_j_15_18 zw_599 rfl zd_MO_begin_161 ?_
          refine zi_aload_n (pc := 164) h (i := 0) zd_MO_begin_164 rfl 2 rfl ?_
          refine zi_get (pc := 165) h zx_MO 26 8 zq_k26 rfl zq_j_8_18 zw_592 rfl zd_MO_begin_165 ?_
          refine zi_iconst (pc := 168) h zd_MO_begin_168 zq_ic_0 ?_
          refine zi_iast (pc := 169) h (f := (fa 6)) 39 zq_k39 rfl (zz_ixN (j := c) hc2) zd_MO_begin_169 zn_u_f6 ?_
          refine zi_aload_n (pc := 170) h (i := 0) zd_MO_begin_170 rfl 2 rfl ?_
          refine zi_get (pc := 171) h zx_MO 26 16 zq_k26 rfl zq_j_16_18 zw_600 rfl zd_MO_begin_171 ?_
          refine zi_aload_n (pc := 174) h (i := 0) zd_MO_begin_174 rfl 2 rfl ?_
          refine zi_get (pc := 175) h zx_MO 26 8 zq_k26 rfl zq_j_8_18 zw_592 rfl zd_MO_begin_175 ?_
          refine zi_iconst (pc := 178) h zd_MO_begin_178 zq_ic_0 ?_
          refine zi_iast (pc := 179) h (f := (fa 7)) 40 zq_k40 rfl (zz_ixN (j := c) hc2) zd_MO_begin_179 zn_u_f7 ?_
          refine zi_aload_n (pc := 180) h (i := 0) zd_MO_begin_180 rfl 2 rfl ?_
          refine zi_dup (pc := 181) h zd_MO_begin_181 rfl ?_
          refine zi_get (pc := 182) h zx_MO 26 8 zq_k26 rfl zq_j_8_18 zw_592 rfl zd_MO_begin_182 ?_
          refine zi_iconst (pc := 185) h zd_MO_begin_185 zq_ic_1 ?_
          refine zi_iadd (pc := 186) h zd_MO_begin_186 ?_
          refine zi_topv (nI (c + 1)) (nI_1 c) ?_
          refine zi_put (pc := 187) h zx_MO 26 8 zq_k26 rfl zq_j_8_18 zw_592 rfl rfl rfl (Nat.le_of_ble_eq_true rfl) zd_MO_begin_187 zn_u_fn ?_
          refine zi_aload_n (pc := 190) h (i := 0) zd_MO_begin_190 rfl 2 rfl ?_
          refine zi_get (pc := 191) h zx_MO 26 8 zq_k26 rfl zq_j_8_18 zw_592 rfl zd_MO_begin_191 ?_
          refine zi_iconst (pc := 194) h zd_MO_begin_194 zq_ic_1 ?_
          refine zi_isub (pc := 195) h zd_MO_begin_195 ?_
          refine zi_topv (nI c) (nI_pred c) ?_
          exact zi_ireturn (pc := 196) h hr zd_MO_begin_196 rfl rfl
        · intro b50
          refine zi_iload (pc := 53) h (i := 6) zd_MO_begin_53 0 rfl ?_
          refine zi_if_eq_t (pc := 55) h (tgt := 68) zd_MO_begin_55 rfl (by decide) ?_
          exact absurd (by unfold zv_may zv_st; (try rw [if_pos b9]); (try rw [if_pos b34]); (try rw [if_neg b44]); (try rw [if_pos b50]); (try rfl)) hm
  · intro b9
    refine zi_aload_n (pc := 12) h (i := 0) zd_MO_begin_12 rfl 0 rfl ?_
    refine zi_get (pc := 13) h zx_MO 26 0 zq_k26 rfl zq_j_0_18 zw_584 rfl zd_MO_begin_13 ?_
    refine zi_bipush (pc := 16) h zd_MO_begin_16 zq_bi_16 ?_
    refine zi_iald (pc := 18) h 27 zq_k27 rfl zq_in_16_48 zd_MO_begin_18 ?_
    refine zi_bipush (pc := 19) h zd_MO_begin_19 zq_bi_20 ?_
    refine zi_iand (pc := 21) h zd_MO_begin_21 ?_
    refine zi_if_ne (pc := 22) h (tgt := 29) zd_MO_begin_22 rfl ?_ ?_
    · intro b22
      refine zi_iconst (pc := 29) h zd_MO_begin_29 zq_ic_0 ?_
      refine zi_istore (pc := 30) h (i := 6) (L' := [(6, _), (0, _), (1, _), (2, _), (3, _), (4, _), (5, _)]) zd_MO_begin_30 (by decide) rfl ?_
      refine zi_iload_n (pc := 32) h (i := 1) zd_MO_begin_32 rfl 2 rfl ?_
      refine zi_iconst (pc := 33) h zd_MO_begin_33 zq_ic_1 ?_
      refine zi_icmp_ne (pc := 34) h (tgt := 47) zd_MO_begin_34 rfl ?_ ?_
      · intro b34
        refine zi_iload_n (pc := 47) h (i := 1) zd_MO_begin_47 rfl 2 rfl ?_
        refine zi_bipush (pc := 48) h zd_MO_begin_48 zq_bi_6 ?_
        refine zi_icmp_ne (pc := 50) h (tgt := 58) zd_MO_begin_50 rfl ?_ ?_
        · intro b50
          refine zi_aload_n (pc := 58) h (i := 0) zd_MO_begin_58 rfl 1 rfl ?_
          refine zi_iload_n (pc := 59) h (i := 1) zd_MO_begin_59 rfl 2 rfl ?_
          refine zi_iload (pc := 60) h (i := 4) zd_MO_begin_60 5 rfl ?_
          refine zi_callV (pc := 62) h (st := []) (zc_MO_permitted hb) zm_MO_permitted zw_715 zx_MO zq_k26 rfl ⟨by decide, by decide⟩ zd_MO_begin_62 (Nat.le_of_ble_eq_true rfl) rfl ?_
          refine zi_if_ne_t (pc := 65) h (tgt := 71) zd_MO_begin_65 rfl (by have e := hm; unfold zv_may zv_st at e; (try rw [if_neg b9] at e); (try rw [if_neg b22] at e); (try rw [if_neg b34] at e); (try rw [if_neg b50] at e); exact e) ?_
          refine zi_aload_n (pc := 71) h (i := 0) zd_MO_begin_71 rfl 1 rfl ?_
          refine zi_iload_n (pc := 72) h (i := 1) zd_MO_begin_72 rfl 2 rfl ?_
          refine zi_iload_n (pc := 73) h (i := 2) zd_MO_begin_73 rfl 3 rfl ?_
          refine zi_iload_n (pc := 74) h (i := 3) zd_MO_begin_74 rfl 4 rfl ?_
          refine zi_callV (pc := 75) h (st := []) (zc_MO_portFor hc) zm_MO_portFor zw_719 zx_MO zq_k26 rfl ⟨by decide, by decide⟩ zd_MO_begin_75 (Nat.le_of_ble_eq_true rfl) rfl ?_
          refine zi_istore (pc := 78) h (i := 7) (L' := [(7, _), (6, _), (0, _), (1, _), (2, _), (3, _), (4, _), (5, _)]) zd_MO_begin_78 (by decide) rfl ?_
          refine zi_aload_n (pc := 80) h (i := 0) zd_MO_begin_80 rfl 2 rfl ?_
          refine zi_get (pc := 81) h zx_MO 26 8 zq_k26 rfl zq_j_8_18 zw_592 rfl zd_MO_begin_81 ?_
          refine zi_bipush (pc := 84) h zd_MO_begin_84 zq_bi_12 ?_
          refine zi_icmp_eq_f (pc := 86) h (tgt := 94) zd_MO_begin_86 rfl (fun e => absurd ((nI_eq (b := 12) (by omega) (by decide)).mp e) (by omega)) ?_
          refine zi_iload (pc := 89) h (i := 7) zd_MO_begin_89 0 rfl ?_
          refine zi_if_ge_t (pc := 91) h (tgt := 97) zd_MO_begin_91 rfl hp ?_
          refine zi_aload_n (pc := 97) h (i := 0) zd_MO_begin_97 rfl 2 rfl ?_
          refine zi_get (pc := 98) h zx_MO 26 9 zq_k26 rfl zq_j_9_18 zw_593 rfl zd_MO_begin_98 ?_
          refine zi_aload_n (pc := 101) h (i := 0) zd_MO_begin_101 rfl 2 rfl ?_
          refine zi_get (pc := 102) h zx_MO 26 8 zq_k26 rfl zq_j_8_18 zw_592 rfl zd_MO_begin_102 ?_
          refine zi_iload_n (pc := 105) h (i := 1) zd_MO_begin_105 rfl 3 rfl ?_
          refine zi_iast (pc := 106) h (f := (fa 0)) 33 zq_k33 rfl (zz_ixN (j := c) hc2) zd_MO_begin_106 zn_u_f0 ?_
          refine zi_aload_n (pc := 107) h (i := 0) zd_MO_begin_107 rfl 2 rfl ?_
          refine zi_get (pc := 108) h zx_MO 26 10 zq_k26 rfl zq_j_10_18 zw_594 rfl zd_MO_begin_108 ?_
          refine zi_aload_n (pc := 111) h (i := 0) zd_MO_begin_111 rfl 2 rfl ?_
          refine zi_get (pc := 112) h zx_MO 26 8 zq_k26 rfl zq_j_8_18 zw_592 rfl zd_MO_begin_112 ?_
          refine zi_iload_n (pc := 115) h (i := 2) zd_MO_begin_115 rfl 4 rfl ?_
          refine zi_iast (pc := 116) h (f := (fa 1)) 34 zq_k34 rfl (zz_ixN (j := c) hc2) zd_MO_begin_116 zn_u_f1 ?_
          refine zi_aload_n (pc := 117) h (i := 0) zd_MO_begin_117 rfl 2 rfl ?_
          refine zi_get (pc := 118) h zx_MO 26 11 zq_k26 rfl zq_j_11_18 zw_595 rfl zd_MO_begin_118 ?_
          refine zi_aload_n (pc := 121) h (i := 0) zd_MO_begin_121 rfl 2 rfl ?_
          refine zi_get (pc := 122) h zx_MO 26 8 zq_k26 rfl zq_j_8_18 zw_592 rfl zd_MO_begin_122 ?_
          refine zi_iload_n (pc := 125) h (i := 3) zd_MO_begin_125 rfl 5 rfl ?_
          refine zi_iast (pc := 126) h (f := (fa 2)) 35 zq_k35 rfl (zz_ixN (j := c) hc2) zd_MO_begin_126 zn_u_f2 ?_
          refine zi_aload_n (pc := 127) h (i := 0) zd_MO_begin_127 rfl 2 rfl ?_
          refine zi_get (pc := 128) h zx_MO 26 12 zq_k26 rfl zq_j_12_18 zw_596 rfl zd_MO_begin_128 ?_
          refine zi_aload_n (pc := 131) h (i := 0) zd_MO_begin_131 rfl 2 rfl ?_
          refine zi_get (pc := 132) h zx_MO 26 8 zq_k26 rfl zq_j_8_18 zw_592 rfl zd_MO_begin_132 ?_
          refine zi_iload (pc := 135) h (i := 4) zd_MO_begin_135 6 rfl ?_
          refine zi_iast (pc := 137) h (f := (fa 3)) 36 zq_k36 rfl (zz_ixN (j := c) hc2) zd_MO_begin_137 zn_u_f3 ?_
          refine zi_aload_n (pc := 138) h (i := 0) zd_MO_begin_138 rfl 2 rfl ?_
          refine zi_get (pc := 139) h zx_MO 26 13 zq_k26 rfl zq_j_13_18 zw_597 rfl zd_MO_begin_139 ?_
          refine zi_aload_n (pc := 142) h (i := 0) zd_MO_begin_142 rfl 2 rfl ?_
          refine zi_get (pc := 143) h zx_MO 26 8 zq_k26 rfl zq_j_8_18 zw_592 rfl zd_MO_begin_143 ?_
          refine zi_iload (pc := 146) h (i := 5) zd_MO_begin_146 7 rfl ?_
          refine zi_iast (pc := 148) h (f := (fa 4)) 37 zq_k37 rfl (zz_ixN (j := c) hc2) zd_MO_begin_148 zn_u_f4 ?_
          refine zi_aload_n (pc := 149) h (i := 0) zd_MO_begin_149 rfl 2 rfl ?_
          refine zi_get (pc := 150) h zx_MO 26 14 zq_k26 rfl zq_j_14_18 zw_598 rfl zd_MO_begin_150 ?_
          refine zi_aload_n (pc := 153) h (i := 0) zd_MO_begin_153 rfl 2 rfl ?_
          refine zi_get (pc := 154) h zx_MO 26 8 zq_k26 rfl zq_j_8_18 zw_592 rfl zd_MO_begin_154 ?_
          refine zi_iload (pc := 157) h (i := 7) zd_MO_begin_157 0 rfl ?_
          refine zi_iast (pc := 159) h (f := (fa 5)) 38 zq_k38 rfl (zz_ixN (j := c) hc2) zd_MO_begin_159 zn_u_f5 ?_
          refine zi_aload_n (pc := 160) h (i := 0) zd_MO_begin_160 rfl 2 rfl ?_
          refine zi_get (pc := 161) h zx_MO 26 15 zq_k26 rfl zq_j_15_18 zw_599 rfl zd_MO_begin_161 ?_
          refine zi_aload_n (pc := 164) h (i := 0) zd_MO_begin_164 rfl 2 rfl ?_
          refine zi_get (pc := 165) h zx_MO 26 8 zq_k26 rfl zq_j_8_18 zw_592 rfl zd_MO_begin_165 ?_
          refine zi_iconst (pc := 168) h zd_MO_begin_168 zq_ic_0 ?_
          refine zi_iast (pc := 169) h (f := (fa 6)) 39 zq_k39 rfl (zz_ixN (j := c) hc2) zd_MO_begin_169 zn_u_f6 ?_
          refine zi_aload_n (pc := 170) h (i := 0) zd_MO_begin_170 rfl 2 rfl ?_
          refine zi_get (pc := 171) h zx_MO 26 16 zq_k26 rfl zq_j_16_18 zw_600 rfl zd_MO_begin_171 ?_
          refine zi_aload_n (pc := 174) h (i := 0) zd_MO_begin_174 rfl 2 rfl ?_
          refine zi_get (pc := 175) h zx_MO 26 8 zq_k26 rfl zq_j_8_18 zw_592 rfl zd_MO_begin_175 ?_
          refine zi_iconst (pc := 178) h zd_MO_begin_178 zq_ic_0 ?_
          refine zi_iast (pc := 179) h (f := (fa 7)) 40 zq_k40 rfl (zz_ixN (j := c) hc2) zd_MO_begin_179 zn_u_f7 ?_
          refine zi_aload_n (pc := 180) h (i := 0) zd_MO_begin_180 rfl 2 rfl ?_
          refine zi_dup (pc := 181) h zd_MO_begin_181 rfl ?_
          refine zi_get (pc := 182) h zx_MO 26 8 zq_k26 rfl zq_j_8_18 zw_592 rfl zd_MO_begin_182 ?_
          refine zi_iconst (pc := 185) h zd_MO_begin_185 zq_ic_1 ?_
          refine zi_iadd (pc := 186) h zd_MO_begin_186 ?_
          refine zi_topv (nI (c + 1)) (nI_1 c) ?_
          refine zi_put (pc := 187) h zx_MO 26 8 zq_k26 rfl zq_j_8_18 zw_592 rfl rfl rfl (Nat.le_of_ble_eq_true rfl) zd_MO_begin_187 zn_u_fn ?_
          refine zi_aload_n (pc := 190) h (i := 0) zd_MO_begin_190 rfl 2 rfl ?_
          refine zi_get (pc := 191) h zx_MO 26 8 zq_k26 rfl zq_j_8_18 zw_592 rfl zd_MO_begin_191 ?_
          refine zi_iconst (pc := 194) h zd_MO_begin_194 zq_ic_1 ?_
          refine zi_isub (pc := 195) h zd_MO_begin_195 ?_
          refine zi_topv (nI c) (nI_pred c) ?_
          exact zi_ireturn (pc := 196) h hr zd_MO_begin_196 rfl rfl
        · intro b50
          refine zi_iload (pc := 53) h (i := 6) zd_MO_begin_53 0 rfl ?_
          refine zi_if_eq_t (pc := 55) h (tgt := 68) zd_MO_begin_55 rfl (by decide) ?_
          exact absurd (by unfold zv_may zv_st; (try rw [if_neg b9]); (try rw [if_neg b22]); (try rw [if_neg b34]); (try rw [if_pos b50]); (try rfl)) hm
      · intro b34
        refine zi_aload_n (pc := 37) h (i := 0) zd_MO_begin_37 rfl 1 rfl ?_
        refine zi_get (pc := 38) h zx_MO 26 0 zq_k26 rfl zq_j_0_18 zw_584 rfl zd_MO_begin_38 ?_
        refine zi_bipush (pc := 41) h zd_MO_begin_41 zq_bi_10 ?_
        refine zi_iald (pc := 43) h 27 zq_k27 rfl zq_in_10_48 zd_MO_begin_43 ?_
        refine zi_if_eq (pc := 44) h (tgt := 68) zd_MO_begin_44 rfl ?_ ?_
        · intro b44
          exact absurd (by unfold zv_may zv_st; (try rw [if_neg b9]); (try rw [if_neg b22]); (try rw [if_pos b34]); (try rw [if_pos b44]); (try rfl)) hm
        · intro b44
          refine zi_iload_n (pc := 47) h (i := 1) zd_MO_begin_47 rfl 2 rfl ?_
          refine zi_bipush (pc := 48) h zd_MO_begin_48 zq_bi_6 ?_
          refine zi_icmp_ne (pc := 50) h (tgt := 58) zd_MO_begin_50 rfl ?_ ?_
          · intro b50
            refine zi_aload_n (pc := 58) h (i := 0) zd_MO_begin_58 rfl 1 rfl ?_
            refine zi_iload_n (pc := 59) h (i := 1) zd_MO_begin_59 rfl 2 rfl ?_
            refine zi_iload (pc := 60) h (i := 4) zd_MO_begin_60 5 rfl ?_
            refine zi_callV (pc := 62) h (st := []) (zc_MO_permitted hb) zm_MO_permitted zw_715 zx_MO zq_k26 rfl ⟨by decide, by decide⟩ zd_MO_begin_62 (Nat.le_of_ble_eq_true rfl) rfl ?_
            refine zi_if_ne_t (pc := 65) h (tgt := 71) zd_MO_begin_65 rfl (by have e := hm; unfold zv_may zv_st at e; (try rw [if_neg b9] at e); (try rw [if_neg b22] at e); (try rw [if_pos b34] at e); (try rw [if_neg b44] at e); (try rw [if_neg b50] at e); exact e) ?_
            refine zi_aload_n (pc := 71) h (i := 0) zd_MO_begin_71 rfl 1 rfl ?_
            refine zi_iload_n (pc := 72) h (i := 1) zd_MO_begin_72 rfl 2 rfl ?_
            refine zi_iload_n (pc := 73) h (i := 2) zd_MO_begin_73 rfl 3 rfl ?_
            refine zi_iload_n (pc := 74) h (i := 3) zd_MO_begin_74 rfl 4 rfl ?_
            refine zi_callV (pc := 75) h (st := []) (zc_MO_portFor hc) zm_MO_portFor zw_719 zx_MO zq_k26 rfl ⟨by decide, by decide⟩ zd_MO_begin_75 (Nat.le_of_ble_eq_true rfl) rfl ?_
            refine zi_istore (pc := 78) h (i := 7) (L' := [(7, _), (6, _), (0, _), (1, _), (2, _), (3, _), (4, _), (5, _)]) zd_MO_begin_78 (by decide) rfl ?_
            refine zi_aload_n (pc := 80) h (i := 0) zd_MO_begin_80 rfl 2 rfl ?_
            refine zi_get (pc := 81) h zx_MO 26 8 zq_k26 rfl zq_j_8_18 zw_592 rfl zd_MO_begin_81 ?_
            refine zi_bipush (pc := 84) h zd_MO_begin_84 zq_bi_12 ?_
            refine zi_icmp_eq_f (pc := 86) h (tgt := 94) zd_MO_begin_86 rfl (fun e => absurd ((nI_eq (b := 12) (by omega) (by decide)).mp e) (by omega)) ?_
            refine zi_iload (pc := 89) h (i := 7) zd_MO_begin_89 0 rfl ?_
            refine zi_if_ge_t (pc := 91) h (tgt := 97) zd_MO_begin_91 rfl hp ?_
            refine zi_aload_n (pc := 97) h (i := 0) zd_MO_begin_97 rfl 2 rfl ?_
            refine zi_get (pc := 98) h zx_MO 26 9 zq_k26 rfl zq_j_9_18 zw_593 rfl zd_MO_begin_98 ?_
            refine zi_aload_n (pc := 101) h (i := 0) zd_MO_begin_101 rfl 2 rfl ?_
            refine zi_get (pc := 102) h zx_MO 26 8 zq_k26 rfl zq_j_8_18 zw_592 rfl zd_MO_begin_102 ?_
            refine zi_iload_n (pc := 105) h (i := 1) zd_MO_begin_105 rfl 3 rfl ?_
            refine zi_iast (pc := 106) h (f := (fa 0)) 33 zq_k33 rfl (zz_ixN (j := c) hc2) zd_MO_begin_106 zn_u_f0 ?_
            refine zi_aload_n (pc := 107) h (i := 0) zd_MO_begin_107 rfl 2 rfl ?_
            refine zi_get (pc := 108) h zx_MO 26 10 zq_k26 rfl zq_j_10_18 zw_594 rfl zd_MO_begin_108 ?_
            refine zi_aload_n (pc := 111) h (i := 0) zd_MO_begin_111 rfl 2 rfl ?_
            refine zi_get (pc := 112) h zx_MO 26 8 zq_k26 rfl zq_j_8_18 zw_592 rfl zd_MO_begin_112 ?_
            refine zi_iload_n (pc := 115) h (i := 2) zd_MO_begin_115 rfl 4 rfl ?_
            refine zi_iast (pc := 116) h (f := (fa 1)) 34 zq_k34 rfl (zz_ixN (j := c) hc2) zd_MO_begin_116 zn_u_f1 ?_
            refine zi_aload_n (pc := 117) h (i := 0) zd_MO_begin_117 rfl 2 rfl ?_
            refine zi_get (pc := 118) h zx_MO 26 11 zq_k26 rfl zq_j_11_18 zw_595 rfl zd_MO_begin_118 ?_
            refine zi_aload_n (pc := 121) h (i := 0) zd_MO_begin_121 rfl 2 rfl ?_
            refine zi_get (pc := 122) h zx_MO 26 8 zq_k26 rfl zq_j_8_18 zw_592 rfl zd_MO_begin_122 ?_
            refine zi_iload_n (pc := 125) h (i := 3) zd_MO_begin_125 rfl 5 rfl ?_
            refine zi_iast (pc := 126) h (f := (fa 2)) 35 zq_k35 rfl (zz_ixN (j := c) hc2) zd_MO_begin_126 zn_u_f2 ?_
            refine zi_aload_n (pc := 127) h (i := 0) zd_MO_begin_127 rfl 2 rfl ?_
            refine zi_get (pc := 128) h zx_MO 26 12 zq_k26 rfl zq_j_12_18 zw_596 rfl zd_MO_begin_128 ?_
            refine zi_aload_n (pc := 131) h (i := 0) zd_MO_begin_131 rfl 2 rfl ?_
            refine zi_get (pc := 132) h zx_MO 26 8 zq_k26 rfl zq_j_8_18 zw_592 rfl zd_MO_begin_132 ?_
            refine zi_iload (pc := 135) h (i := 4) zd_MO_begin_135 6 rfl ?_
            refine zi_iast (pc := 137) h (f := (fa 3)) 36 zq_k36 rfl (zz_ixN (j := c) hc2) zd_MO_begin_137 zn_u_f3 ?_
            refine zi_aload_n (pc := 138) h (i := 0) zd_MO_begin_138 rfl 2 rfl ?_
            refine zi_get (pc := 139) h zx_MO 26 13 zq_k26 rfl zq_j_13_18 zw_597 rfl zd_MO_begin_139 ?_
            refine zi_aload_n (pc := 142) h (i := 0) zd_MO_begin_142 rfl 2 rfl ?_
            refine zi_get (pc := 143) h zx_MO 26 8 zq_k26 rfl zq_j_8_18 zw_592 rfl zd_MO_begin_143 ?_
            refine zi_iload (pc := 146) h (i := 5) zd_MO_begin_146 7 rfl ?_
            refine zi_iast (pc := 148) h (f := (fa 4)) 37 zq_k37 rfl (zz_ixN (j := c) hc2) zd_MO_begin_148 zn_u_f4 ?_
            refine zi_aload_n (pc := 149) h (i := 0) zd_MO_begin_149 rfl 2 rfl ?_
            refine zi_get (pc := 150) h zx_MO 26 14 zq_k26 rfl zq_j_14_18 zw_598 rfl zd_MO_begin_150 ?_
            refine zi_aload_n (pc := 153) h (i := 0) zd_MO_begin_153 rfl 2 rfl ?_
            refine zi_get (pc := 154) h zx_MO 26 8 zq_k26 rfl zq_j_8_18 zw_592 rfl zd_MO_begin_154 ?_
            refine zi_iload (pc := 157) h (i := 7) zd_MO_begin_157 0 rfl ?_
            refine zi_iast (pc := 159) h (f := (fa 5)) 38 zq_k38 rfl (zz_ixN (j := c) hc2) zd_MO_begin_159 zn_u_f5 ?_
            refine zi_aload_n (pc := 160) h (i := 0) zd_MO_begin_160 rfl 2 rfl ?_
            refine zi_get (pc := 161) h zx_MO 26 15 zq_k26 rfl zq_j_15_18 zw_599 rfl zd_MO_begin_161 ?_
            refine zi_aload_n (pc := 164) h (i := 0) zd_MO_begin_164 rfl 2 rfl ?_
            refine zi_get (pc := 165) h zx_MO 26 8 zq_k26 rfl zq_j_8_18 zw_592 rfl zd_MO_begin_165 ?_
            refine zi_iconst (pc := 168) h zd_MO_begin_168 zq_ic_0 ?_
            refine zi_iast (pc := 169) h (f := (fa 6)) 39 zq_k39 rfl (zz_ixN (j := c) hc2) zd_MO_begin_169 zn_u_f6 ?_
            refine zi_aload_n (pc := 170) h (i := 0) zd_MO_begin_170 rfl 2 rfl ?_
            refine zi_get (pc := 171) h zx_MO 26 16 zq_k26 rfl zq_j_16_18 zw_600 rfl zd_MO_begin_171 ?_
            refine zi_aload_n (pc := 174) h (i := 0) zd_MO_begin_174 rfl 2 rfl ?_
            refine zi_get (pc := 175) h zx_MO 26 8 zq_k26 rfl zq_j_8_18 zw_592 rfl zd_MO_begin_175 ?_
            refine zi_iconst (pc := 178) h zd_MO_begin_178 zq_ic_0 ?_
            refine zi_iast (pc := 179) h (f := (fa 7)) 40 zq_k40 rfl (zz_ixN (j := c) hc2) zd_MO_begin_179 zn_u_f7 ?_
            refine zi_aload_n (pc := 180) h (i := 0) zd_MO_begin_180 rfl 2 rfl ?_
            refine zi_dup (pc := 181) h zd_MO_begin_181 rfl ?_
            refine zi_get (pc := 182) h zx_MO 26 8 zq_k26 rfl zq_j_8_18 zw_592 rfl zd_MO_begin_182 ?_
            refine zi_iconst (pc := 185) h zd_MO_begin_185 zq_ic_1 ?_
            refine zi_iadd (pc := 186) h zd_MO_begin_186 ?_
            refine zi_topv (nI (c + 1)) (nI_1 c) ?_
            refine zi_put (pc := 187) h zx_MO 26 8 zq_k26 rfl zq_j_8_18 zw_592 rfl rfl rfl (Nat.le_of_ble_eq_true rfl) zd_MO_begin_187 zn_u_fn ?_
            refine zi_aload_n (pc := 190) h (i := 0) zd_MO_begin_190 rfl 2 rfl ?_
            refine zi_get (pc := 191) h zx_MO 26 8 zq_k26 rfl zq_j_8_18 zw_592 rfl zd_MO_begin_191 ?_
            refine zi_iconst (pc := 194) h zd_MO_begin_194 zq_ic_1 ?_
            refine zi_isub (pc := 195) h zd_MO_begin_195 ?_
            refine zi_topv (nI c) (nI_pred c) ?_
            exact zi_ireturn (pc := 196) h hr zd_MO_begin_196 rfl rfl
          · intro b50
            refine zi_iload (pc := 53) h (i := 6) zd_MO_begin_53 0 rfl ?_
            refine zi_if_eq_t (pc := 55) h (tgt := 68) zd_MO_begin_55 rfl (by decide) ?_
            exact absurd (by unfold zv_may zv_st; (try rw [if_neg b9]); (try rw [if_neg b22]); (try rw [if_pos b34]); (try rw [if_neg b44]); (try rw [if_pos b50]); (try rfl)) hm
    · intro b22
      refine zi_iconst (pc := 25) h zd_MO_begin_25 zq_ic_1 ?_
      refine zi_goto (pc := 26) h (tgt := 30) zd_MO_begin_26 rfl ?_
      refine zi_istore (pc := 30) h (i := 6) (L' := [(6, _), (0, _), (1, _), (2, _), (3, _), (4, _), (5, _)]) zd_MO_begin_30 (by decide) rfl ?_
      refine zi_iload_n (pc := 32) h (i := 1) zd_MO_begin_32 rfl 2 rfl ?_
      refine zi_iconst (pc := 33) h zd_MO_begin_33 zq_ic_1 ?_
      refine zi_icmp_ne (pc := 34) h (tgt := 47) zd_MO_begin_34 rfl ?_ ?_
      · intro b34
        refine zi_iload_n (pc := 47) h (i := 1) zd_MO_begin_47 rfl 2 rfl ?_
        refine zi_bipush (pc := 48) h zd_MO_begin_48 zq_bi_6 ?_
        refine zi_icmp_ne (pc := 50) h (tgt := 58) zd_MO_begin_50 rfl ?_ ?_
        · intro b50
          refine zi_aload_n (pc := 58) h (i := 0) zd_MO_begin_58 rfl 1 rfl ?_
          refine zi_iload_n (pc := 59) h (i := 1) zd_MO_begin_59 rfl 2 rfl ?_
          refine zi_iload (pc := 60) h (i := 4) zd_MO_begin_60 5 rfl ?_
          refine zi_callV (pc := 62) h (st := []) (zc_MO_permitted hb) zm_MO_permitted zw_715 zx_MO zq_k26 rfl ⟨by decide, by decide⟩ zd_MO_begin_62 (Nat.le_of_ble_eq_true rfl) rfl ?_
          refine zi_if_ne_t (pc := 65) h (tgt := 71) zd_MO_begin_65 rfl (by have e := hm; unfold zv_may zv_st at e; (try rw [if_neg b9] at e); (try rw [if_pos b22] at e); (try rw [if_neg b34] at e); (try rw [if_neg b50] at e); exact e) ?_
          refine zi_aload_n (pc := 71) h (i := 0) zd_MO_begin_71 rfl 1 rfl ?_
          refine zi_iload_n (pc := 72) h (i := 1) zd_MO_begin_72 rfl 2 rfl ?_
          refine zi_iload_n (pc := 73) h (i := 2) zd_MO_begin_73 rfl 3 rfl ?_
          refine zi_iload_n (pc := 74) h (i := 3) zd_MO_begin_74 rfl 4 rfl ?_
          refine zi_callV (pc := 75) h (st := []) (zc_MO_portFor hc) zm_MO_portFor zw_719 zx_MO zq_k26 rfl ⟨by decide, by decide⟩ zd_MO_begin_75 (Nat.le_of_ble_eq_true rfl) rfl ?_
          refine zi_istore (pc := 78) h (i := 7) (L' := [(7, _), (6, _), (0, _), (1, _), (2, _), (3, _), (4, _), (5, _)]) zd_MO_begin_78 (by decide) rfl ?_
          refine zi_aload_n (pc := 80) h (i := 0) zd_MO_begin_80 rfl 2 rfl ?_
          refine zi_get (pc := 81) h zx_MO 26 8 zq_k26 rfl zq_j_8_18 zw_592 rfl zd_MO_begin_81 ?_
          refine zi_bipush (pc := 84) h zd_MO_begin_84 zq_bi_12 ?_
          refine zi_icmp_eq_f (pc := 86) h (tgt := 94) zd_MO_begin_86 rfl (fun e => absurd ((nI_eq (b := 12) (by omega) (by decide)).mp e) (by omega)) ?_
          refine zi_iload (pc := 89) h (i := 7) zd_MO_begin_89 0 rfl ?_
          refine zi_if_ge_t (pc := 91) h (tgt := 97) zd_MO_begin_91 rfl hp ?_
          refine zi_aload_n (pc := 97) h (i := 0) zd_MO_begin_97 rfl 2 rfl ?_
          refine zi_get (pc := 98) h zx_MO 26 9 zq_k26 rfl zq_j_9_18 zw_593 rfl zd_MO_begin_98 ?_
          refine zi_aload_n (pc := 101) h (i := 0) zd_MO_begin_101 rfl 2 rfl ?_
          refine zi_get (pc := 102) h zx_MO 26 8 zq_k26 rfl zq_j_8_18 zw_592 rfl zd_MO_begin_102 ?_
          refine zi_iload_n (pc := 105) h (i := 1) zd_MO_begin_105 rfl 3 rfl ?_
          refine zi_iast (pc := 106) h (f := (fa 0)) 33 zq_k33 rfl (zz_ixN (j := c) hc2) zd_MO_begin_106 zn_u_f0 ?_
          refine zi_aload_n (pc := 107) h (i := 0) zd_MO_begin_107 rfl 2 rfl ?_
          refine zi_get (pc := 108) h zx_MO 26 10 zq_k26 rfl zq_j_10_18 zw_594 rfl zd_MO_begin_108 ?_
          refine zi_aload_n (pc := 111) h (i := 0) zd_MO_begin_111 rfl 2 rfl ?_
          refine zi_get (pc := 112) h zx_MO 26 8 zq_k26 rfl zq_j_8_18 zw_592 rfl zd_MO_begin_112 ?_
          refine zi_iload_n (pc := 115) h (i := 2) zd_MO_begin_115 rfl 4 rfl ?_
          refine zi_iast (pc := 116) h (f := (fa 1)) 34 zq_k34 rfl (zz_ixN (j := c) hc2) zd_MO_begin_116 zn_u_f1 ?_
          refine zi_aload_n (pc := 117) h (i := 0) zd_MO_begin_117 rfl 2 rfl ?_
          refine zi_get (pc := 118) h zx_MO 26 11 zq_k26 rfl zq_j_11_18 zw_595 rfl zd_MO_begin_118 ?_
          refine zi_aload_n (pc := 121) h (i := 0) zd_MO_begin_121 rfl 2 rfl ?_
          refine zi_get (pc := 122) h zx_MO 26 8 zq_k26 rfl zq_j_8_18 zw_592 rfl zd_MO_begin_122 ?_
          refine zi_iload_n (pc := 125) h (i := 3) zd_MO_begin_125 rfl 5 rfl ?_
          refine zi_iast (pc := 126) h (f := (fa 2)) 35 zq_k35 rfl (zz_ixN (j := c) hc2) zd_MO_begin_126 zn_u_f2 ?_
          refine zi_aload_n (pc := 127) h (i := 0) zd_MO_begin_127 rfl 2 rfl ?_
          refine zi_get (pc := 128) h zx_MO 26 12 zq_k26 rfl zq_j_12_18 zw_596 rfl zd_MO_begin_128 ?_
          refine zi_aload_n (pc := 131) h (i := 0) zd_MO_begin_131 rfl 2 rfl ?_
          refine zi_get (pc := 132) h zx_MO 26 8 zq_k26 rfl zq_j_8_18 zw_592 rfl zd_MO_begin_132 ?_
          refine zi_iload (pc := 135) h (i := 4) zd_MO_begin_135 6 rfl ?_
          refine zi_iast (pc := 137) h (f := (fa 3)) 36 zq_k36 rfl (zz_ixN (j := c) hc2) zd_MO_begin_137 zn_u_f3 ?_
          refine zi_aload_n (pc := 138) h (i := 0) zd_MO_begin_138 rfl 2 rfl ?_
          refine zi_get (pc := 139) h zx_MO 26 13 zq_k26 rfl zq_j_13_18 zw_597 rfl zd_MO_begin_139 ?_
          refine zi_aload_n (pc := 142) h (i := 0) zd_MO_begin_142 rfl 2 rfl ?_
          refine zi_get (pc := 143) h zx_MO 26 8 zq_k26 rfl zq_j_8_18 zw_592 rfl zd_MO_begin_143 ?_
          refine zi_iload (pc := 146) h (i := 5) zd_MO_begin_146 7 rfl ?_
          refine zi_iast (pc := 148) h (f := (fa 4)) 37 zq_k37 rfl (zz_ixN (j := c) hc2) zd_MO_begin_148 zn_u_f4 ?_
          refine zi_aload_n (pc := 149) h (i := 0) zd_MO_begin_149 rfl 2 rfl ?_
          refine zi_get (pc := 150) h zx_MO 26 14 zq_k26 rfl zq_j_14_18 zw_598 rfl zd_MO_begin_150 ?_
          refine zi_aload_n (pc := 153) h (i := 0) zd_MO_begin_153 rfl 2 rfl ?_
          refine zi_get (pc := 154) h zx_MO 26 8 zq_k26 rfl zq_j_8_18 zw_592 rfl zd_MO_begin_154 ?_
          refine zi_iload (pc := 157) h (i := 7) zd_MO_begin_157 0 rfl ?_
          refine zi_iast (pc := 159) h (f := (fa 5)) 38 zq_k38 rfl (zz_ixN (j := c) hc2) zd_MO_begin_159 zn_u_f5 ?_
          refine zi_aload_n (pc := 160) h (i := 0) zd_MO_begin_160 rfl 2 rfl ?_
          refine zi_get (pc := 161) h zx_MO 26 15 zq_k26 rfl zq_j_15_18 zw_599 rfl zd_MO_begin_161 ?_
          refine zi_aload_n (pc := 164) h (i := 0) zd_MO_begin_164 rfl 2 rfl ?_
          refine zi_get (pc := 165) h zx_MO 26 8 zq_k26 rfl zq_j_8_18 zw_592 rfl zd_MO_begin_165 ?_
          refine zi_iconst (pc := 168) h zd_MO_begin_168 zq_ic_0 ?_
          refine zi_iast (pc := 169) h (f := (fa 6)) 39 zq_k39 rfl (zz_ixN (j := c) hc2) zd_MO_begin_169 zn_u_f6 ?_
          refine zi_aload_n (pc := 170) h (i := 0) zd_MO_begin_170 rfl 2 rfl ?_
          refine zi_get (pc := 171) h zx_MO 26 16 zq_k26 rfl zq_j_16_18 zw_600 rfl zd_MO_begin_171 ?_
          refine zi_aload_n (pc := 174) h (i := 0) zd_MO_begin_174 rfl 2 rfl ?_
          refine zi_get (pc := 175) h zx_MO 26 8 zq_k26 rfl zq_j_8_18 zw_592 rfl zd_MO_begin_175 ?_
          refine zi_iconst (pc := 178) h zd_MO_begin_178 zq_ic_0 ?_
          refine zi_iast (pc := 179) h (f := (fa 7)) 40 zq_k40 rfl (zz_ixN (j := c) hc2) zd_MO_begin_179 zn_u_f7 ?_
          refine zi_aload_n (pc := 180) h (i := 0) zd_MO_begin_180 rfl 2 rfl ?_
          refine zi_dup (pc := 181) h zd_MO_begin_181 rfl ?_
          refine zi_get (pc := 182) h zx_MO 26 8 zq_k26 rfl zq_j_8_18 zw_592 rfl zd_MO_begin_182 ?_
          refine zi_iconst (pc := 185) h zd_MO_begin_185 zq_ic_1 ?_
          refine zi_iadd (pc := 186) h zd_MO_begin_186 ?_
          refine zi_topv (nI (c + 1)) (nI_1 c) ?_
          refine zi_put (pc := 187) h zx_MO 26 8 zq_k26 rfl zq_j_8_18 zw_592 rfl rfl rfl (Nat.le_of_ble_eq_true rfl) zd_MO_begin_187 zn_u_fn ?_
          refine zi_aload_n (pc := 190) h (i := 0) zd_MO_begin_190 rfl 2 rfl ?_
          refine zi_get (pc := 191) h zx_MO 26 8 zq_k26 rfl zq_j_8_18 zw_592 rfl zd_MO_begin_191 ?_
          refine zi_iconst (pc := 194) h zd_MO_begin_194 zq_ic_1 ?_
          refine zi_isub (pc := 195) h zd_MO_begin_195 ?_
          refine zi_topv (nI c) (nI_pred c) ?_
          exact zi_ireturn (pc := 196) h hr zd_MO_begin_196 rfl rfl
        · intro b50
          refine zi_iload (pc := 53) h (i := 6) zd_MO_begin_53 0 rfl ?_
          refine zi_if_eq_f (pc := 55) h (tgt := 68) zd_MO_begin_55 rfl (by decide) ?_
          refine zi_aload_n (pc := 58) h (i := 0) zd_MO_begin_58 rfl 1 rfl ?_
          refine zi_iload_n (pc := 59) h (i := 1) zd_MO_begin_59 rfl 2 rfl ?_
          refine zi_iload (pc := 60) h (i := 4) zd_MO_begin_60 5 rfl ?_
          refine zi_callV (pc := 62) h (st := []) (zc_MO_permitted hb) zm_MO_permitted zw_715 zx_MO zq_k26 rfl ⟨by decide, by decide⟩ zd_MO_begin_62 (Nat.le_of_ble_eq_true rfl) rfl ?_
          refine zi_if_ne_t (pc := 65) h (tgt := 71) zd_MO_begin_65 rfl (by have e := hm; unfold zv_may zv_st at e; (try rw [if_neg b9] at e); (try rw [if_pos b22] at e); (try rw [if_neg b34] at e); (try rw [if_pos b50] at e); exact e) ?_
          refine zi_aload_n (pc := 71) h (i := 0) zd_MO_begin_71 rfl 1 rfl ?_
          refine zi_iload_n (pc := 72) h (i := 1) zd_MO_begin_72 rfl 2 rfl ?_
          refine zi_iload_n (pc := 73) h (i := 2) zd_MO_begin_73 rfl 3 rfl ?_
          refine zi_iload_n (pc := 74) h (i := 3) zd_MO_begin_74 rfl 4 rfl ?_
          refine zi_callV (pc := 75) h (st := []) (zc_MO_portFor hc) zm_MO_portFor zw_719 zx_MO zq_k26 rfl ⟨by decide, by decide⟩ zd_MO_begin_75 (Nat.le_of_ble_eq_true rfl) rfl ?_
          refine zi_istore (pc := 78) h (i := 7) (L' := [(7, _), (6, _), (0, _), (1, _), (2, _), (3, _), (4, _), (5, _)]) zd_MO_begin_78 (by decide) rfl ?_
          refine zi_aload_n (pc := 80) h (i := 0) zd_MO_begin_80 rfl 2 rfl ?_
          refine zi_get (pc := 81) h zx_MO 26 8 zq_k26 rfl zq_j_8_18 zw_592 rfl zd_MO_begin_81 ?_
          refine zi_bipush (pc := 84) h zd_MO_begin_84 zq_bi_12 ?_
          refine zi_icmp_eq_f (pc := 86) h (tgt := 94) zd_MO_begin_86 rfl (fun e => absurd ((nI_eq (b := 12) (by omega) (by decide)).mp e) (by omega)) ?_
          refine zi_iload (pc := 89) h (i := 7) zd_MO_begin_89 0 rfl ?_
          refine zi_if_ge_t (pc := 91) h (tgt := 97) zd_MO_begin_91 rfl hp ?_
          refine zi_aload_n (pc := 97) h (i := 0) zd_MO_begin_97 rfl 2 rfl ?_
          refine zi_get (pc := 98) h zx_MO 26 9 zq_k26 rfl zq_j_9_18 zw_593 rfl zd_MO_begin_98 ?_
          refine zi_aload_n (pc := 101) h (i := 0) zd_MO_begin_101 rfl 2 rfl ?_
          refine zi_get (pc := 102) h zx_MO 26 8 zq_k26 rfl zq_j_8_18 zw_592 rfl zd_MO_begin_102 ?_
          refine zi_iload_n (pc := 105) h (i := 1) zd_MO_begin_105 rfl 3 rfl ?_
          refine zi_iast (pc := 106) h (f := (fa 0)) 33 zq_k33 rfl (zz_ixN (j := c) hc2) zd_MO_begin_106 zn_u_f0 ?_
          refine zi_aload_n (pc := 107) h (i := 0) zd_MO_begin_107 rfl 2 rfl ?_
          refine zi_get (pc := 108) h zx_MO 26 10 zq_k26 rfl zq_j_10_18 zw_594 rfl zd_MO_begin_108 ?_
          refine zi_aload_n (pc := 111) h (i := 0) zd_MO_begin_111 rfl 2 rfl ?_
          refine zi_get (pc := 112) h zx_MO 26 8 zq_k26 rfl zq_j_8_18 zw_592 rfl zd_MO_begin_112 ?_
          refine zi_iload_n (pc := 115) h (i := 2) zd_MO_begin_115 rfl 4 rfl ?_
          refine zi_iast (pc := 116) h (f := (fa 1)) 34 zq_k34 rfl (zz_ixN (j := c) hc2) zd_MO_begin_116 zn_u_f1 ?_
          refine zi_aload_n (pc := 117) h (i := 0) zd_MO_begin_117 rfl 2 rfl ?_
          refine zi_get (pc := 118) h zx_MO 26 11 zq_k26 rfl zq_j_11_18 zw_595 rfl zd_MO_begin_118 ?_
          refine zi_aload_n (pc := 121) h (i := 0) zd_MO_begin_121 rfl 2 rfl ?_
          refine zi_get (pc := 122) h zx_MO 26 8 zq_k26 rfl zq_j_8_18 zw_592 rfl zd_MO_begin_122 ?_
          refine zi_iload_n (pc := 125) h (i := 3) zd_MO_begin_125 rfl 5 rfl ?_
          refine zi_iast (pc := 126) h (f := (fa 2)) 35 zq_k35 rfl (zz_ixN (j := c) hc2) zd_MO_begin_126 zn_u_f2 ?_
          refine zi_aload_n (pc := 127) h (i := 0) zd_MO_begin_127 rfl 2 rfl ?_
          refine zi_get (pc := 128) h zx_MO 26 12 zq_k26 rfl zq_j_12_18 zw_596 rfl zd_MO_begin_128 ?_
          refine zi_aload_n (pc := 131) h (i := 0) zd_MO_begin_131 rfl 2 rfl ?_
          refine zi_get (pc := 132) h zx_MO 26 8 zq_k26 rfl zq_j_8_18 zw_592 rfl zd_MO_begin_132 ?_
          refine zi_iload (pc := 135) h (i := 4) zd_MO_begin_135 6 rfl ?_
          refine zi_iast (pc := 137) h (f := (fa 3)) 36 zq_k36 rfl (zz_ixN (j := c) hc2) zd_MO_begin_137 zn_u_f3 ?_
          refine zi_aload_n (pc := 138) h (i := 0) zd_MO_begin_138 rfl 2 rfl ?_
          refine zi_get (pc := 139) h zx_MO 26 13 zq_k26 rfl zq_j_13_18 zw_597 rfl zd_MO_begin_139 ?_
          refine zi_aload_n (pc := 142) h (i := 0) zd_MO_begin_142 rfl 2 rfl ?_
          refine zi_get (pc := 143) h zx_MO 26 8 zq_k26 rfl zq_j_8_18 zw_592 rfl zd_MO_begin_143 ?_
          refine zi_iload (pc := 146) h (i := 5) zd_MO_begin_146 7 rfl ?_
          refine zi_iast (pc := 148) h (f := (fa 4)) 37 zq_k37 rfl (zz_ixN (j := c) hc2) zd_MO_begin_148 zn_u_f4 ?_
          refine zi_aload_n (pc := 149) h (i := 0) zd_MO_begin_149 rfl 2 rfl ?_
          refine zi_get (pc := 150) h zx_MO 26 14 zq_k26 rfl zq_j_14_18 zw_598 rfl zd_MO_begin_150 ?_
          refine zi_aload_n (pc := 153) h (i := 0) zd_MO_begin_153 rfl 2 rfl ?_
          refine zi_get (pc := 154) h zx_MO 26 8 zq_k26 rfl zq_j_8_18 zw_592 rfl zd_MO_begin_154 ?_
          refine zi_iload (pc := 157) h (i := 7) zd_MO_begin_157 0 rfl ?_
          refine zi_iast (pc := 159) h (f := (fa 5)) 38 zq_k38 rfl (zz_ixN (j := c) hc2) zd_MO_begin_159 zn_u_f5 ?_
          refine zi_aload_n (pc := 160) h (i := 0) zd_MO_begin_160 rfl 2 rfl ?_
          refine zi_get (pc := 161) h zx_MO 26 15 zq_k26 rfl zq_j_15_18 zw_599 rfl zd_MO_begin_161 ?_
          refine zi_aload_n (pc := 164) h (i := 0) zd_MO_begin_164 rfl 2 rfl ?_
          refine zi_get (pc := 165) h zx_MO 26 8 zq_k26 rfl zq_j_8_18 zw_592 rfl zd_MO_begin_165 ?_
          refine zi_iconst (pc := 168) h zd_MO_begin_168 zq_ic_0 ?_
          refine zi_iast (pc := 169) h (f := (fa 6)) 39 zq_k39 rfl (zz_ixN (j := c) hc2) zd_MO_begin_169 zn_u_f6 ?_
          refine zi_aload_n (pc := 170) h (i := 0) zd_MO_begin_170 rfl 2 rfl ?_
          refine zi_get (pc := 171) h zx_MO 26 16 zq_k26 rfl zq_j_16_18 zw_600 rfl zd_MO_begin_171 ?_
          refine zi_aload_n (pc := 174) h (i := 0) zd_MO_begin_174 rfl 2 rfl ?_
          refine zi_get (pc := 175) h zx_MO 26 8 zq_k26 rfl zq_j_8_18 zw_592 rfl zd_MO_begin_175 ?_
          refine zi_iconst (pc := 178) h zd_MO_begin_178 zq_ic_0 ?_
          refine zi_iast (pc := 179) h (f := (fa 7)) 40 zq_k40 rfl (zz_ixN (j := c) hc2) zd_MO_begin_179 zn_u_f7 ?_
          refine zi_aload_n (pc := 180) h (i := 0) zd_MO_begin_180 rfl 2 rfl ?_
          refine zi_dup (pc := 181) h zd_MO_begin_181 rfl ?_
          refine zi_get (pc := 182) h zx_MO 26 8 zq_k26 rfl zq_j_8_18 zw_592 rfl zd_MO_begin_182 ?_
          refine zi_iconst (pc := 185) h zd_MO_begin_185 zq_ic_1 ?_
          refine zi_iadd (pc := 186) h zd_MO_begin_186 ?_
          refine zi_topv (nI (c + 1)) (nI_1 c) ?_
          refine zi_put (pc := 187) h zx_MO 26 8 zq_k26 rfl zq_j_8_18 zw_592 rfl rfl rfl (Nat.le_of_ble_eq_true rfl) zd_MO_begin_187 zn_u_fn ?_
          refine zi_aload_n (pc := 190) h (i := 0) zd_MO_begin_190 rfl 2 rfl ?_
          refine zi_get (pc := 191) h zx_MO 26 8 zq_k26 rfl zq_j_8_18 zw_592 rfl zd_MO_begin_191 ?_
          refine zi_iconst (pc := 194) h zd_MO_begin_194 zq_ic_1 ?_
          refine zi_isub (pc := 195) h zd_MO_begin_195 ?_
          refine zi_topv (nI c) (nI_pred c) ?_
          exact zi_ireturn (pc := 196) h hr zd_MO_begin_196 rfl rfl
      · intro b34
        refine zi_aload_n (pc := 37) h (i := 0) zd_MO_begin_37 rfl 1 rfl ?_
        refine zi_get (pc := 38) h zx_MO 26 0 zq_k26 rfl zq_j_0_18 zw_584 rfl zd_MO_begin_38 ?_
        refine zi_bipush (pc := 41) h zd_MO_begin_41 zq_bi_10 ?_
        refine zi_iald (pc := 43) h 27 zq_k27 rfl zq_in_10_48 zd_MO_begin_43 ?_
        refine zi_if_eq (pc := 44) h (tgt := 68) zd_MO_begin_44 rfl ?_ ?_
        · intro b44
          exact absurd (by unfold zv_may zv_st; (try rw [if_neg b9]); (try rw [if_pos b22]); (try rw [if_pos b34]); (try rw [if_pos b44]); (try rfl)) hm
        · intro b44
          refine zi_iload_n (pc := 47) h (i := 1) zd_MO_begin_47 rfl 2 rfl ?_
          refine zi_bipush (pc := 48) h zd_MO_begin_48 zq_bi_6 ?_
          refine zi_icmp_ne (pc := 50) h (tgt := 58) zd_MO_begin_50 rfl ?_ ?_
          · intro b50
            refine zi_aload_n (pc := 58) h (i := 0) zd_MO_begin_58 rfl 1 rfl ?_
            refine zi_iload_n (pc := 59) h (i := 1) zd_MO_begin_59 rfl 2 rfl ?_
            refine zi_iload (pc := 60) h (i := 4) zd_MO_begin_60 5 rfl ?_
            refine zi_callV (pc := 62) h (st := []) (zc_MO_permitted hb) zm_MO_permitted zw_715 zx_MO zq_k26 rfl ⟨by decide, by decide⟩ zd_MO_begin_62 (Nat.le_of_ble_eq_true rfl) rfl ?_
            refine zi_if_ne_t (pc := 65) h (tgt := 71) zd_MO_begin_65 rfl (by have e := hm; unfold zv_may zv_st at e; (try rw [if_neg b9] at e); (try rw [if_pos b22] at e); (try rw [if_pos b34] at e); (try rw [if_neg b44] at e); (try rw [if_neg b50] at e); exact e) ?_
            refine zi_aload_n (pc := 71) h (i := 0) zd_MO_begin_71 rfl 1 rfl ?_
            refine zi_iload_n (pc := 72) h (i := 1) zd_MO_begin_72 rfl 2 rfl ?_
            refine zi_iload_n (pc := 73) h (i := 2) zd_MO_begin_73 rfl 3 rfl ?_
            refine zi_iload_n (pc := 74) h (i := 3) zd_MO_begin_74 rfl 4 rfl ?_
            refine zi_callV (pc := 75) h (st := []) (zc_MO_portFor hc) zm_MO_portFor zw_719 zx_MO zq_k26 rfl ⟨by decide, by decide⟩ zd_MO_begin_75 (Nat.le_of_ble_eq_true rfl) rfl ?_
            refine zi_istore (pc := 78) h (i := 7) (L' := [(7, _), (6, _), (0, _), (1, _), (2, _), (3, _), (4, _), (5, _)]) zd_MO_begin_78 (by decide) rfl ?_
            refine zi_aload_n (pc := 80) h (i := 0) zd_MO_begin_80 rfl 2 rfl ?_
            refine zi_get (pc := 81) h zx_MO 26 8 zq_k26 rfl zq_j_8_18 zw_592 rfl zd_MO_begin_81 ?_
            refine zi_bipush (pc := 84) h zd_MO_begin_84 zq_bi_12 ?_
            refine zi_icmp_eq_f (pc := 86) h (tgt := 94) zd_MO_begin_86 rfl (fun e => absurd ((nI_eq (b := 12) (by omega) (by decide)).mp e) (by omega)) ?_
            refine zi_iload (pc := 89) h (i := 7) zd_MO_begin_89 0 rfl ?_
            refine zi_if_ge_t (pc := 91) h (tgt := 97) zd_MO_begin_91 rfl hp ?_
            refine zi_aload_n (pc := 97) h (i := 0) zd_MO_begin_97 rfl 2 rfl ?_
            refine zi_get (pc := 98) h zx_MO 26 9 zq_k26 rfl zq_j_9_18 zw_593 rfl zd_MO_begin_98 ?_
            refine zi_aload_n (pc := 101) h (i := 0) zd_MO_begin_101 rfl 2 rfl ?_
            refine zi_get (pc := 102) h zx_MO 26 8 zq_k26 rfl zq_j_8_18 zw_592 rfl zd_MO_begin_102 ?_
            refine zi_iload_n (pc := 105) h (i := 1) zd_MO_begin_105 rfl 3 rfl ?_
            refine zi_iast (pc := 106) h (f := (fa 0)) 33 zq_k33 rfl (zz_ixN (j := c) hc2) zd_MO_begin_106 zn_u_f0 ?_
            refine zi_aload_n (pc := 107) h (i := 0) zd_MO_begin_107 rfl 2 rfl ?_
            refine zi_get (pc := 108) h zx_MO 26 10 zq_k26 rfl zq_j_10_18 zw_594 rfl zd_MO_begin_108 ?_
            refine zi_aload_n (pc := 111) h (i := 0) zd_MO_begin_111 rfl 2 rfl ?_
            refine zi_get (pc := 112) h zx_MO 26 8 zq_k26 rfl zq_j_8_18 zw_592 rfl zd_MO_begin_112 ?_
            refine zi_iload_n (pc := 115) h (i := 2) zd_MO_begin_115 rfl 4 rfl ?_
            refine zi_iast (pc := 116) h (f := (fa 1)) 34 zq_k34 rfl (zz_ixN (j := c) hc2) zd_MO_begin_116 zn_u_f1 ?_
            refine zi_aload_n (pc := 117) h (i := 0) zd_MO_begin_117 rfl 2 rfl ?_
            refine zi_get (pc := 118) h zx_MO 26 11 zq_k26 rfl zq_j_11_18 zw_595 rfl zd_MO_begin_118 ?_
            refine zi_aload_n (pc := 121) h (i := 0) zd_MO_begin_121 rfl 2 rfl ?_
            refine zi_get (pc := 122) h zx_MO 26 8 zq_k26 rfl zq_j_8_18 zw_592 rfl zd_MO_begin_122 ?_
            refine zi_iload_n (pc := 125) h (i := 3) zd_MO_begin_125 rfl 5 rfl ?_
            refine zi_iast (pc := 126) h (f := (fa 2)) 35 zq_k35 rfl (zz_ixN (j := c) hc2) zd_MO_begin_126 zn_u_f2 ?_
            refine zi_aload_n (pc := 127) h (i := 0) zd_MO_begin_127 rfl 2 rfl ?_
            refine zi_get (pc := 128) h zx_MO 26 12 zq_k26 rfl zq_j_12_18 zw_596 rfl zd_MO_begin_128 ?_
            refine zi_aload_n (pc := 131) h (i := 0) zd_MO_begin_131 rfl 2 rfl ?_
            refine zi_get (pc := 132) h zx_MO 26 8 zq_k26 rfl zq_j_8_18 zw_592 rfl zd_MO_begin_132 ?_
            refine zi_iload (pc := 135) h (i := 4) zd_MO_begin_135 6 rfl ?_
            refine zi_iast (pc := 137) h (f := (fa 3)) 36 zq_k36 rfl (zz_ixN (j := c) hc2) zd_MO_begin_137 zn_u_f3 ?_
            refine zi_aload_n (pc := 138) h (i := 0) zd_MO_begin_138 rfl 2 rfl ?_
            refine zi_get (pc := 139) h zx_MO 26 13 zq_k26 rfl zq_j_13_18 zw_597 rfl zd_MO_begin_139 ?_
            refine zi_aload_n (pc := 142) h (i := 0) zd_MO_begin_142 rfl 2 rfl ?_
            refine zi_get (pc := 143) h zx_MO 26 8 zq_k26 rfl zq_j_8_18 zw_592 rfl zd_MO_begin_143 ?_
            refine zi_iload (pc := 146) h (i := 5) zd_MO_begin_146 7 rfl ?_
            refine zi_iast (pc := 148) h (f := (fa 4)) 37 zq_k37 rfl (zz_ixN (j := c) hc2) zd_MO_begin_148 zn_u_f4 ?_
            refine zi_aload_n (pc := 149) h (i := 0) zd_MO_begin_149 rfl 2 rfl ?_
            refine zi_get (pc := 150) h zx_MO 26 14 zq_k26 rfl zq_j_14_18 zw_598 rfl zd_MO_begin_150 ?_
            refine zi_aload_n (pc := 153) h (i := 0) zd_MO_begin_153 rfl 2 rfl ?_
            refine zi_get (pc := 154) h zx_MO 26 8 zq_k26 rfl zq_j_8_18 zw_592 rfl zd_MO_begin_154 ?_
            refine zi_iload (pc := 157) h (i := 7) zd_MO_begin_157 0 rfl ?_
            refine zi_iast (pc := 159) h (f := (fa 5)) 38 zq_k38 rfl (zz_ixN (j := c) hc2) zd_MO_begin_159 zn_u_f5 ?_
            refine zi_aload_n (pc := 160) h (i := 0) zd_MO_begin_160 rfl 2 rfl ?_
            refine zi_get (pc := 161) h zx_MO 26 15 zq_k26 rfl zq_j_15_18 zw_599 rfl zd_MO_begin_161 ?_
            refine zi_aload_n (pc := 164) h (i := 0) zd_MO_begin_164 rfl 2 rfl ?_
            refine zi_get (pc := 165) h zx_MO 26 8 zq_k26 rfl zq_j_8_18 zw_592 rfl zd_MO_begin_165 ?_
            refine zi_iconst (pc := 168) h zd_MO_begin_168 zq_ic_0 ?_
            refine zi_iast (pc := 169) h (f := (fa 6)) 39 zq_k39 rfl (zz_ixN (j := c) hc2) zd_MO_begin_169 zn_u_f6 ?_
            refine zi_aload_n (pc := 170) h (i := 0) zd_MO_begin_170 rfl 2 rfl ?_
            refine zi_get (pc := 171) h zx_MO 26 16 zq_k26 rfl zq_j_16_18 zw_600 rfl zd_MO_begin_171 ?_
            refine zi_aload_n (pc := 174) h (i := 0) zd_MO_begin_174 rfl 2 rfl ?_
            refine zi_get (pc := 175) h zx_MO 26 8 zq_k26 rfl zq_j_8_18 zw_592 rfl zd_MO_begin_175 ?_
            refine zi_iconst (pc := 178) h zd_MO_begin_178 zq_ic_0 ?_
            refine zi_iast (pc := 179) h (f := (fa 7)) 40 zq_k40 rfl (zz_ixN (j := c) hc2) zd_MO_begin_179 zn_u_f7 ?_
            refine zi_aload_n (pc := 180) h (i := 0) zd_MO_begin_180 rfl 2 rfl ?_
            refine zi_dup (pc := 181) h zd_MO_begin_181 rfl ?_
            refine zi_get (pc := 182) h zx_MO 26 8 zq_k26 rfl zq_j_8_18 zw_592 rfl zd_MO_begin_182 ?_
            refine zi_iconst (pc := 185) h zd_MO_begin_185 zq_ic_1 ?_
            refine zi_iadd (pc := 186) h zd_MO_begin_186 ?_
            refine zi_topv (nI (c + 1)) (nI_1 c) ?_
            refine zi_put (pc := 187) h zx_MO 26 8 zq_k26 rfl zq_j_8_18 zw_592 rfl rfl rfl (Nat.le_of_ble_eq_true rfl) zd_MO_begin_187 zn_u_fn ?_
            refine zi_aload_n (pc := 190) h (i := 0) zd_MO_begin_190 rfl 2 rfl ?_
            refine zi_get (pc := 191) h zx_MO 26 8 zq_k26 rfl zq_j_8_18 zw_592 rfl zd_MO_begin_191 ?_
            refine zi_iconst (pc := 194) h zd_MO_begin_194 zq_ic_1 ?_
            refine zi_isub (pc := 195) h zd_MO_begin_195 ?_
            refine zi_topv (nI c) (nI_pred c) ?_
            exact zi_ireturn (pc := 196) h hr zd_MO_begin_196 rfl rfl
          · intro b50
            refine zi_iload (pc := 53) h (i := 6) zd_MO_begin_53 0 rfl ?_
            refine zi_if_eq_f (pc := 55) h (tgt := 68) zd_MO_begin_55 rfl (by decide) ?_
            refine zi_aload_n (pc := 58) h (i := 0) zd_MO_begin_58 rfl 1 rfl ?_
            refine zi_iload_n (pc := 59) h (i := 1) zd_MO_begin_59 rfl 2 rfl ?_
            refine zi_iload (pc := 60) h (i := 4) zd_MO_begin_60 5 rfl ?_
            refine zi_callV (pc := 62) h (st := []) (zc_MO_permitted hb) zm_MO_permitted zw_715 zx_MO zq_k26 rfl ⟨by decide, by decide⟩ zd_MO_begin_62 (Nat.le_of_ble_eq_true rfl) rfl ?_
            refine zi_if_ne_t (pc := 65) h (tgt := 71) zd_MO_begin_65 rfl (by have e := hm; unfold zv_may zv_st at e; (try rw [if_neg b9] at e); (try rw [if_pos b22] at e); (try rw [if_pos b34] at e); (try rw [if_neg b44] at e); (try rw [if_pos b50] at e); exact e) ?_
            refine zi_aload_n (pc := 71) h (i := 0) zd_MO_begin_71 rfl 1 rfl ?_
            refine zi_iload_n (pc := 72) h (i := 1) zd_MO_begin_72 rfl 2 rfl ?_
            refine zi_iload_n (pc := 73) h (i := 2) zd_MO_begin_73 rfl 3 rfl ?_
            refine zi_iload_n (pc := 74) h (i := 3) zd_MO_begin_74 rfl 4 rfl ?_
            refine zi_callV (pc := 75) h (st := []) (zc_MO_portFor hc) zm_MO_portFor zw_719 zx_MO zq_k26 rfl ⟨by decide, by decide⟩ zd_MO_begin_75 (Nat.le_of_ble_eq_true rfl) rfl ?_
            refine zi_istore (pc := 78) h (i := 7) (L' := [(7, _), (6, _), (0, _), (1, _), (2, _), (3, _), (4, _), (5, _)]) zd_MO_begin_78 (by decide) rfl ?_
            refine zi_aload_n (pc := 80) h (i := 0) zd_MO_begin_80 rfl 2 rfl ?_
            refine zi_get (pc := 81) h zx_MO 26 8 zq_k26 rfl zq_j_8_18 zw_592 rfl zd_MO_begin_81 ?_
            refine zi_bipush (pc := 84) h zd_MO_begin_84 zq_bi_12 ?_
            refine zi_icmp_eq_f (pc := 86) h (tgt := 94) zd_MO_begin_86 rfl (fun e => absurd ((nI_eq (b := 12) (by omega) (by decide)).mp e) (by omega)) ?_
            refine zi_iload (pc := 89) h (i := 7) zd_MO_begin_89 0 rfl ?_
            refine zi_if_ge_t (pc := 91) h (tgt := 97) zd_MO_begin_91 rfl hp ?_
            refine zi_aload_n (pc := 97) h (i := 0) zd_MO_begin_97 rfl 2 rfl ?_
            refine zi_get (pc := 98) h zx_MO 26 9 zq_k26 rfl zq_j_9_18 zw_593 rfl zd_MO_begin_98 ?_
            refine zi_aload_n (pc := 101) h (i := 0) zd_MO_begin_101 rfl 2 rfl ?_
            refine zi_get (pc := 102) h zx_MO 26 8 zq_k26 rfl zq_j_8_18 zw_592 rfl zd_MO_begin_102 ?_
            refine zi_iload_n (pc := 105) h (i := 1) zd_MO_begin_105 rfl 3 rfl ?_
            refine zi_iast (pc := 106) h (f := (fa 0)) 33 zq_k33 rfl (zz_ixN (j := c) hc2) zd_MO_begin_106 zn_u_f0 ?_
            refine zi_aload_n (pc := 107) h (i := 0) zd_MO_begin_107 rfl 2 rfl ?_
            refine zi_get (pc := 108) h zx_MO 26 10 zq_k26 rfl zq_j_10_18 zw_594 rfl zd_MO_begin_108 ?_
            refine zi_aload_n (pc := 111) h (i := 0) zd_MO_begin_111 rfl 2 rfl ?_
            refine zi_get (pc := 112) h zx_MO 26 8 zq_k26 rfl zq_j_8_18 zw_592 rfl zd_MO_begin_112 ?_
            refine zi_iload_n (pc := 115) h (i := 2) zd_MO_begin_115 rfl 4 rfl ?_
            refine zi_iast (pc := 116) h (f := (fa 1)) 34 zq_k34 rfl (zz_ixN (j := c) hc2) zd_MO_begin_116 zn_u_f1 ?_
            refine zi_aload_n (pc := 117) h (i := 0) zd_MO_begin_117 rfl 2 rfl ?_
            refine zi_get (pc := 118) h zx_MO 26 11 zq_k26 rfl zq_j_11_18 zw_595 rfl zd_MO_begin_118 ?_
            refine zi_aload_n (pc := 121) h (i := 0) zd_MO_begin_121 rfl 2 rfl ?_
            refine zi_get (pc := 122) h zx_MO 26 8 zq_k26 rfl zq_j_8_18 zw_592 rfl zd_MO_begin_122 ?_
            refine zi_iload_n (pc := 125) h (i := 3) zd_MO_begin_125 rfl 5 rfl ?_
            refine zi_iast (pc := 126) h (f := (fa 2)) 35 zq_k35 rfl (zz_ixN (j := c) hc2) zd_MO_begin_126 zn_u_f2 ?_
            refine zi_aload_n (pc := 127) h (i := 0) zd_MO_begin_127 rfl 2 rfl ?_
            refine zi_get (pc := 128) h zx_MO 26 12 zq_k26 rfl zq_j_12_18 zw_596 rfl zd_MO_begin_128 ?_
            refine zi_aload_n (pc := 131) h (i := 0) zd_MO_begin_131 rfl 2 rfl ?_
            refine zi_get (pc := 132) h zx_MO 26 8 zq_k26 rfl zq_j_8_18 zw_592 rfl zd_MO_begin_132 ?_
            refine zi_iload (pc := 135) h (i := 4) zd_MO_begin_135 6 rfl ?_
            refine zi_iast (pc := 137) h (f := (fa 3)) 36 zq_k36 rfl (zz_ixN (j := c) hc2) zd_MO_begin_137 zn_u_f3 ?_
            refine zi_aload_n (pc := 138) h (i := 0) zd_MO_begin_138 rfl 2 rfl ?_
            refine zi_get (pc := 139) h zx_MO 26 13 zq_k26 rfl zq_j_13_18 zw_597 rfl zd_MO_begin_139 ?_
            refine zi_aload_n (pc := 142) h (i := 0) zd_MO_begin_142 rfl 2 rfl ?_
            refine zi_get (pc := 143) h zx_MO 26 8 zq_k26 rfl zq_j_8_18 zw_592 rfl zd_MO_begin_143 ?_
            refine zi_iload (pc := 146) h (i := 5) zd_MO_begin_146 7 rfl ?_
            refine zi_iast (pc := 148) h (f := (fa 4)) 37 zq_k37 rfl (zz_ixN (j := c) hc2) zd_MO_begin_148 zn_u_f4 ?_
            refine zi_aload_n (pc := 149) h (i := 0) zd_MO_begin_149 rfl 2 rfl ?_
            refine zi_get (pc := 150) h zx_MO 26 14 zq_k26 rfl zq_j_14_18 zw_598 rfl zd_MO_begin_150 ?_
            refine zi_aload_n (pc := 153) h (i := 0) zd_MO_begin_153 rfl 2 rfl ?_
            refine zi_get (pc := 154) h zx_MO 26 8 zq_k26 rfl zq_j_8_18 zw_592 rfl zd_MO_begin_154 ?_
            refine zi_iload (pc := 157) h (i := 7) zd_MO_begin_157 0 rfl ?_
            refine zi_iast (pc := 159) h (f := (fa 5)) 38 zq_k38 rfl (zz_ixN (j := c) hc2) zd_MO_begin_159 zn_u_f5 ?_
            refine zi_aload_n (pc := 160) h (i := 0) zd_MO_begin_160 rfl 2 rfl ?_
            refine zi_get (pc := 161) h zx_MO 26 15 zq_k26 rfl zq_j_15_18 zw_599 rfl zd_MO_begin_161 ?_
            refine zi_aload_n (pc := 164) h (i := 0) zd_MO_begin_164 rfl 2 rfl ?_
            refine zi_get (pc := 165) h zx_MO 26 8 zq_k26 rfl zq_j_8_18 zw_592 rfl zd_MO_begin_165 ?_
            refine zi_iconst (pc := 168) h zd_MO_begin_168 zq_ic_0 ?_
            refine zi_iast (pc := 169) h (f := (fa 6)) 39 zq_k39 rfl (zz_ixN (j := c) hc2) zd_MO_begin_169 zn_u_f6 ?_
            refine zi_aload_n (pc := 170) h (i := 0) zd_MO_begin_170 rfl 2 rfl ?_
            refine zi_get (pc := 171) h zx_MO 26 16 zq_k26 rfl zq_j_16_18 zw_600 rfl zd_MO_begin_171 ?_
            refine zi_aload_n (pc := 174) h (i := 0) zd_MO_begin_174 rfl 2 rfl ?_
            refine zi_get (pc := 175) h zx_MO 26 8 zq_k26 rfl zq_j_8_18 zw_592 rfl zd_MO_begin_175 ?_
            refine zi_iconst (pc := 178) h zd_MO_begin_178 zq_ic_0 ?_
            refine zi_iast (pc := 179) h (f := (fa 7)) 40 zq_k40 rfl (zz_ixN (j := c) hc2) zd_MO_begin_179 zn_u_f7 ?_
            refine zi_aload_n (pc := 180) h (i := 0) zd_MO_begin_180 rfl 2 rfl ?_
            refine zi_dup (pc := 181) h zd_MO_begin_181 rfl ?_
            refine zi_get (pc := 182) h zx_MO 26 8 zq_k26 rfl zq_j_8_18 zw_592 rfl zd_MO_begin_182 ?_
            refine zi_iconst (pc := 185) h zd_MO_begin_185 zq_ic_1 ?_
            refine zi_iadd (pc := 186) h zd_MO_begin_186 ?_
            refine zi_topv (nI (c + 1)) (nI_1 c) ?_
            refine zi_put (pc := 187) h zx_MO 26 8 zq_k26 rfl zq_j_8_18 zw_592 rfl rfl rfl (Nat.le_of_ble_eq_true rfl) zd_MO_begin_187 zn_u_fn ?_
            refine zi_aload_n (pc := 190) h (i := 0) zd_MO_begin_190 rfl 2 rfl ?_
            refine zi_get (pc := 191) h zx_MO 26 8 zq_k26 rfl zq_j_8_18 zw_592 rfl zd_MO_begin_191 ?_
            refine zi_iconst (pc := 194) h zd_MO_begin_194 zq_ic_1 ?_
            refine zi_isub (pc := 195) h zd_MO_begin_195 ?_
            refine zi_topv (nI c) (nI_pred c) ?_
            exact zi_ireturn (pc := 196) h hr zd_MO_begin_196 rfl rfl

set_option maxRecDepth 20000 in
theorem zc_MO_foe_11x {l : Launch} {G : zz_G} {F : Nat → va_E} {w : Nat → Int32} {sz : Int32} {la : Nat → Int32} {lz : Int32} {ra : Nat → Nat → Int32} {fa : Nat → Nat → Int32} {cd : Int32} {c : Nat} (hk : w 18 &&& 255 = 1) (hf : ¬ zs_adr w 22 23 = zs_adr w 6 7) : zz_M l zy_MO_flowOfError zb_MO_flowOfError 6 (some .int) 1 28 G [.ref (G.2.2 26), .int 1] (zz_N G F w sz la lz ra (nI c) fa cd) (some (.int (-5))) (zz_N G F w sz la lz ra (nI c) fa cd) := by
  refine zz_M.of (by decide) (Nat.le_of_ble_eq_true rfl) ?_
  intro X hX h hr
  subst hX
  have h : zz_C X G (zz_A G.2.2) 6 zb_MO_flowOfError "PortTranslatorModel" 1 28 0 0 := h
  refine zi_aload_n (pc := 0) h (i := 0) zd_MO_flowOfError_0 rfl 0 rfl ?_
  refine zi_get (pc := 1) h zx_MO 26 0 zq_k26 rfl zq_j_0_18 zw_584 rfl zd_MO_flowOfError_1 ?_
  refine zi_bipush (pc := 4) h zd_MO_flowOfError_4 zq_bi_18 ?_
  refine zi_iald (pc := 6) h 27 zq_k27 rfl zq_in_18_48 zd_MO_flowOfError_6 ?_
  refine zi_sipush (pc := 7) h zd_MO_flowOfError_7 zq_si_255 ?_
  refine zi_iand (pc := 10) h zd_MO_flowOfError_10 ?_
  refine zi_istore_n (pc := 11) h (i := 2) (L' := [(2, _), (0, _), (1, _)]) zd_MO_flowOfError_11 rfl (by decide) rfl ?_
  refine zi_iload_n (pc := 12) h (i := 2) zd_MO_flowOfError_12 rfl 0 rfl ?_
  refine zi_iconst (pc := 13) h zd_MO_flowOfError_13 zq_ic_1 ?_
  refine zi_icmp_ne_f (pc := 14) h (tgt := 27) zd_MO_flowOfError_14 rfl hk ?_
  refine zi_aload_n (pc := 17) h (i := 0) zd_MO_flowOfError_17 rfl 1 rfl ?_
  refine zi_get (pc := 18) h zx_MO 26 0 zq_k26 rfl zq_j_0_18 zw_584 rfl zd_MO_flowOfError_18 ?_
  refine zi_bipush (pc := 21) h zd_MO_flowOfError_21 zq_bi_26 ?_
  refine zi_iald (pc := 23) h 27 zq_k27 rfl zq_in_26_48 zd_MO_flowOfError_23 ?_
  refine zi_goto (pc := 24) h (tgt := 34) zd_MO_flowOfError_24 rfl ?_
  refine zi_istore_n (pc := 34) h (i := 3) (L' := [(3, _), (2, _), (0, _), (1, _)]) zd_MO_flowOfError_34 rfl (by decide) rfl ?_
  refine zi_iload_n (pc := 35) h (i := 2) zd_MO_flowOfError_35 rfl 1 rfl ?_
  refine zi_iconst (pc := 36) h zd_MO_flowOfError_36 zq_ic_1 ?_
  refine zi_icmp_ne_f (pc := 37) h (tgt := 50) zd_MO_flowOfError_37 rfl hk ?_
  refine zi_aload_n (pc := 40) h (i := 0) zd_MO_flowOfError_40 rfl 2 rfl ?_
  refine zi_get (pc := 41) h zx_MO 26 0 zq_k26 rfl zq_j_0_18 zw_584 rfl zd_MO_flowOfError_41 ?_
  refine zi_bipush (pc := 44) h zd_MO_flowOfError_44 zq_bi_26 ?_
  refine zi_iald (pc := 46) h 27 zq_k27 rfl zq_in_26_48 zd_MO_flowOfError_46 ?_
  refine zi_goto (pc := 47) h (tgt := 57) zd_MO_flowOfError_47 rfl ?_
  refine zi_istore (pc := 57) h (i := 4) (L' := [(4, _), (3, _), (2, _), (0, _), (1, _)]) zd_MO_flowOfError_57 (by decide) rfl ?_
  refine zi_iconst (pc := 59) h zd_MO_flowOfError_59 zq_ic_m1 ?_
  refine zi_istore (pc := 60) h (i := 5) (L' := [(5, _), (4, _), (3, _), (2, _), (0, _), (1, _)]) zd_MO_flowOfError_60 (by decide) rfl ?_
  refine zi_iload_n (pc := 62) h (i := 1) zd_MO_flowOfError_62 rfl 5 rfl ?_
  refine zi_if_eq_f (pc := 63) h (tgt := 120) zd_MO_flowOfError_63 rfl (by decide) ?_
  refine zi_aload_n (pc := 66) h (i := 0) zd_MO_flowOfError_66 rfl 4 rfl ?_
  refine zi_bipush (pc := 67) h zd_MO_flowOfError_67 zq_bi_22 ?_
  refine zi_callV (pc := 69) h (st := []) (zc_MO_address (a := 22) (b := 23) zq_in_22_48 ⟨by decide, by decide, by decide⟩) zm_MO_address zw_690 zx_MO zq_k26 rfl ⟨by decide, by decide⟩ zd_MO_flowOfError_69 (Nat.le_of_ble_eq_true rfl) rfl ?_
  refine zi_aload_n (pc := 72) h (i := 0) zd_MO_flowOfError_72 rfl 4 rfl ?_
  refine zi_bipush (pc := 73) h zd_MO_flowOfError_73 zq_bi_6 ?_
  refine zi_callV (pc := 75) h (st := [_]) (zc_MO_address (a := 6) (b := 7) zq_in_6_48 ⟨by decide, by decide, by decide⟩) zm_MO_address zw_690 zx_MO zq_k26 rfl ⟨by decide, by decide⟩ zd_MO_flowOfError_75 (Nat.le_of_ble_eq_true rfl) rfl ?_
  refine zi_icmp_ne_t (pc := 78) h (tgt := 114) zd_MO_flowOfError_78 rfl hf ?_
  refine zi_iconst (pc := 114) h zd_MO_flowOfError_114 zq_ic_m1 ?_
  refine zi_istore (pc := 115) h (i := 5) (L' := [(5, _), (4, _), (3, _), (2, _), (0, _), (1, _)]) zd_MO_flowOfError_115 (by decide) rfl ?_
  refine zi_goto (pc := 117) h (tgt := 158) zd_MO_flowOfError_117 rfl ?_
  refine zi_iload (pc := 158) h (i := 5) zd_MO_flowOfError_158 0 rfl ?_
  refine zi_if_ge_f (pc := 160) h (tgt := 168) zd_MO_flowOfError_160 rfl (by decide) ?_
  refine zi_bipush (pc := 163) h zd_MO_flowOfError_163 zq_bi_m5 ?_
  refine zi_goto (pc := 165) h (tgt := 170) zd_MO_flowOfError_165 rfl ?_
  exact zi_ireturn (pc := 170) h hr zd_MO_flowOfError_170 rfl rfl

set_option maxRecDepth 20000 in
theorem zc_MO_foe_11n {l : Launch} {G : zz_G} {F : Nat → va_E} {w : Nat → Int32} {sz : Int32} {la : Nat → Int32} {lz : Int32} {ra : Nat → Nat → Int32} {fa : Nat → Nat → Int32} {cd : Int32} {c : Nat} (hc : c ≤ 12) (hk : w 18 &&& 255 = 1) (hf : zs_adr w 22 23 = zs_adr w 6 7) (hq : zs_ff (zv_mr fa (w 18 &&& 255) (zs_adr w 20 21) 0 (zs_adr w 22 23) (w 26)) 0 c = none) : zz_M l zy_MO_flowOfError zb_MO_flowOfError 6 (some .int) 1 28 G [.ref (G.2.2 26), .int 1] (zz_N G F w sz la lz ra (nI c) fa cd) (some (.int (-5))) (zz_N G F w sz la lz ra (nI c) fa cd) := by
  refine zz_M.of (by decide) (Nat.le_of_ble_eq_true rfl) ?_
  intro X hX h hr
  subst hX
  have h : zz_C X G (zz_A G.2.2) 6 zb_MO_flowOfError "PortTranslatorModel" 1 28 0 0 := h
  refine zi_aload_n (pc := 0) h (i := 0) zd_MO_flowOfError_0 rfl 0 rfl ?_
  refine zi_get (pc := 1) h zx_MO 26 0 zq_k26 rfl zq_j_0_18 zw_584 rfl zd_MO_flowOfError_1 ?_
  refine zi_bipush (pc := 4) h zd_MO_flowOfError_4 zq_bi_18 ?_
  refine zi_iald (pc := 6) h 27 zq_k27 rfl zq_in_18_48 zd_MO_flowOfError_6 ?_
  refine zi_sipush (pc := 7) h zd_MO_flowOfError_7 zq_si_255 ?_
  refine zi_iand (pc := 10) h zd_MO_flowOfError_10 ?_
  refine zi_istore_n (pc := 11) h (i := 2) (L' := [(2, _), (0, _), (1, _)]) zd_MO_flowOfError_11 rfl (by decide) rfl ?_
  refine zi_iload_n (pc := 12) h (i := 2) zd_MO_flowOfError_12 rfl 0 rfl ?_
  refine zi_iconst (pc := 13) h zd_MO_flowOfError_13 zq_ic_1 ?_
  refine zi_icmp_ne_f (pc := 14) h (tgt := 27) zd_MO_flowOfError_14 rfl hk ?_
  refine zi_aload_n (pc := 17) h (i := 0) zd_MO_flowOfError_17 rfl 1 rfl ?_
  refine zi_get (pc := 18) h zx_MO 26 0 zq_k26 rfl zq_j_0_18 zw_584 rfl zd_MO_flowOfError_18 ?_
  refine zi_bipush (pc := 21) h zd_MO_flowOfError_21 zq_bi_26 ?_
  refine zi_iald (pc := 23) h 27 zq_k27 rfl zq_in_26_48 zd_MO_flowOfError_23 ?_
  refine zi_goto (pc := 24) h (tgt := 34) zd_MO_flowOfError_24 rfl ?_
  refine zi_istore_n (pc := 34) h (i := 3) (L' := [(3, _), (2, _), (0, _), (1, _)]) zd_MO_flowOfError_34 rfl (by decide) rfl ?_
  refine zi_iload_n (pc := 35) h (i := 2) zd_MO_flowOfError_35 rfl 1 rfl ?_
  refine zi_iconst (pc := 36) h zd_MO_flowOfError_36 zq_ic_1 ?_
  refine zi_icmp_ne_f (pc := 37) h (tgt := 50) zd_MO_flowOfError_37 rfl hk ?_
  refine zi_aload_n (pc := 40) h (i := 0) zd_MO_flowOfError_40 rfl 2 rfl ?_
  refine zi_get (pc := 41) h zx_MO 26 0 zq_k26 rfl zq_j_0_18 zw_584 rfl zd_MO_flowOfError_41 ?_
  refine zi_bipush (pc := 44) h zd_MO_flowOfError_44 zq_bi_26 ?_
  refine zi_iald (pc := 46) h 27 zq_k27 rfl zq_in_26_48 zd_MO_flowOfError_46 ?_
  refine zi_goto (pc := 47) h (tgt := 57) zd_MO_flowOfError_47 rfl ?_
  refine zi_istore (pc := 57) h (i := 4) (L' := [(4, _), (3, _), (2, _), (0, _), (1, _)]) zd_MO_flowOfError_57 (by decide) rfl ?_
  refine zi_iconst (pc := 59) h zd_MO_flowOfError_59 zq_ic_m1 ?_
  refine zi_istore (pc := 60) h (i := 5) (L' := [(5, _), (4, _), (3, _), (2, _), (0, _), (1, _)]) zd_MO_flowOfError_60 (by decide) rfl ?_
  refine zi_iload_n (pc := 62) h (i := 1) zd_MO_flowOfError_62 rfl 5 rfl ?_
  refine zi_if_eq_f (pc := 63) h (tgt := 120) zd_MO_flowOfError_63 rfl (by decide) ?_
  refine zi_aload_n (pc := 66) h (i := 0) zd_MO_flowOfError_66 rfl 4 rfl ?_
  refine zi_bipush (pc := 67) h zd_MO_flowOfError_67 zq_bi_22 ?_
  refine zi_callV (pc := 69) h (st := []) (zc_MO_address (a := 22) (b := 23) zq_in_22_48 ⟨by decide, by decide, by decide⟩) zm_MO_address zw_690 zx_MO zq_k26 rfl ⟨by decide, by decide⟩ zd_MO_flowOfError_69 (Nat.le_of_ble_eq_true rfl) rfl ?_
  refine zi_aload_n (pc := 72) h (i := 0) zd_MO_flowOfError_72 rfl 4 rfl ?_
  refine zi_bipush (pc := 73) h zd_MO_flowOfError_73 zq_bi_6 ?_
  refine zi_callV (pc := 75) h (st := [_]) (zc_MO_address (a := 6) (b := 7) zq_in_6_48 ⟨by decide, by decide, by decide⟩) zm_MO_address zw_690 zx_MO zq_k26 rfl ⟨by decide, by decide⟩ zd_MO_flowOfError_75 (Nat.le_of_ble_eq_true rfl) rfl ?_
  refine zi_icmp_ne_f (pc := 78) h (tgt := 114) zd_MO_flowOfError_78 rfl hf ?_
  refine zi_aload_n (pc := 81) h (i := 0) zd_MO_flowOfError_81 rfl 4 rfl ?_
  refine zi_iload_n (pc := 82) h (i := 2) zd_MO_flowOfError_82 rfl 3 rfl ?_
  refine zi_aload_n (pc := 83) h (i := 0) zd_MO_flowOfError_83 rfl 4 rfl ?_
  refine zi_bipush (pc := 84) h zd_MO_flowOfError_84 zq_bi_20 ?_
  refine zi_callV (pc := 86) h (st := [_, _]) (zc_MO_address (a := 20) (b := 21) zq_in_20_48 ⟨by decide, by decide, by decide⟩) zm_MO_address zw_690 zx_MO zq_k26 rfl ⟨by decide, by decide⟩ zd_MO_flowOfError_86 (Nat.le_of_ble_eq_true rfl) rfl ?_
  refine zi_iload_n (pc := 89) h (i := 2) zd_MO_flowOfError_89 rfl 3 rfl ?_
  refine zi_iconst (pc := 90) h zd_MO_flowOfError_90 zq_ic_1 ?_
  refine zi_icmp_ne_f (pc := 91) h (tgt := 98) zd_MO_flowOfError_91 rfl hk ?_
  refine zi_iconst (pc := 94) h zd_MO_flowOfError_94 zq_ic_0 ?_
  refine zi_goto (pc := 95) h (tgt := 99) zd_MO_flowOfError_95 rfl ?_
  refine zi_iconst (pc := 99) h zd_MO_flowOfError_99 zq_ic_1 ?_
  refine zi_aload_n (pc := 100) h (i := 0) zd_MO_flowOfError_100 rfl 4 rfl ?_
  refine zi_bipush (pc := 101) h zd_MO_flowOfError_101 zq_bi_22 ?_
  refine zi_callV (pc := 103) h (st := [_, _, _, _, _]) (zc_MO_address (a := 22) (b := 23) zq_in_22_48 ⟨by decide, by decide, by decide⟩) zm_MO_address zw_690 zx_MO zq_k26 rfl ⟨by decide, by decide⟩ zd_MO_flowOfError_103 (Nat.le_of_ble_eq_true rfl) rfl ?_
  refine zi_iload (pc := 106) h (i := 4) zd_MO_flowOfError_106 1 rfl ?_
  refine zi_callV (pc := 108) h (st := []) (zc_MO_find_rn hc hq) zm_MO_find zw_707 zx_MO zq_k26 rfl ⟨by decide, by decide⟩ zd_MO_flowOfError_108 (Nat.le_of_ble_eq_true rfl) rfl ?_
  refine zi_goto (pc := 111) h (tgt := 115) zd_MO_flowOfError_111 rfl ?_
  refine zi_istore (pc := 115) h (i := 5) (L' := [(5, _), (4, _), (3, _), (2, _), (0, _), (1, _)]) zd_MO_flowOfError_115 (by decide) rfl ?_
  refine zi_goto (pc := 117) h (tgt := 158) zd_MO_flowOfError_117 rfl ?_
  refine zi_iload (pc := 158) h (i := 5) zd_MO_flowOfError_158 0 rfl ?_
  refine zi_if_ge_f (pc := 160) h (tgt := 168) zd_MO_flowOfError_160 rfl (by decide) ?_
  refine zi_bipush (pc := 163) h zd_MO_flowOfError_163 zq_bi_m5 ?_
  refine zi_goto (pc := 165) h (tgt := 170) zd_MO_flowOfError_165 rfl ?_
  exact zi_ireturn (pc := 170) h hr zd_MO_flowOfError_170 rfl rfl

set_option maxRecDepth 20000 in
theorem zc_MO_foe_11s {l : Launch} {G : zz_G} {F : Nat → va_E} {w : Nat → Int32} {sz : Int32} {la : Nat → Int32} {lz : Int32} {ra : Nat → Nat → Int32} {fa : Nat → Nat → Int32} {cd : Int32} {c i : Nat} (hc : c ≤ 12) (hi : i < c) (hk : w 18 &&& 255 = 1) (hf : zs_adr w 22 23 = zs_adr w 6 7) (hq : zs_ff (zv_mr fa (w 18 &&& 255) (zs_adr w 20 21) 0 (zs_adr w 22 23) (w 26)) 0 c = some i) : zz_M l zy_MO_flowOfError zb_MO_flowOfError 6 (some .int) 1 28 G [.ref (G.2.2 26), .int 1] (zz_N G F w sz la lz ra (nI c) fa cd) (some (.int (nI i))) (zz_N G F w sz la lz ra (nI c) fa cd) := by
  refine zz_M.of (by decide) (Nat.le_of_ble_eq_true rfl) ?_
  intro X hX h hr
  subst hX
  have h : zz_C X G (zz_A G.2.2) 6 zb_MO_flowOfError "PortTranslatorModel" 1 28 0 0 := h
  refine zi_aload_n (pc := 0) h (i := 0) zd_MO_flowOfError_0 rfl 0 rfl ?_
  refine zi_get (pc := 1) h zx_MO 26 0 zq_k26 rfl zq_j_0_18 zw_584 rfl zd_MO_flowOfError_1 ?_
  refine zi_bipush (pc := 4) h zd_MO_flowOfError_4 zq_bi_18 ?_
  refine zi_iald (pc := 6) h 27 zq_k27 rfl zq_in_18_48 zd_MO_flowOfError_6 ?_
  refine zi_sipush (pc := 7) h zd_MO_flowOfError_7 zq_si_255 ?_
  refine zi_iand (pc := 10) h zd_MO_flowOfError_10 ?_
  refine zi_istore_n (pc := 11) h (i := 2) (L' := [(2, _), (0, _), (1, _)]) zd_MO_flowOfError_11 rfl (by decide) rfl ?_
  refine zi_iload_n (pc := 12) h (i := 2) zd_MO_flowOfError_12 rfl 0 rfl ?_
  refine zi_iconst (pc := 13) h zd_MO_flowOfError_13 zq_ic_1 ?_
  refine zi_icmp_ne_f (pc := 14) h (tgt := 27) zd_MO_flowOfError_14 rfl hk ?_
  refine zi_aload_n (pc := 17) h (i := 0) zd_MO_flowOfError_17 rfl 1 rfl ?_
  refine zi_get (pc := 18) h zx_MO 26 0 zq_k26 rfl zq_j_0_18 zw_584 rfl zd_MO_flowOfError_18 ?_
  refine zi_bipush (pc := 21) h zd_MO_flowOfError_21 zq_bi_26 ?_
  refine zi_iald (pc := 23) h 27 zq_k27 rfl zq_in_26_48 zd_MO_flowOfError_23 ?_
  refine zi_goto (pc := 24) h (tgt := 34) zd_MO_flowOfError_24 rfl ?_
  refine zi_istore_n (pc := 34) h (i := 3) (L' := [(3, _), (2, _), (0, _), (1, _)]) zd_MO_flowOfError_34 rfl (by decide) rfl ?_
  refine zi_iload_n (pc := 35) h (i := 2) zd_MO_flowOfError_35 rfl 1 rfl ?_
  refine zi_iconst (pc := 36) h zd_MO_flowOfError_36 zq_ic_1 ?_
  refine zi_icmp_ne_f (pc := 37) h (tgt := 50) zd_MO_flowOfError_37 rfl hk ?_
  refine zi_aload_n (pc := 40) h (i := 0) zd_MO_flowOfError_40 rfl 2 rfl ?_
  refine zi_get (pc := 41) h zx_MO 26 0 zq_k26 rfl zq_j_0_18 zw_584 rfl zd_MO_flowOfError_41 ?_
  refine zi_bipush (pc := 44) h zd_MO_flowOfError_44 zq_bi_26 ?_
  refine zi_iald (pc := 46) h 27 zq_k27 rfl zq_in_26_48 zd_MO_flowOfError_46 ?_
  refine zi_goto (pc := 47) h (tgt := 57) zd_MO_flowOfError_47 rfl ?_
  refine zi_istore (pc := 57) h (i := 4) (L' := [(4, _), (3, _), (2, _), (0, _), (1, _)]) zd_MO_flowOfError_57 (by decide) rfl ?_
  refine zi_iconst (pc := 59) h zd_MO_flowOfError_59 zq_ic_m1 ?_
  refine zi_istore (pc := 60) h (i := 5) (L' := [(5, _), (4, _), (3, _), (2, _), (0, _), (1, _)]) zd_MO_flowOfError_60 (by decide) rfl ?_
  refine zi_iload_n (pc := 62) h (i := 1) zd_MO_flowOfError_62 rfl 5 rfl ?_
  refine zi_if_eq_f (pc := 63) h (tgt := 120) zd_MO_flowOfError_63 rfl (by decide) ?_
  refine zi_aload_n (pc := 66) h (i := 0) zd_MO_flowOfError_66 rfl 4 rfl ?_
  refine zi_bipush (pc := 67) h zd_MO_flowOfError_67 zq_bi_22 ?_
  refine zi_callV (pc := 69) h (st := []) (zc_MO_address (a := 22) (b := 23) zq_in_22_48 ⟨by decide, by decide, by decide⟩) zm_MO_address zw_690 zx_MO zq_k26 rfl ⟨by decide, by decide⟩ zd_MO_flowOfError_69 (Nat.le_of_ble_eq_true rfl) rfl ?_
  refine zi_aload_n (pc := 72) h (i := 0) zd_MO_flowOfError_72 rfl 4 rfl ?_
  refine zi_bipush (pc := 73) h zd_MO_flowOfError_73 zq_bi_6 ?_
  refine zi_callV (pc := 75) h (st := [_]) (zc_MO_address (a := 6) (b := 7) zq_in_6_48 ⟨by decide, by decide, by decide⟩) zm_MO_address zw_690 zx_MO zq_k26 rfl ⟨by decide, by decide⟩ zd_MO_flowOfError_75 (Nat.le_of_ble_eq_true rfl) rfl ?_
  refine zi_icmp_ne_f (pc := 78) h (tgt := 114) zd_MO_flowOfError_78 rfl hf ?_
  refine zi_aload_n (pc := 81) h (i := 0) zd_MO_flowOfError_81 rfl 4 rfl ?_
  refine zi_iload_n (pc := 82) h (i := 2) zd_MO_flowOfError_82 rfl 3 rfl ?_
  refine zi_aload_n (pc := 83) h (i := 0) zd_MO_flowOfError_83 rfl 4 rfl ?_
  refine zi_bipush (pc := 84) h zd_MO_flowOfError_84 zq_bi_20 ?_
  refine zi_callV (pc := 86) h (st := [_, _]) (zc_MO_address (a := 20) (b := 21) zq_in_20_48 ⟨by decide, by decide, by decide⟩) zm_MO_address zw_690 zx_MO zq_k26 rfl ⟨by decide, by decide⟩ zd_MO_flowOfError_86 (Nat.le_of_ble_eq_true rfl) rfl ?_
  refine zi_iload_n (pc := 89) h (i := 2) zd_MO_flowOfError_89 rfl 3 rfl ?_
  refine zi_iconst (pc := 90) h zd_MO_flowOfError_90 zq_ic_1 ?_
  refine zi_icmp_ne_f (pc := 91) h (tgt := 98) zd_MO_flowOfError_91 rfl hk ?_
  refine zi_iconst (pc := 94) h zd_MO_flowOfError_94 zq_ic_0 ?_
  refine zi_goto (pc := 95) h (tgt := 99) zd_MO_flowOfError_95 rfl ?_
  refine zi_iconst (pc := 99) h zd_MO_flowOfError_99 zq_ic_1 ?_
  refine zi_aload_n (pc := 100) h (i := 0) zd_MO_flowOfError_100 rfl 4 rfl ?_
  refine zi_bipush (pc := 101) h zd_MO_flowOfError_101 zq_bi_22 ?_
  refine zi_callV (pc := 103) h (st := [_, _, _, _, _]) (zc_MO_address (a := 22) (b := 23) zq_in_22_48 ⟨by decide, by decide, by decide⟩) zm_MO_address zw_690 zx_MO zq_k26 rfl ⟨by decide, by decide⟩ zd_MO_flowOfError_103 (Nat.le_of_ble_eq_true rfl) rfl ?_
  refine zi_iload (pc := 106) h (i := 4) zd_MO_flowOfError_106 1 rfl ?_
  refine zi_callV (pc := 108) h (st := []) (zc_MO_find_rs hc hq) zm_MO_find zw_707 zx_MO zq_k26 rfl ⟨by decide, by decide⟩ zd_MO_flowOfError_108 (Nat.le_of_ble_eq_true rfl) rfl ?_
  refine zi_goto (pc := 111) h (tgt := 115) zd_MO_flowOfError_111 rfl ?_
  refine zi_istore (pc := 115) h (i := 5) (L' := [(5, _), (4, _), (3, _), (2, _), (0, _), (1, _)]) zd_MO_flowOfError_115 (by decide) rfl ?_
  refine zi_goto (pc := 117) h (tgt := 158) zd_MO_flowOfError_117 rfl ?_
  refine zi_iload (pc := 158) h (i := 5) zd_MO_flowOfError_158 0 rfl ?_
  refine zi_if_ge_t (pc := 160) h (tgt := 168) zd_MO_flowOfError_160 rfl (nI_pos' (by omega)) ?_
  refine zi_iload (pc := 168) h (i := 5) zd_MO_flowOfError_168 0 rfl ?_
  exact zi_ireturn (pc := 170) h hr zd_MO_flowOfError_170 rfl rfl

set_option maxRecDepth 20000 in
theorem zc_MO_foe_10x {l : Launch} {G : zz_G} {F : Nat → va_E} {w : Nat → Int32} {sz : Int32} {la : Nat → Int32} {lz : Int32} {ra : Nat → Nat → Int32} {fa : Nat → Nat → Int32} {cd : Int32} {c : Nat} (hk : ¬ w 18 &&& 255 = 1) (hf : ¬ zs_adr w 22 23 = zs_adr w 6 7) : zz_M l zy_MO_flowOfError zb_MO_flowOfError 6 (some .int) 1 28 G [.ref (G.2.2 26), .int 1] (zz_N G F w sz la lz ra (nI c) fa cd) (some (.int (-5))) (zz_N G F w sz la lz ra (nI c) fa cd) := by
  refine zz_M.of (by decide) (Nat.le_of_ble_eq_true rfl) ?_
  intro X hX h hr
  subst hX
  have h : zz_C X G (zz_A G.2.2) 6 zb_MO_flowOfError "PortTranslatorModel" 1 28 0 0 := h
  refine zi_aload_n (pc := 0) h (i := 0) zd_MO_flowOfError_0 rfl 0 rfl ?_
  refine zi_get (pc := 1) h zx_MO 26 0 zq_k26 rfl zq_j_0_18 zw_584 rfl zd_MO_flowOfError_1 ?_
  refine zi_bipush (pc := 4) h zd_MO_flowOfError_4 zq_bi_18 ?_
  refine zi_iald (pc := 6) h 27 zq_k27 rfl zq_in_18_48 zd_MO_flowOfError_6 ?_
  refine zi_sipush (pc := 7) h zd_MO_flowOfError_7 zq_si_255 ?_
  refine zi_iand (pc := 10) h zd_MO_flowOfError_10 ?_
  refine zi_istore_n (pc := 11) h (i := 2) (L' := [(2, _), (0, _), (1, _)]) zd_MO_flowOfError_11 rfl (by decide) rfl ?_
  refine zi_iload_n (pc := 12) h (i := 2) zd_MO_flowOfError_12 rfl 0 rfl ?_
  refine zi_iconst (pc := 13) h zd_MO_flowOfError_13 zq_ic_1 ?_
  refine zi_icmp_ne_t (pc := 14) h (tgt := 27) zd_MO_flowOfError_14 rfl hk ?_
  refine zi_aload_n (pc := 27) h (i := 0) zd_MO_flowOfError_27 rfl 1 rfl ?_
  refine zi_get (pc := 28) h zx_MO 26 0 zq_k26 rfl zq_j_0_18 zw_584 rfl zd_MO_flowOfError_28 ?_
  refine zi_bipush (pc := 31) h zd_MO_flowOfError_31 zq_bi_24 ?_
  refine zi_iald (pc := 33) h 27 zq_k27 rfl zq_in_24_48 zd_MO_flowOfError_33 ?_
  refine zi_istore_n (pc := 34) h (i := 3) (L' := [(3, _), (2, _), (0, _), (1, _)]) zd_MO_flowOfError_34 rfl (by decide) rfl ?_
  refine zi_iload_n (pc := 35) h (i := 2) zd_MO_flowOfError_35 rfl 1 rfl ?_
  refine zi_iconst (pc := 36) h zd_MO_flowOfError_36 zq_ic_1 ?_
  refine zi_icmp_ne_t (pc := 37) h (tgt := 50) zd_MO_flowOfError_37 rfl hk ?_
  refine zi_aload_n (pc := 50) h (i := 0) zd_MO_flowOfError_50 rfl 2 rfl ?_
  refine zi_get (pc := 51) h zx_MO 26 0 zq_k26 rfl zq_j_0_18 zw_584 rfl zd_MO_flowOfError_51 ?_
  refine zi_bipush (pc := 54) h zd_MO_flowOfError_54 zq_bi_25 ?_
  refine zi_iald (pc := 56) h 27 zq_k27 rfl zq_in_25_48 zd_MO_flowOfError_56 ?_
  refine zi_istore (pc := 57) h (i := 4) (L' := [(4, _), (3, _), (2, _), (0, _), (1, _)]) zd_MO_flowOfError_57 (by decide) rfl ?_
  refine zi_iconst (pc := 59) h zd_MO_flowOfError_59 zq_ic_m1 ?_
  refine zi_istore (pc := 60) h (i := 5) (L' := [(5, _), (4, _), (3, _), (2, _), (0, _), (1, _)]) zd_MO_flowOfError_60 (by decide) rfl ?_
  refine zi_iload_n (pc := 62) h (i := 1) zd_MO_flowOfError_62 rfl 5 rfl ?_
  refine zi_if_eq_f (pc := 63) h (tgt := 120) zd_MO_flowOfError_63 rfl (by decide) ?_
  refine zi_aload_n (pc := 66) h (i := 0) zd_MO_flowOfError_66 rfl 4 rfl ?_
  refine zi_bipush (pc := 67) h zd_MO_flowOfError_67 zq_bi_22 ?_
  refine zi_callV (pc := 69) h (st := []) (zc_MO_address (a := 22) (b := 23) zq_in_22_48 ⟨by decide, by decide, by decide⟩) zm_MO_address zw_690 zx_MO zq_k26 rfl ⟨by decide, by decide⟩ zd_MO_flowOfError_69 (Nat.le_of_ble_eq_true rfl) rfl ?_
  refine zi_aload_n (pc := 72) h (i := 0) zd_MO_flowOfError_72 rfl 4 rfl ?_
  refine zi_bipush (pc := 73) h zd_MO_flowOfError_73 zq_bi_6 ?_
  refine zi_callV (pc := 75) h (st := [_]) (zc_MO_address (a := 6) (b := 7) zq_in_6_48 ⟨by decide, by decide, by decide⟩) zm_MO_address zw_690 zx_MO zq_k26 rfl ⟨by decide, by decide⟩ zd_MO_flowOfError_75 (Nat.le_of_ble_eq_true rfl) rfl ?_
  refine zi_icmp_ne_t (pc := 78) h (tgt := 114) zd_MO_flowOfError_78 rfl hf ?_
  refine zi_iconst (pc := 114) h zd_MO_flowOfError_114 zq_ic_m1 ?_
  refine zi_istore (pc := 115) h (i := 5) (L' := [(5, _), (4, _), (3, _), (2, _), (0, _), (1, _)]) zd_MO_flowOfError_115 (by decide) rfl ?_
  refine zi_goto (pc := 117) h (tgt := 158) zd_MO_flowOfError_117 rfl ?_
  refine zi_iload (pc := 158) h (i := 5) zd_MO_flowOfError_158 0 rfl ?_
  refine zi_if_ge_f (pc := 160) h (tgt := 168) zd_MO_flowOfError_160 rfl (by decide) ?_
  refine zi_bipush (pc := 163) h zd_MO_flowOfError_163 zq_bi_m5 ?_
  refine zi_goto (pc := 165) h (tgt := 170) zd_MO_flowOfError_165 rfl ?_
  exact zi_ireturn (pc := 170) h hr zd_MO_flowOfError_170 rfl rfl

set_option maxRecDepth 20000 in
theorem zc_MO_foe_10n {l : Launch} {G : zz_G} {F : Nat → va_E} {w : Nat → Int32} {sz : Int32} {la : Nat → Int32} {lz : Int32} {ra : Nat → Nat → Int32} {fa : Nat → Nat → Int32} {cd : Int32} {c : Nat} (hc : c ≤ 12) (hk : ¬ w 18 &&& 255 = 1) (hf : zs_adr w 22 23 = zs_adr w 6 7) (hq : zs_ff (zv_mr fa (w 18 &&& 255) (zs_adr w 20 21) (w 24) (zs_adr w 22 23) (w 25)) 0 c = none) : zz_M l zy_MO_flowOfError zb_MO_flowOfError 6 (some .int) 1 28 G [.ref (G.2.2 26), .int 1] (zz_N G F w sz la lz ra (nI c) fa cd) (some (.int (-5))) (zz_N G F w sz la lz ra (nI c) fa cd) := by
  refine zz_M.of (by decide) (Nat.le_of_ble_eq_true rfl) ?_
  intro X hX h hr
  subst hX
  have h : zz_C X G (zz_A G.2.2) 6 zb_MO_flowOfError "PortTranslatorModel" 1 28 0 0 := h
  refine zi_aload_n (pc := 0) h (i := 0) zd_MO_flowOfError_0 rfl 0 rfl ?_
  refine zi_get (pc := 1) h zx_MO 26 0 zq_k26 rfl zq_j_0_18 zw_584 rfl zd_MO_flowOfError_1 ?_
  refine zi_bipush (pc := 4) h zd_MO_flowOfError_4 zq_bi_18 ?_
  refine zi_iald (pc := 6) h 27 zq_k27 rfl zq_in_18_48 zd_MO_flowOfError_6 ?_
  refine zi_sipush (pc := 7) h zd_MO_flowOfError_7 zq_si_255 ?_
  refine zi_iand (pc := 10) h zd_MO_flowOfError_10 ?_
  refine zi_istore_n (pc := 11) h (i := 2) (L' := [(2, _), (0, _), (1, _)]) zd_MO_flowOfError_11 rfl (by decide) rfl ?_
  refine zi_iload_n (pc := 12) h (i := 2) zd_MO_flowOfError_12 rfl 0 rfl ?_
  refine zi_iconst (pc := 13) h zd_MO_flowOfError_13 zq_ic_1 ?_
  refine zi_icmp_ne_t (pc := 14) h (tgt := 27) zd_MO_flowOfError_14 rfl hk ?_
  refine zi_aload_n (pc := 27) h (i := 0) zd_MO_flowOfError_27 rfl 1 rfl ?_
  refine zi_get (pc := 28) h zx_MO 26 0 zq_k26 rfl zq_j_0_18 zw_584 rfl zd_MO_flowOfError_28 ?_
  refine zi_bipush (pc := 31) h zd_MO_flowOfError_31 zq_bi_24 ?_
  refine zi_iald (pc := 33) h 27 zq_k27 rfl zq_in_24_48 zd_MO_flowOfError_33 ?_
  refine zi_istore_n (pc := 34) h (i := 3) (L' := [(3, _), (2, _), (0, _), (1, _)]) zd_MO_flowOfError_34 rfl (by decide) rfl ?_
  refine zi_iload_n (pc := 35) h (i := 2) zd_MO_flowOfError_35 rfl 1 rfl ?_
  refine zi_iconst (pc := 36) h zd_MO_flowOfError_36 zq_ic_1 ?_
  refine zi_icmp_ne_t (pc := 37) h (tgt := 50) zd_MO_flowOfError_37 rfl hk ?_
  refine zi_aload_n (pc := 50) h (i := 0) zd_MO_flowOfError_50 rfl 2 rfl ?_
  refine zi_get (pc := 51) h zx_MO 26 0 zq_k26 rfl zq_j_0_18 zw_584 rfl zd_MO_flowOfError_51 ?_
  refine zi_bipush (pc := 54) h zd_MO_flowOfError_54 zq_bi_25 ?_
  refine zi_iald (pc := 56) h 27 zq_k27 rfl zq_in_25_48 zd_MO_flowOfError_56 ?_
  refine zi_istore (pc := 57) h (i := 4) (L' := [(4, _), (3, _), (2, _), (0, _), (1, _)]) zd_MO_flowOfError_57 (by decide) rfl ?_
  refine zi_iconst (pc := 59) h zd_MO_flowOfError_59 zq_ic_m1 ?_
  refine zi_istore (pc := 60) h (i := 5) (L' := [(5, _), (4, _), (3, _), (2, _), (0, _), (1, _)]) zd_MO_flowOfError_60 (by decide) rfl ?_
  refine zi_iload_n (pc := 62) h (i := 1) zd_MO_flowOfError_62 rfl 5 rfl ?_
  refine zi_if_eq_f (pc := 63) h (tgt := 120) zd_MO_flowOfError_63 rfl (by decide) ?_
  refine zi_aload_n (pc := 66) h (i := 0) zd_MO_flowOfError_66 rfl 4 rfl ?_
  refine zi_bipush (pc := 67) h zd_MO_flowOfError_67 zq_bi_22 ?_
  refine zi_callV (pc := 69) h (st := []) (zc_MO_address (a := 22) (b := 23) zq_in_22_48 ⟨by decide, by decide, by decide⟩) zm_MO_address zw_690 zx_MO zq_k26 rfl ⟨by decide, by decide⟩ zd_MO_flowOfError_69 (Nat.le_of_ble_eq_true rfl) rfl ?_
  refine zi_aload_n (pc := 72) h (i := 0) zd_MO_flowOfError_72 rfl 4 rfl ?_
  refine zi_bipush (pc := 73) h zd_MO_flowOfError_73 zq_bi_6 ?_
  refine zi_callV (pc := 75) h (st := [_]) (zc_MO_address (a := 6) (b := 7) zq_in_6_48 ⟨by decide, by decide, by decide⟩) zm_MO_address zw_690 zx_MO zq_k26 rfl ⟨by decide, by decide⟩ zd_MO_flowOfError_75 (Nat.le_of_ble_eq_true rfl) rfl ?_
  refine zi_icmp_ne_f (pc := 78) h (tgt := 114) zd_MO_flowOfError_78 rfl hf ?_
  refine zi_aload_n (pc := 81) h (i := 0) zd_MO_flowOfError_81 rfl 4 rfl ?_
  refine zi_iload_n (pc := 82) h (i := 2) zd_MO_flowOfError_82 rfl 3 rfl ?_
  refine zi_aload_n (pc := 83) h (i := 0) zd_MO_flowOfError_83 rfl 4 rfl ?_
  refine zi_bipush (pc := 84) h zd_MO_flowOfError_84 zq_bi_20 ?_
  refine zi_callV (pc := 86) h (st := [_, _]) (zc_MO_address (a := 20) (b := 21) zq_in_20_48 ⟨by decide, by decide, by decide⟩) zm_MO_address zw_690 zx_MO zq_k26 rfl ⟨by decide, by decide⟩ zd_MO_flowOfError_86 (Nat.le_of_ble_eq_true rfl) rfl ?_
  refine zi_iload_n (pc := 89) h (i := 2) zd_MO_flowOfError_89 rfl 3 rfl ?_
  refine zi_iconst (pc := 90) h zd_MO_flowOfError_90 zq_ic_1 ?_
  refine zi_icmp_ne_t (pc := 91) h (tgt := 98) zd_MO_flowOfError_91 rfl hk ?_
  refine zi_iload_n (pc := 98) h (i := 3) zd_MO_flowOfError_98 rfl 2 rfl ?_
  refine zi_iconst (pc := 99) h zd_MO_flowOfError_99 zq_ic_1 ?_
  refine zi_aload_n (pc := 100) h (i := 0) zd_MO_flowOfError_100 rfl 4 rfl ?_
  refine zi_bipush (pc := 101) h zd_MO_flowOfError_101 zq_bi_22 ?_
  refine zi_callV (pc := 103) h (st := [_, _, _, _, _]) (zc_MO_address (a := 22) (b := 23) zq_in_22_48 ⟨by decide, by decide, by decide⟩) zm_MO_address zw_690 zx_MO zq_k26 rfl ⟨by decide, by decide⟩ zd_MO_flowOfError_103 (Nat.le_of_ble_eq_true rfl) rfl ?_
  refine zi_iload (pc := 106) h (i := 4) zd_MO_flowOfError_106 1 rfl ?_
  refine zi_callV (pc := 108) h (st := []) (zc_MO_find_rn hc hq) zm_MO_find zw_707 zx_MO zq_k26 rfl ⟨by decide, by decide⟩ zd_MO_flowOfError_108 (Nat.le_of_ble_eq_true rfl) rfl ?_
  refine zi_goto (pc := 111) h (tgt := 115) zd_MO_flowOfError_111 rfl ?_
  refine zi_istore (pc := 115) h (i := 5) (L' := [(5, _), (4, _), (3, _), (2, _), (0, _), (1, _)]) zd_MO_flowOfError_115 (by decide) rfl ?_
  refine zi_goto (pc := 117) h (tgt := 158) zd_MO_flowOfError_117 rfl ?_
  refine zi_iload (pc := 158) h (i := 5) zd_MO_flowOfError_158 0 rfl ?_
  refine zi_if_ge_f (pc := 160) h (tgt := 168) zd_MO_flowOfError_160 rfl (by decide) ?_
  refine zi_bipush (pc := 163) h zd_MO_flowOfError_163 zq_bi_m5 ?_
  refine zi_goto (pc := 165) h (tgt := 170) zd_MO_flowOfError_165 rfl ?_
  exact zi_ireturn (pc := 170) h hr zd_MO_flowOfError_170 rfl rfl

set_option maxRecDepth 20000 in
theorem zc_MO_foe_10s {l : Launch} {G : zz_G} {F : Nat → va_E} {w : Nat → Int32} {sz : Int32} {la : Nat → Int32} {lz : Int32} {ra : Nat → Nat → Int32} {fa : Nat → Nat → Int32} {cd : Int32} {c i : Nat} (hc : c ≤ 12) (hi : i < c) (hk : ¬ w 18 &&& 255 = 1) (hf : zs_adr w 22 23 = zs_adr w 6 7) (hq : zs_ff (zv_mr fa (w 18 &&& 255) (zs_adr w 20 21) (w 24) (zs_adr w 22 23) (w 25)) 0 c = some i) : zz_M l zy_MO_flowOfError zb_MO_flowOfError 6 (some .int) 1 28 G [.ref (G.2.2 26), .int 1] (zz_N G F w sz la lz ra (nI c) fa cd) (some (.int (nI i))) (zz_N G F w sz la lz ra (nI c) fa cd) := by
  refine zz_M.of (by decide) (Nat.le_of_ble_eq_true rfl) ?_
  intro X hX h hr
  subst hX
  have h : zz_C X G (zz_A G.2.2) 6 zb_MO_flowOfError "PortTranslatorModel" 1 28 0 0 := h
  refine zi_aload_n (pc := 0) h (i := 0) zd_MO_flowOfError_0 rfl 0 rfl ?_
  refine zi_get (pc := 1) h zx_MO 26 0 zq_k26 rfl zq_j_0_18 zw_584 rfl zd_MO_flowOfError_1 ?_
  refine zi_bipush (pc := 4) h zd_MO_flowOfError_4 zq_bi_18 ?_
  refine zi_iald (pc := 6) h 27 zq_k27 rfl zq_in_18_48 zd_MO_flowOfError_6 ?_
  refine zi_sipush (pc := 7) h zd_MO_flowOfError_7 zq_si_255 ?_
  refine zi_iand (pc := 10) h zd_MO_flowOfError_10 ?_
  refine zi_istore_n (pc := 11) h (i := 2) (L' := [(2, _), (0, _), (1, _)]) zd_MO_flowOfError_11 rfl (by decide) rfl ?_
  refine zi_iload_n (pc := 12) h (i := 2) zd_MO_flowOfError_12 rfl 0 rfl ?_
  refine zi_iconst (pc := 13) h zd_MO_flowOfError_13 zq_ic_1 ?_
  refine zi_icmp_ne_t (pc := 14) h (tgt := 27) zd_MO_flowOfError_14 rfl hk ?_
  refine zi_aload_n (pc := 27) h (i := 0) zd_MO_flowOfError_27 rfl 1 rfl ?_
  refine zi_get (pc := 28) h zx_MO 26 0 zq_k26 rfl zq_j_0_18 zw_584 rfl zd_MO_flowOfError_28 ?_
  refine zi_bipush (pc := 31) h zd_MO_flowOfError_31 zq_bi_24 ?_
  refine zi_iald (pc := 33) h 27 zq_k27 rfl zq_in_24_48 zd_MO_flowOfError_33 ?_
  refine zi_istore_n (pc := 34) h (i := 3) (L' := [(3, _), (2, _), (0, _), (1, _)]) zd_MO_flowOfError_34 rfl (by decide) rfl ?_
  refine zi_iload_n (pc := 35) h (i := 2) zd_MO_flowOfError_35 rfl 1 rfl ?_
  refine zi_iconst (pc := 36) h zd_MO_flowOfError_36 zq_ic_1 ?_
  refine zi_icmp_ne_t (pc := 37) h (tgt := 50) zd_MO_flowOfError_37 rfl hk ?_
  refine zi_aload_n (pc := 50) h (i := 0) zd_MO_flowOfError_50 rfl 2 rfl ?_
  refine zi_get (pc := 51) h zx_MO 26 0 zq_k26 rfl zq_j_0_18 zw_584 rfl zd_MO_flowOfError_51 ?_
  refine zi_bipush (pc := 54) h zd_MO_flowOfError_54 zq_bi_25 ?_
  refine zi_iald (pc := 56) h 27 zq_k27 rfl zq_in_25_48 zd_MO_flowOfError_56 ?_
  refine zi_istore (pc := 57) h (i := 4) (L' := [(4, _), (3, _), (2, _), (0, _), (1, _)]) zd_MO_flowOfError_57 (by decide) rfl ?_
  refine zi_iconst (pc := 59) h zd_MO_flowOfError_59 zq_ic_m1 ?_
  refine zi_istore (pc := 60) h (i := 5) (L' := [(5, _), (4, _), (3, _), (2, _), (0, _), (1, _)]) zd_MO_flowOfError_60 (by decide) rfl ?_
  refine zi_iload_n (pc := 62) h (i := 1) zd_MO_flowOfError_62 rfl 5 rfl ?_
  refine zi_if_eq_f (pc := 63) h (tgt := 120) zd_MO_flowOfError_63 rfl (by decide) ?_
  refine zi_aload_n (pc := 66) h (i := 0) zd_MO_flowOfError_66 rfl 4 rfl ?_
  refine zi_bipush (pc := 67) h zd_MO_flowOfError_67 zq_bi_22 ?_
  refine zi_callV (pc := 69) h (st := []) (zc_MO_address (a := 22) (b := 23) zq_in_22_48 ⟨by decide, by decide, by decide⟩) zm_MO_address zw_690 zx_MO zq_k26 rfl ⟨by decide, by decide⟩ zd_MO_flowOfError_69 (Nat.le_of_ble_eq_true rfl) rfl ?_
  refine zi_aload_n (pc := 72) h (i := 0) zd_MO_flowOfError_72 rfl 4 rfl ?_
  refine zi_bipush (pc := 73) h zd_MO_flowOfError_73 zq_bi_6 ?_
  refine zi_callV (pc := 75) h (st := [_]) (zc_MO_address (a := 6) (b := 7) zq_in_6_48 ⟨by decide, by decide, by decide⟩) zm_MO_address zw_690 zx_MO zq_k26 rfl ⟨by decide, by decide⟩ zd_MO_flowOfError_75 (Nat.le_of_ble_eq_true rfl) rfl ?_
  refine zi_icmp_ne_f (pc := 78) h (tgt := 114) zd_MO_flowOfError_78 rfl hf ?_
  refine zi_aload_n (pc := 81) h (i := 0) zd_MO_flowOfError_81 rfl 4 rfl ?_
  refine zi_iload_n (pc := 82) h (i := 2) zd_MO_flowOfError_82 rfl 3 rfl ?_
  refine zi_aload_n (pc := 83) h (i := 0) zd_MO_flowOfError_83 rfl 4 rfl ?_
  refine zi_bipush (pc := 84) h zd_MO_flowOfError_84 zq_bi_20 ?_
  refine zi_callV (pc := 86) h (st := [_, _]) (zc_MO_address (a := 20) (b := 21) zq_in_20_48 ⟨by decide, by decide, by decide⟩) zm_MO_address zw_690 zx_MO zq_k26 rfl ⟨by decide, by decide⟩ zd_MO_flowOfError_86 (Nat.le_of_ble_eq_true rfl) rfl ?_
  refine zi_iload_n (pc := 89) h (i := 2) zd_MO_flowOfError_89 rfl 3 rfl ?_
  refine zi_iconst (pc := 90) h zd_MO_flowOfError_90 zq_ic_1 ?_
  refine zi_icmp_ne_t (pc := 91) h (tgt := 98) zd_MO_flowOfError_91 rfl hk ?_
  refine zi_iload_n (pc := 98) h (i := 3) zd_MO_flowOfError_98 rfl 2 rfl ?_
  refine zi_iconst (pc := 99) h zd_MO_flowOfError_99 zq_ic_1 ?_
  refine zi_aload_n (pc := 100) h (i := 0) zd_MO_flowOfError_100 rfl 4 rfl ?_
  refine zi_bipush (pc := 101) h zd_MO_flowOfError_101 zq_bi_22 ?_
  refine zi_callV (pc := 103) h (st := [_, _, _, _, _]) (zc_MO_address (a := 22) (b := 23) zq_in_22_48 ⟨by decide, by decide, by decide⟩) zm_MO_address zw_690 zx_MO zq_k26 rfl ⟨by decide, by decide⟩ zd_MO_flowOfError_103 (Nat.le_of_ble_eq_true rfl) rfl ?_
  refine zi_iload (pc := 106) h (i := 4) zd_MO_flowOfError_106 1 rfl ?_
  refine zi_callV (pc := 108) h (st := []) (zc_MO_find_rs hc hq) zm_MO_find zw_707 zx_MO zq_k26 rfl ⟨by decide, by decide⟩ zd_MO_flowOfError_108 (Nat.le_of_ble_eq_true rfl) rfl ?_
  refine zi_goto (pc := 111) h (tgt := 115) zd_MO_flowOfError_111 rfl ?_
  refine zi_istore (pc := 115) h (i := 5) (L' := [(5, _), (4, _), (3, _), (2, _), (0, _), (1, _)]) zd_MO_flowOfError_115 (by decide) rfl ?_
  refine zi_goto (pc := 117) h (tgt := 158) zd_MO_flowOfError_117 rfl ?_
  refine zi_iload (pc := 158) h (i := 5) zd_MO_flowOfError_158 0 rfl ?_
  refine zi_if_ge_t (pc := 160) h (tgt := 168) zd_MO_flowOfError_160 rfl (nI_pos' (by omega)) ?_
  refine zi_iload (pc := 168) h (i := 5) zd_MO_flowOfError_168 0 rfl ?_
  exact zi_ireturn (pc := 170) h hr zd_MO_flowOfError_170 rfl rfl

set_option maxRecDepth 20000 in
theorem zc_MO_foe_01x {l : Launch} {G : zz_G} {F : Nat → va_E} {w : Nat → Int32} {sz : Int32} {la : Nat → Int32} {lz : Int32} {ra : Nat → Nat → Int32} {fa : Nat → Nat → Int32} {cd : Int32} {c : Nat} (hk : w 18 &&& 255 = 1) (hf : ¬ zs_adr w 20 21 = -969710591) : zz_M l zy_MO_flowOfError zb_MO_flowOfError 6 (some .int) 1 28 G [.ref (G.2.2 26), .int 0] (zz_N G F w sz la lz ra (nI c) fa cd) (some (.int (-5))) (zz_N G F w sz la lz ra (nI c) fa cd) := by
  refine zz_M.of (by decide) (Nat.le_of_ble_eq_true rfl) ?_
  intro X hX h hr
  subst hX
  have h : zz_C X G (zz_A G.2.2) 6 zb_MO_flowOfError "PortTranslatorModel" 1 28 0 0 := h
  refine zi_aload_n (pc := 0) h (i := 0) zd_MO_flowOfError_0 rfl 0 rfl ?_
  refine zi_get (pc := 1) h zx_MO 26 0 zq_k26 rfl zq_j_0_18 zw_584 rfl zd_MO_flowOfError_1 ?_
  refine zi_bipush (pc := 4) h zd_MO_flowOfError_4 zq_bi_18 ?_
  refine zi_iald (pc := 6) h 27 zq_k27 rfl zq_in_18_48 zd_MO_flowOfError_6 ?_
  refine zi_sipush (pc := 7) h zd_MO_flowOfError_7 zq_si_255 ?_
  refine zi_iand (pc := 10) h zd_MO_flowOfError_10 ?_
  refine zi_istore_n (pc := 11) h (i := 2) (L' := [(2, _), (0, _), (1, _)]) zd_MO_flowOfError_11 rfl (by decide) rfl ?_
  refine zi_iload_n (pc := 12) h (i := 2) zd_MO_flowOfError_12 rfl 0 rfl ?_
  refine zi_iconst (pc := 13) h zd_MO_flowOfError_13 zq_ic_1 ?_
  refine zi_icmp_ne_f (pc := 14) h (tgt := 27) zd_MO_flowOfError_14 rfl hk ?_
  refine zi_aload_n (pc := 17) h (i := 0) zd_MO_flowOfError_17 rfl 1 rfl ?_
  refine zi_get (pc := 18) h zx_MO 26 0 zq_k26 rfl zq_j_0_18 zw_584 rfl zd_MO_flowOfError_18 ?_
  refine zi_bipush (pc := 21) h zd_MO_flowOfError_21 zq_bi_26 ?_
  refine zi_iald (pc := 23) h 27 zq_k27 rfl zq_in_26_48 zd_MO_flowOfError_23 ?_
  refine zi_goto (pc := 24) h (tgt := 34) zd_MO_flowOfError_24 rfl ?_
  refine zi_istore_n (pc := 34) h (i := 3) (L' := [(3, _), (2, _), (0, _), (1, _)]) zd_MO_flowOfError_34 rfl (by decide) rfl ?_
  refine zi_iload_n (pc := 35) h (i := 2) zd_MO_flowOfError_35 rfl 1 rfl ?_
  refine zi_iconst (pc := 36) h zd_MO_flowOfError_36 zq_ic_1 ?_
  refine zi_icmp_ne_f (pc := 37) h (tgt := 50) zd_MO_flowOfError_37 rfl hk ?_
  refine zi_aload_n (pc := 40) h (i := 0) zd_MO_flowOfError_40 rfl 2 rfl ?_
  refine zi_get (pc := 41) h zx_MO 26 0 zq_k26 rfl zq_j_0_18 zw_584 rfl zd_MO_flowOfError_41 ?_
  refine zi_bipush (pc := 44) h zd_MO_flowOfError_44 zq_bi_26 ?_
  refine zi_iald (pc := 46) h 27 zq_k27 rfl zq_in_26_48 zd_MO_flowOfError_46 ?_
  refine zi_goto (pc := 47) h (tgt := 57) zd_MO_flowOfError_47 rfl ?_
  refine zi_istore (pc := 57) h (i := 4) (L' := [(4, _), (3, _), (2, _), (0, _), (1, _)]) zd_MO_flowOfError_57 (by decide) rfl ?_
  refine zi_iconst (pc := 59) h zd_MO_flowOfError_59 zq_ic_m1 ?_
  refine zi_istore (pc := 60) h (i := 5) (L' := [(5, _), (4, _), (3, _), (2, _), (0, _), (1, _)]) zd_MO_flowOfError_60 (by decide) rfl ?_
  refine zi_iload_n (pc := 62) h (i := 1) zd_MO_flowOfError_62 rfl 5 rfl ?_
  refine zi_if_eq_t (pc := 63) h (tgt := 120) zd_MO_flowOfError_63 rfl (by decide) ?_
  refine zi_aload_n (pc := 120) h (i := 0) zd_MO_flowOfError_120 rfl 4 rfl ?_
  refine zi_bipush (pc := 121) h zd_MO_flowOfError_121 zq_bi_20 ?_
  refine zi_callV (pc := 123) h (st := []) (zc_MO_address (a := 20) (b := 21) zq_in_20_48 ⟨by decide, by decide, by decide⟩) zm_MO_address zw_690 zx_MO zq_k26 rfl ⟨by decide, by decide⟩ zd_MO_flowOfError_123 (Nat.le_of_ble_eq_true rfl) rfl ?_
  refine zi_ldc (pc := 126) h zw_702 zd_MO_flowOfError_126 ?_
  refine zi_icmp_ne_t (pc := 128) h (tgt := 158) zd_MO_flowOfError_128 rfl hf ?_
  refine zi_iload (pc := 158) h (i := 5) zd_MO_flowOfError_158 0 rfl ?_
  refine zi_if_ge_f (pc := 160) h (tgt := 168) zd_MO_flowOfError_160 rfl (by decide) ?_
  refine zi_bipush (pc := 163) h zd_MO_flowOfError_163 zq_bi_m5 ?_
  refine zi_goto (pc := 165) h (tgt := 170) zd_MO_flowOfError_165 rfl ?_
  exact zi_ireturn (pc := 170) h hr zd_MO_flowOfError_170 rfl rfl

set_option maxRecDepth 20000 in
theorem zc_MO_foe_01n {l : Launch} {G : zz_G} {F : Nat → va_E} {w : Nat → Int32} {sz : Int32} {la : Nat → Int32} {lz : Int32} {ra : Nat → Nat → Int32} {fa : Nat → Nat → Int32} {cd : Int32} {c : Nat} (hc : c ≤ 12) (hk : w 18 &&& 255 = 1) (hf : zs_adr w 20 21 = -969710591) (hq : zs_ff (zv_mw fa (w 18 &&& 255) (zs_adr w 22 23) 0 (w 26)) 0 c = none) : zz_M l zy_MO_flowOfError zb_MO_flowOfError 6 (some .int) 1 28 G [.ref (G.2.2 26), .int 0] (zz_N G F w sz la lz ra (nI c) fa cd) (some (.int (-5))) (zz_N G F w sz la lz ra (nI c) fa cd) := by
  refine zz_M.of (by decide) (Nat.le_of_ble_eq_true rfl) ?_
  intro X hX h hr
  subst hX
  have h : zz_C X G (zz_A G.2.2) 6 zb_MO_flowOfError "PortTranslatorModel" 1 28 0 0 := h
  refine zi_aload_n (pc := 0) h (i := 0) zd_MO_flowOfError_0 rfl 0 rfl ?_
  refine zi_get (pc := 1) h zx_MO 26 0 zq_k26 rfl zq_j_0_18 zw_584 rfl zd_MO_flowOfError_1 ?_
  refine zi_bipush (pc := 4) h zd_MO_flowOfError_4 zq_bi_18 ?_
  refine zi_iald (pc := 6) h 27 zq_k27 rfl zq_in_18_48 zd_MO_flowOfError_6 ?_
  refine zi_sipush (pc := 7) h zd_MO_flowOfError_7 zq_si_255 ?_
  refine zi_iand (pc := 10) h zd_MO_flowOfError_10 ?_
  refine zi_istore_n (pc := 11) h (i := 2) (L' := [(2, _), (0, _), (1, _)]) zd_MO_flowOfError_11 rfl (by decide) rfl ?_
  refine zi_iload_n (pc := 12) h (i := 2) zd_MO_flowOfError_12 rfl 0 rfl ?_
  refine zi_iconst (pc := 13) h zd_MO_flowOfError_13 zq_ic_1 ?_
  refine zi_icmp_ne_f (pc := 14) h (tgt := 27) zd_MO_flowOfError_14 rfl hk ?_
  refine zi_aload_n (pc := 17) h (i := 0) zd_MO_flowOfError_17 rfl 1 rfl ?_
  refine zi_get (pc := 18) h zx_MO 26 0 zq_k26 rfl zq_j_0_18 zw_584 rfl zd_MO_flowOfError_18 ?_
  refine zi_bipush (pc := 21) h zd_MO_flowOfError_21 zq_bi_26 ?_
  refine zi_iald (pc := 23) h 27 zq_k27 rfl zq_in_26_48 zd_MO_flowOfError_23 ?_
  refine zi_goto (pc := 24) h (tgt := 34) zd_MO_flowOfError_24 rfl ?_
  refine zi_istore_n (pc := 34) h (i := 3) (L' := [(3, _), (2, _), (0, _), (1, _)]) zd_MO_flowOfError_34 rfl (by decide) rfl ?_
  refine zi_iload_n (pc := 35) h (i := 2) zd_MO_flowOfError_35 rfl 1 rfl ?_
  refine zi_iconst (pc := 36) h zd_MO_flowOfError_36 zq_ic_1 ?_
  refine zi_icmp_ne_f (pc := 37) h (tgt := 50) zd_MO_flowOfError_37 rfl hk ?_
  refine zi_aload_n (pc := 40) h (i := 0) zd_MO_flowOfError_40 rfl 2 rfl ?_
  refine zi_get (pc := 41) h zx_MO 26 0 zq_k26 rfl zq_j_0_18 zw_584 rfl zd_MO_flowOfError_41 ?_
  refine zi_bipush (pc := 44) h zd_MO_flowOfError_44 zq_bi_26 ?_
  refine zi_iald (pc := 46) h 27 zq_k27 rfl zq_in_26_48 zd_MO_flowOfError_46 ?_
  refine zi_goto (pc := 47) h (tgt := 57) zd_MO_flowOfError_47 rfl ?_
  refine zi_istore (pc := 57) h (i := 4) (L' := [(4, _), (3, _), (2, _), (0, _), (1, _)]) zd_MO_flowOfError_57 (by decide) rfl ?_
  refine zi_iconst (pc := 59) h zd_MO_flowOfError_59 zq_ic_m1 ?_
  refine zi_istore (pc := 60) h (i := 5) (L' := [(5, _), (4, _), (3, _), (2, _), (0, _), (1, _)]) zd_MO_flowOfError_60 (by decide) rfl ?_
  refine zi_iload_n (pc := 62) h (i := 1) zd_MO_flowOfError_62 rfl 5 rfl ?_
  refine zi_if_eq_t (pc := 63) h (tgt := 120) zd_MO_flowOfError_63 rfl (by decide) ?_
  refine zi_aload_n (pc := 120) h (i := 0) zd_MO_flowOfError_120 rfl 4 rfl ?_
  refine zi_bipush (pc := 121) h zd_MO_flowOfError_121 zq_bi_20 ?_
  refine zi_callV (pc := 123) h (st := []) (zc_MO_address (a := 20) (b := 21) zq_in_20_48 ⟨by decide, by decide, by decide⟩) zm_MO_address zw_690 zx_MO zq_k26 rfl ⟨by decide, by decide⟩ zd_MO_flowOfError_123 (Nat.le_of_ble_eq_true rfl) rfl ?_
  refine zi_ldc (pc := 126) h zw_702 zd_MO_flowOfError_126 ?_
  refine zi_icmp_ne_f (pc := 128) h (tgt := 158) zd_MO_flowOfError_128 rfl hf ?_
  refine zi_aload_n (pc := 131) h (i := 0) zd_MO_flowOfError_131 rfl 4 rfl ?_
  refine zi_iload_n (pc := 132) h (i := 2) zd_MO_flowOfError_132 rfl 3 rfl ?_
  refine zi_aload_n (pc := 133) h (i := 0) zd_MO_flowOfError_133 rfl 4 rfl ?_
  refine zi_bipush (pc := 134) h zd_MO_flowOfError_134 zq_bi_22 ?_
  refine zi_callV (pc := 136) h (st := [_, _]) (zc_MO_address (a := 22) (b := 23) zq_in_22_48 ⟨by decide, by decide, by decide⟩) zm_MO_address zw_690 zx_MO zq_k26 rfl ⟨by decide, by decide⟩ zd_MO_flowOfError_136 (Nat.le_of_ble_eq_true rfl) rfl ?_
  refine zi_iload_n (pc := 139) h (i := 2) zd_MO_flowOfError_139 rfl 3 rfl ?_
  refine zi_iconst (pc := 140) h zd_MO_flowOfError_140 zq_ic_1 ?_
  refine zi_icmp_ne_f (pc := 141) h (tgt := 148) zd_MO_flowOfError_141 rfl hk ?_
  refine zi_iconst (pc := 144) h zd_MO_flowOfError_144 zq_ic_0 ?_
  refine zi_goto (pc := 145) h (tgt := 150) zd_MO_flowOfError_145 rfl ?_
  refine zi_iconst (pc := 150) h zd_MO_flowOfError_150 zq_ic_0 ?_
  refine zi_iconst (pc := 151) h zd_MO_flowOfError_151 zq_ic_0 ?_
  refine zi_iload_n (pc := 152) h (i := 3) zd_MO_flowOfError_152 rfl 2 rfl ?_
  refine zi_callV (pc := 153) h (st := []) (zc_MO_find_wn hc hq) zm_MO_find zw_707 zx_MO zq_k26 rfl ⟨by decide, by decide⟩ zd_MO_flowOfError_153 (Nat.le_of_ble_eq_true rfl) rfl ?_
  refine zi_istore (pc := 156) h (i := 5) (L' := [(5, _), (4, _), (3, _), (2, _), (0, _), (1, _)]) zd_MO_flowOfError_156 (by decide) rfl ?_
  refine zi_iload (pc := 158) h (i := 5) zd_MO_flowOfError_158 0 rfl ?_
  refine zi_if_ge_f (pc := 160) h (tgt := 168) zd_MO_flowOfError_160 rfl (by decide) ?_
  refine zi_bipush (pc := 163) h zd_MO_flowOfError_163 zq_bi_m5 ?_
  refine zi_goto (pc := 165) h (tgt := 170) zd_MO_flowOfError_165 rfl ?_
  exact zi_ireturn (pc := 170) h hr zd_MO_flowOfError_170 rfl rfl

set_option maxRecDepth 20000 in
theorem zc_MO_foe_01s {l : Launch} {G : zz_G} {F : Nat → va_E} {w : Nat → Int32} {sz : Int32} {la : Nat → Int32} {lz : Int32} {ra : Nat → Nat → Int32} {fa : Nat → Nat → Int32} {cd : Int32} {c i : Nat} (hc : c ≤ 12) (hi : i < c) (hk : w 18 &&& 255 = 1) (hf : zs_adr w 20 21 = -969710591) (hq : zs_ff (zv_mw fa (w 18 &&& 255) (zs_adr w 22 23) 0 (w 26)) 0 c = some i) : zz_M l zy_MO_flowOfError zb_MO_flowOfError 6 (some .int) 1 28 G [.ref (G.2.2 26), .int 0] (zz_N G F w sz la lz ra (nI c) fa cd) (some (.int (nI i))) (zz_N G F w sz la lz ra (nI c) fa cd) := by
  refine zz_M.of (by decide) (Nat.le_of_ble_eq_true rfl) ?_
  intro X hX h hr
  subst hX
  have h : zz_C X G (zz_A G.2.2) 6 zb_MO_flowOfError "PortTranslatorModel" 1 28 0 0 := h
  refine zi_aload_n (pc := 0) h (i := 0) zd_MO_flowOfError_0 rfl 0 rfl ?_
  refine zi_get (pc := 1) h zx_MO 26 0 zq_k26 rfl zq_j_0_18 zw_584 rfl zd_MO_flowOfError_1 ?_
  refine zi_bipush (pc := 4) h zd_MO_flowOfError_4 zq_bi_18 ?_
  refine zi_iald (pc := 6) h 27 zq_k27 rfl zq_in_18_48 zd_MO_flowOfError_6 ?_
  refine zi_sipush (pc := 7) h zd_MO_flowOfError_7 zq_si_255 ?_
  refine zi_iand (pc := 10) h zd_MO_flowOfError_10 ?_
  refine zi_istore_n (pc := 11) h (i := 2) (L' := [(2, _), (0, _), (1, _)]) zd_MO_flowOfError_11 rfl (by decide) rfl ?_
  refine zi_iload_n (pc := 12) h (i := 2) zd_MO_flowOfError_12 rfl 0 rfl ?_
  refine zi_iconst (pc := 13) h zd_MO_flowOfError_13 zq_ic_1 ?_
  refine zi_icmp_ne_f (pc := 14) h (tgt := 27) zd_MO_flowOfError_14 rfl hk ?_
  refine zi_aload_n (pc := 17) h (i := 0) zd_MO_flowOfError_17 rfl 1 rfl ?_
  refine zi_get (pc := 18) h zx_MO 26 0 zq_k26 rfl zq_j_0_18 zw_584 rfl zd_MO_flowOfError_18 ?_
  refine zi_bipush (pc := 21) h zd_MO_flowOfError_21 zq_bi_26 ?_
  refine zi_iald (pc := 23) h 27 zq_k27 rfl zq_in_26_48 zd_MO_flowOfError_23 ?_
  refine zi_goto (pc := 24) h (tgt := 34) zd_MO_flowOfError_24 rfl ?_
  refine zi_istore_n (pc := 34) h (i := 3) (L' := [(3, _), (2, _), (0, _), (1, _)]) zd_MO_flowOfError_34 rfl (by decide) rfl ?_
  refine zi_iload_n (pc := 35) h (i := 2) zd_MO_flowOfError_35 rfl 1 rfl ?_
  refine zi_iconst (pc := 36) h zd_MO_flowOfError_36 zq_ic_1 ?_
  refine zi_icmp_ne_f (pc := 37) h (tgt := 50) zd_MO_flowOfError_37 rfl hk ?_
  refine zi_aload_n (pc := 40) h (i := 0) zd_MO_flowOfError_40 rfl 2 rfl ?_
  refine zi_get (pc := 41) h zx_MO 26 0 zq_k26 rfl zq_j_0_18 zw_584 rfl zd_MO_flowOfError_41 ?_
  refine zi_bipush (pc := 44) h zd_MO_flowOfError_44 zq_bi_26 ?_
  refine zi_iald (pc := 46) h 27 zq_k27 rfl zq_in_26_48 zd_MO_flowOfError_46 ?_
  refine zi_goto (pc := 47) h (tgt := 57) zd_MO_flowOfError_47 rfl ?_
  refine zi_istore (pc := 57) h (i := 4) (L' := [(4, _), (3, _), (2, _), (0, _), (1, _)]) zd_MO_flowOfError_57 (by decide) rfl ?_
  refine zi_iconst (pc := 59) h zd_MO_flowOfError_59 zq_ic_m1 ?_
  refine zi_istore (pc := 60) h (i := 5) (L' := [(5, _), (4, _), (3, _), (2, _), (0, _), (1, _)]) zd_MO_flowOfError_60 (by decide) rfl ?_
  refine zi_iload_n (pc := 62) h (i := 1) zd_MO_flowOfError_62 rfl 5 rfl ?_
  refine zi_if_eq_t (pc := 63) h (tgt := 120) zd_MO_flowOfError_63 rfl (by decide) ?_
  refine zi_aload_n (pc := 120) h (i := 0) zd_MO_flowOfError_120 rfl 4 rfl ?_
  refine zi_bipush (pc := 121) h zd_MO_flowOfError_121 zq_bi_20 ?_
  refine zi_callV (pc := 123) h (st := []) (zc_MO_address (a := 20) (b := 21) zq_in_20_48 ⟨by decide, by decide, by decide⟩) zm_MO_address zw_690 zx_MO zq_k26 rfl ⟨by decide, by decide⟩ zd_MO_flowOfError_123 (Nat.le_of_ble_eq_true rfl) rfl ?_
  refine zi_ldc (pc := 126) h zw_702 zd_MO_flowOfError_126 ?_
  refine zi_icmp_ne_f (pc := 128) h (tgt := 158) zd_MO_flowOfError_128 rfl hf ?_
  refine zi_aload_n (pc := 131) h (i := 0) zd_MO_flowOfError_131 rfl 4 rfl ?_
  refine zi_iload_n (pc := 132) h (i := 2) zd_MO_flowOfError_132 rfl 3 rfl ?_
  refine zi_aload_n (pc := 133) h (i := 0) zd_MO_flowOfError_133 rfl 4 rfl ?_
  refine zi_bipush (pc := 134) h zd_MO_flowOfError_134 zq_bi_22 ?_
  refine zi_callV (pc := 136) h (st := [_, _]) (zc_MO_address (a := 22) (b := 23) zq_in_22_48 ⟨by decide, by decide, by decide⟩) zm_MO_address zw_690 zx_MO zq_k26 rfl ⟨by decide, by decide⟩ zd_MO_flowOfError_136 (Nat.le_of_ble_eq_true rfl) rfl ?_
  refine zi_iload_n (pc := 139) h (i := 2) zd_MO_flowOfError_139 rfl 3 rfl ?_
  refine zi_iconst (pc := 140) h zd_MO_flowOfError_140 zq_ic_1 ?_
  refine zi_icmp_ne_f (pc := 141) h (tgt := 148) zd_MO_flowOfError_141 rfl hk ?_
  refine zi_iconst (pc := 144) h zd_MO_flowOfError_144 zq_ic_0 ?_
  refine zi_goto (pc := 145) h (tgt := 150) zd_MO_flowOfError_145 rfl ?_
  refine zi_iconst (pc := 150) h zd_MO_flowOfError_150 zq_ic_0 ?_
  refine zi_iconst (pc := 151) h zd_MO_flowOfError_151 zq_ic_0 ?_
  refine zi_iload_n (pc := 152) h (i := 3) zd_MO_flowOfError_152 rfl 2 rfl ?_
  refine zi_callV (pc := 153) h (st := []) (zc_MO_find_ws hc hq) zm_MO_find zw_707 zx_MO zq_k26 rfl ⟨by decide, by decide⟩ zd_MO_flowOfError_153 (Nat.le_of_ble_eq_true rfl) rfl ?_
  refine zi_istore (pc := 156) h (i := 5) (L' := [(5, _), (4, _), (3, _), (2, _), (0, _), (1, _)]) zd_MO_flowOfError_156 (by decide) rfl ?_
  refine zi_iload (pc := 158) h (i := 5) zd_MO_flowOfError_158 0 rfl ?_
  refine zi_if_ge_t (pc := 160) h (tgt := 168) zd_MO_flowOfError_160 rfl (nI_pos' (by omega)) ?_
  refine zi_iload (pc := 168) h (i := 5) zd_MO_flowOfError_168 0 rfl ?_
  exact zi_ireturn (pc := 170) h hr zd_MO_flowOfError_170 rfl rfl

set_option maxRecDepth 20000 in
theorem zc_MO_foe_00x {l : Launch} {G : zz_G} {F : Nat → va_E} {w : Nat → Int32} {sz : Int32} {la : Nat → Int32} {lz : Int32} {ra : Nat → Nat → Int32} {fa : Nat → Nat → Int32} {cd : Int32} {c : Nat} (hk : ¬ w 18 &&& 255 = 1) (hf : ¬ zs_adr w 20 21 = -969710591) : zz_M l zy_MO_flowOfError zb_MO_flowOfError 6 (some .int) 1 28 G [.ref (G.2.2 26), .int 0] (zz_N G F w sz la lz ra (nI c) fa cd) (some (.int (-5))) (zz_N G F w sz la lz ra (nI c) fa cd) := by
  refine zz_M.of (by decide) (Nat.le_of_ble_eq_true rfl) ?_
  intro X hX h hr
  subst hX
  have h : zz_C X G (zz_A G.2.2) 6 zb_MO_flowOfError "PortTranslatorModel" 1 28 0 0 := h
  refine zi_aload_n (pc := 0) h (i := 0) zd_MO_flowOfError_0 rfl 0 rfl ?_
  refine zi_get (pc := 1) h zx_MO 26 0 zq_k26 rfl zq_j_0_18 zw_584 rfl zd_MO_flowOfError_1 ?_
  refine zi_bipush (pc := 4) h zd_MO_flowOfError_4 zq_bi_18 ?_
  refine zi_iald (pc := 6) h 27 zq_k27 rfl zq_in_18_48 zd_MO_flowOfError_6 ?_
  refine zi_sipush (pc := 7) h zd_MO_flowOfError_7 zq_si_255 ?_
  refine zi_iand (pc := 10) h zd_MO_flowOfError_10 ?_
  refine zi_istore_n (pc := 11) h (i := 2) (L' := [(2, _), (0, _), (1, _)]) zd_MO_flowOfError_11 rfl (by decide) rfl ?_
  refine zi_iload_n (pc := 12) h (i := 2) zd_MO_flowOfError_12 rfl 0 rfl ?_
  refine zi_iconst (pc := 13) h zd_MO_flowOfError_13 zq_ic_1 ?_
  refine zi_icmp_ne_t (pc := 14) h (tgt := 27) zd_MO_flowOfError_14 rfl hk ?_
  refine zi_aload_n (pc := 27) h (i := 0) zd_MO_flowOfError_27 rfl 1 rfl ?_
  refine zi_get (pc := 28) h zx_MO 26 0 zq_k26 rfl zq_j_0_18 zw_584 rfl zd_MO_flowOfError_28 ?_
  refine zi_bipush (pc := 31) h zd_MO_flowOfError_31 zq_bi_24 ?_
  refine zi_iald (pc := 33) h 27 zq_k27 rfl zq_in_24_48 zd_MO_flowOfError_33 ?_
  refine zi_istore_n (pc := 34) h (i := 3) (L' := [(3, _), (2, _), (0, _), (1, _)]) zd_MO_flowOfError_34 rfl (by decide) rfl ?_
  refine zi_iload_n (pc := 35) h (i := 2) zd_MO_flowOfError_35 rfl 1 rfl ?_
  refine zi_iconst (pc := 36) h zd_MO_flowOfError_36 zq_ic_1 ?_
  refine zi_icmp_ne_t (pc := 37) h (tgt := 50) zd_MO_flowOfError_37 rfl hk ?_
  refine zi_aload_n (pc := 50) h (i := 0) zd_MO_flowOfError_50 rfl 2 rfl ?_
  refine zi_get (pc := 51) h zx_MO 26 0 zq_k26 rfl zq_j_0_18 zw_584 rfl zd_MO_flowOfError_51 ?_
  refine zi_bipush (pc := 54) h zd_MO_flowOfError_54 zq_bi_25 ?_
  refine zi_iald (pc := 56) h 27 zq_k27 rfl zq_in_25_48 zd_MO_flowOfError_56 ?_
  refine zi_istore (pc := 57) h (i := 4) (L' := [(4, _), (3, _), (2, _), (0, _), (1, _)]) zd_MO_flowOfError_57 (by decide) rfl ?_
  refine zi_iconst (pc := 59) h zd_MO_flowOfError_59 zq_ic_m1 ?_
  refine zi_istore (pc := 60) h (i := 5) (L' := [(5, _), (4, _), (3, _), (2, _), (0, _), (1, _)]) zd_MO_flowOfError_60 (by decide) rfl ?_
  refine zi_iload_n (pc := 62) h (i := 1) zd_MO_flowOfError_62 rfl 5 rfl ?_
  refine zi_if_eq_t (pc := 63) h (tgt := 120) zd_MO_flowOfError_63 rfl (by decide) ?_
  refine zi_aload_n (pc := 120) h (i := 0) zd_MO_flowOfError_120 rfl 4 rfl ?_
  refine zi_bipush (pc := 121) h zd_MO_flowOfError_121 zq_bi_20 ?_
  refine zi_callV (pc := 123) h (st := []) (zc_MO_address (a := 20) (b := 21) zq_in_20_48 ⟨by decide, by decide, by decide⟩) zm_MO_address zw_690 zx_MO zq_k26 rfl ⟨by decide, by decide⟩ zd_MO_flowOfError_123 (Nat.le_of_ble_eq_true rfl) rfl ?_
  refine zi_ldc (pc := 126) h zw_702 zd_MO_flowOfError_126 ?_
  refine zi_icmp_ne_t (pc := 128) h (tgt := 158) zd_MO_flowOfError_128 rfl hf ?_
  refine zi_iload (pc := 158) h (i := 5) zd_MO_flowOfError_158 0 rfl ?_
  refine zi_if_ge_f (pc := 160) h (tgt := 168) zd_MO_flowOfError_160 rfl (by decide) ?_
  refine zi_bipush (pc := 163) h zd_MO_flowOfError_163 zq_bi_m5 ?_
  refine zi_goto (pc := 165) h (tgt := 170) zd_MO_flowOfError_165 rfl ?_
  exact zi_ireturn (pc := 170) h hr zd_MO_flowOfError_170 rfl rfl

set_option maxRecDepth 20000 in
theorem zc_MO_foe_00n {l : Launch} {G : zz_G} {F : Nat → va_E} {w : Nat → Int32} {sz : Int32} {la : Nat → Int32} {lz : Int32} {ra : Nat → Nat → Int32} {fa : Nat → Nat → Int32} {cd : Int32} {c : Nat} (hc : c ≤ 12) (hk : ¬ w 18 &&& 255 = 1) (hf : zs_adr w 20 21 = -969710591) (hq : zs_ff (zv_mw fa (w 18 &&& 255) (zs_adr w 22 23) (w 25) (w 24)) 0 c = none) : zz_M l zy_MO_flowOfError zb_MO_flowOfError 6 (some .int) 1 28 G [.ref (G.2.2 26), .int 0] (zz_N G F w sz la lz ra (nI c) fa cd) (some (.int (-5))) (zz_N G F w sz la lz ra (nI c) fa cd) := by
  refine zz_M.of (by decide) (Nat.le_of_ble_eq_true rfl) ?_
  intro X hX h hr
  subst hX
  have h : zz_C X G (zz_A G.2.2) 6 zb_MO_flowOfError "PortTranslatorModel" 1 28 0 0 := h
  refine zi_aload_n (pc := 0) h (i := 0) zd_MO_flowOfError_0 rfl 0 rfl ?_
  refine zi_get (pc := 1) h zx_MO 26 0 zq_k26 rfl zq_j_0_18 zw_584 rfl zd_MO_flowOfError_1 ?_
  refine zi_bipush (pc := 4) h zd_MO_flowOfError_4 zq_bi_18 ?_
  refine zi_iald (pc := 6) h 27 zq_k27 rfl zq_in_18_48 zd_MO_flowOfError_6 ?_
  refine zi_sipush (pc := 7) h zd_MO_flowOfError_7 zq_si_255 ?_
  refine zi_iand (pc := 10) h zd_MO_flowOfError_10 ?_
  refine zi_istore_n (pc := 11) h (i := 2) (L' := [(2, _), (0, _), (1, _)]) zd_MO_flowOfError_11 rfl (by decide) rfl ?_
  refine zi_iload_n (pc := 12) h (i := 2) zd_MO_flowOfError_12 rfl 0 rfl ?_
  refine zi_iconst (pc := 13) h zd_MO_flowOfError_13 zq_ic_1 ?_
  refine zi_icmp_ne_t (pc := 14) h (tgt := 27) zd_MO_flowOfError_14 rfl hk ?_
  refine zi_aload_n (pc := 27) h (i := 0) zd_MO_flowOfError_27 rfl 1 rfl ?_
  refine zi_get (pc := 28) h zx_MO 26 0 zq_k26 rfl zq_j_0_18 zw_584 rfl zd_MO_flowOfError_28 ?_
  refine zi_bipush (pc := 31) h zd_MO_flowOfError_31 zq_bi_24 ?_
  refine zi_iald (pc := 33) h 27 zq_k27 rfl zq_in_24_48 zd_MO_flowOfError_33 ?_
  refine zi_istore_n (pc := 34) h (i := 3) (L' := [(3, _), (2, _), (0, _), (1, _)]) zd_MO_flowOfError_34 rfl (by decide) rfl ?_
  refine zi_iload_n (pc := 35) h (i := 2) zd_MO_flowOfError_35 rfl 1 rfl ?_
  refine zi_iconst (pc := 36) h zd_MO_flowOfError_36 zq_ic_1 ?_
  refine zi_icmp_ne_t (pc := 37) h (tgt := 50) zd_MO_flowOfError_37 rfl hk ?_
  refine zi_aload_n (pc := 50) h (i := 0) zd_MO_flowOfError_50 rfl 2 rfl ?_
  refine zi_get (pc := 51) h zx_MO 26 0 zq_k26 rfl zq_j_0_18 zw_584 rfl zd_MO_flowOfError_51 ?_
  refine zi_bipush (pc := 54) h zd_MO_flowOfError_54 zq_bi_25 ?_
  refine zi_iald (pc := 56) h 27 zq_k27 rfl zq_in_25_48 zd_MO_flowOfError_56 ?_
  refine zi_istore (pc := 57) h (i := 4) (L' := [(4, _), (3, _), (2, _), (0, _), (1, _)]) zd_MO_flowOfError_57 (by decide) rfl ?_
  refine zi_iconst (pc := 59) h zd_MO_flowOfError_59 zq_ic_m1 ?_
  refine zi_istore (pc := 60) h (i := 5) (L' := [(5, _), (4, _), (3, _), (2, _), (0, _), (1, _)]) zd_MO_flowOfError_60 (by decide) rfl ?_
  refine zi_iload_n (pc := 62) h (i := 1) zd_MO_flowOfError_62 rfl 5 rfl ?_
  refine zi_if_eq_t (pc := 63) h (tgt := 120) zd_MO_flowOfError_63 rfl (by decide) ?_
  refine zi_aload_n (pc := 120) h (i := 0) zd_MO_flowOfError_120 rfl 4 rfl ?_
  refine zi_bipush (pc := 121) h zd_MO_flowOfError_121 zq_bi_20 ?_
  refine zi_callV (pc := 123) h (st := []) (zc_MO_address (a := 20) (b := 21) zq_in_20_48 ⟨by decide, by decide, by decide⟩) zm_MO_address zw_690 zx_MO zq_k26 rfl ⟨by decide, by decide⟩ zd_MO_flowOfError_123 (Nat.le_of_ble_eq_true rfl) rfl ?_
  refine zi_ldc (pc := 126) h zw_702 zd_MO_flowOfError_126 ?_
  refine zi_icmp_ne_f (pc := 128) h (tgt := 158) zd_MO_flowOfError_128 rfl hf ?_
  refine zi_aload_n (pc := 131) h (i := 0) zd_MO_flowOfError_131 rfl 4 rfl ?_
  refine zi_iload_n (pc := 132) h (i := 2) zd_MO_flowOfError_132 rfl 3 rfl ?_
  refine zi_aload_n (pc := 133) h (i := 0) zd_MO_flowOfError_133 rfl 4 rfl ?_
  refine zi_bipush (pc := 134) h zd_MO_flowOfError_134 zq_bi_22 ?_
  refine zi_callV (pc := 136) h (st := [_, _]) (zc_MO_address (a := 22) (b := 23) zq_in_22_48 ⟨by decide, by decide, by decide⟩) zm_MO_address zw_690 zx_MO zq_k26 rfl ⟨by decide, by decide⟩ zd_MO_flowOfError_136 (Nat.le_of_ble_eq_true rfl) rfl ?_
  refine zi_iload_n (pc := 139) h (i := 2) zd_MO_flowOfError_139 rfl 3 rfl ?_
  refine zi_iconst (pc := 140) h zd_MO_flowOfError_140 zq_ic_1 ?_
  refine zi_icmp_ne_t (pc := 141) h (tgt := 148) zd_MO_flowOfError_141 rfl hk ?_
  refine zi_iload (pc := 148) h (i := 4) zd_MO_flowOfError_148 1 rfl ?_
  refine zi_iconst (pc := 150) h zd_MO_flowOfError_150 zq_ic_0 ?_
  refine zi_iconst (pc := 151) h zd_MO_flowOfError_151 zq_ic_0 ?_
  refine zi_iload_n (pc := 152) h (i := 3) zd_MO_flowOfError_152 rfl 2 rfl ?_
  refine zi_callV (pc := 153) h (st := []) (zc_MO_find_wn hc hq) zm_MO_find zw_707 zx_MO zq_k26 rfl ⟨by decide, by decide⟩ zd_MO_flowOfError_153 (Nat.le_of_ble_eq_true rfl) rfl ?_
  refine zi_istore (pc := 156) h (i := 5) (L' := [(5, _), (4, _), (3, _), (2, _), (0, _), (1, _)]) zd_MO_flowOfError_156 (by decide) rfl ?_
  refine zi_iload (pc := 158) h (i := 5) zd_MO_flowOfError_158 0 rfl ?_
  refine zi_if_ge_f (pc := 160) h (tgt := 168) zd_MO_flowOfError_160 rfl (by decide) ?_
  refine zi_bipush (pc := 163) h zd_MO_flowOfError_163 zq_bi_m5 ?_
  refine zi_goto (pc := 165) h (tgt := 170) zd_MO_flowOfError_165 rfl ?_
  exact zi_ireturn (pc := 170) h hr zd_MO_flowOfError_170 rfl rfl

set_option maxRecDepth 20000 in
theorem zc_MO_foe_00s {l : Launch} {G : zz_G} {F : Nat → va_E} {w : Nat → Int32} {sz : Int32} {la : Nat → Int32} {lz : Int32} {ra : Nat → Nat → Int32} {fa : Nat → Nat → Int32} {cd : Int32} {c i : Nat} (hc : c ≤ 12) (hi : i < c) (hk : ¬ w 18 &&& 255 = 1) (hf : zs_adr w 20 21 = -969710591) (hq : zs_ff (zv_mw fa (w 18 &&& 255) (zs_adr w 22 23) (w 25) (w 24)) 0 c = some i) : zz_M l zy_MO_flowOfError zb_MO_flowOfError 6 (some .int) 1 28 G [.ref (G.2.2 26), .int 0] (zz_N G F w sz la lz ra (nI c) fa cd) (some (.int (nI i))) (zz_N G F w sz la lz ra (nI c) fa cd) := by
  refine zz_M.of (by decide) (Nat.le_of_ble_eq_true rfl) ?_
  intro X hX h hr
  subst hX
  have h : zz_C X G (zz_A G.2.2) 6 zb_MO_flowOfError "PortTranslatorModel" 1 28 0 0 := h
  refine zi_aload_n (pc := 0) h (i := 0) zd_MO_flowOfError_0 rfl 0 rfl ?_
  refine zi_get (pc := 1) h zx_MO 26 0 zq_k26 rfl zq_j_0_18 zw_584 rfl zd_MO_flowOfError_1 ?_
  refine zi_bipush (pc := 4) h zd_MO_flowOfError_4 zq_bi_18 ?_
  refine zi_iald (pc := 6) h 27 zq_k27 rfl zq_in_18_48 zd_MO_flowOfError_6 ?_
  refine zi_sipush (pc := 7) h zd_MO_flowOfError_7 zq_si_255 ?_
  refine zi_iand (pc := 10) h zd_MO_flowOfError_10 ?_
  refine zi_istore_n (pc := 11) h (i := 2) (L' := [(2, _), (0, _), (1, _)]) zd_MO_flowOfError_11 rfl (by decide) rfl ?_
  refine zi_iload_n (pc := 12) h (i := 2) zd_MO_flowOfError_12 rfl 0 rfl ?_
  refine zi_iconst (pc := 13) h zd_MO_flowOfError_13 zq_ic_1 ?_
  refine zi_icmp_ne_t (pc := 14) h (tgt := 27) zd_MO_flowOfError_14 rfl hk ?_
  refine zi_aload_n (pc := 27) h (i := 0) zd_MO_flowOfError_27 rfl 1 rfl ?_
  refine zi_get (pc := 28) h zx_MO 26 0 zq_k26 rfl zq_j_0_18 zw_584 rfl zd_MO_flowOfError_28 ?_
  refine zi_bipush (pc := 31) h zd_MO_flowOfError_31 zq_bi_24 ?_
  refine zi_iald (pc := 33) h 27 zq_k27 rfl zq_in_24_48 zd_MO_flowOfError_33 ?_
  refine zi_istore_n (pc := 34) h (i := 3) (L' := [(3, _), (2, _), (0, _), (1, _)]) zd_MO_flowOfError_34 rfl (by decide) rfl ?_
  refine zi_iload_n (pc := 35) h (i := 2) zd_MO_flowOfError_35 rfl 1 rfl ?_
  refine zi_iconst (pc := 36) h zd_MO_flowOfError_36 zq_ic_1 ?_
  refine zi_icmp_ne_t (pc := 37) h (tgt := 50) zd_MO_flowOfError_37 rfl hk ?_
  refine zi_aload_n (pc := 50) h (i := 0) zd_MO_flowOfError_50 rfl 2 rfl ?_
  refine zi_get (pc := 51) h zx_MO 26 0 zq_k26 rfl zq_j_0_18 zw_584 rfl zd_MO_flowOfError_51 ?_
  refine zi_bipush (pc := 54) h zd_MO_flowOfError_54 zq_bi_25 ?_
  refine zi_iald (pc := 56) h 27 zq_k27 rfl zq_in_25_48 zd_MO_flowOfError_56 ?_
  refine zi_istore (pc := 57) h (i := 4) (L' := [(4, _), (3, _), (2, _), (0, _), (1, _)]) zd_MO_flowOfError_57 (by decide) rfl ?_
  refine zi_iconst (pc := 59) h zd_MO_flowOfError_59 zq_ic_m1 ?_
  refine zi_istore (pc := 60) h (i := 5) (L' := [(5, _), (4, _), (3, _), (2, _), (0, _), (1, _)]) zd_MO_flowOfError_60 (by decide) rfl ?_
  refine zi_iload_n (pc := 62) h (i := 1) zd_MO_flowOfError_62 rfl 5 rfl ?_
  refine zi_if_eq_t (pc := 63) h (tgt := 120) zd_MO_flowOfError_63 rfl (by decide) ?_
  refine zi_aload_n (pc := 120) h (i := 0) zd_MO_flowOfError_120 rfl 4 rfl ?_
  refine zi_bipush (pc := 121) h zd_MO_flowOfError_121 zq_bi_20 ?_
  refine zi_callV (pc := 123) h (st := []) (zc_MO_address (a := 20) (b := 21) zq_in_20_48 ⟨by decide, by decide, by decide⟩) zm_MO_address zw_690 zx_MO zq_k26 rfl ⟨by decide, by decide⟩ zd_MO_flowOfError_123 (Nat.le_of_ble_eq_true rfl) rfl ?_
  refine zi_ldc (pc := 126) h zw_702 zd_MO_flowOfError_126 ?_
  refine zi_icmp_ne_f (pc := 128) h (tgt := 158) zd_MO_flowOfError_128 rfl hf ?_
  refine zi_aload_n (pc := 131) h (i := 0) zd_MO_flowOfError_131 rfl 4 rfl ?_
  refine zi_iload_n (pc := 132) h (i := 2) zd_MO_flowOfError_132 rfl 3 rfl ?_
  refine zi_aload_n (pc := 133) h (i := 0) zd_MO_flowOfError_133 rfl 4 rfl ?_
  refine zi_bipush (pc := 134) h zd_MO_flowOfError_134 zq_bi_22 ?_
  refine zi_callV (pc := 136) h (st := [_, _]) (zc_MO_address (a := 22) (b := 23) zq_in_22_48 ⟨by decide, by decide, by decide⟩) zm_MO_address zw_690 zx_MO zq_k26 rfl ⟨by decide, by decide⟩ zd_MO_flowOfError_136 (Nat.le_of_ble_eq_true rfl) rfl ?_
  refine zi_iload_n (pc := 139) h (i := 2) zd_MO_flowOfError_139 rfl 3 rfl ?_
  refine zi_iconst (pc := 140) h zd_MO_flowOfError_140 zq_ic_1 ?_
  refine zi_icmp_ne_t (pc := 141) h (tgt := 148) zd_MO_flowOfError_141 rfl hk ?_
  refine zi_iload (pc := 148) h (i := 4) zd_MO_flowOfError_148 1 rfl ?_
  refine zi_iconst (pc := 150) h zd_MO_flowOfError_150 zq_ic_0 ?_
  refine zi_iconst (pc := 151) h zd_MO_flowOfError_151 zq_ic_0 ?_
  refine zi_iload_n (pc := 152) h (i := 3) zd_MO_flowOfError_152 rfl 2 rfl ?_
  refine zi_callV (pc := 153) h (st := []) (zc_MO_find_ws hc hq) zm_MO_find zw_707 zx_MO zq_k26 rfl ⟨by decide, by decide⟩ zd_MO_flowOfError_153 (Nat.le_of_ble_eq_true rfl) rfl ?_
  refine zi_istore (pc := 156) h (i := 5) (L' := [(5, _), (4, _), (3, _), (2, _), (0, _), (1, _)]) zd_MO_flowOfError_156 (by decide) rfl ?_
  refine zi_iload (pc := 158) h (i := 5) zd_MO_flowOfError_158 0 rfl ?_
  refine zi_if_ge_t (pc := 160) h (tgt := 168) zd_MO_flowOfError_160 rfl (nI_pos' (by omega)) ?_
  refine zi_iload (pc := 168) h (i := 5) zd_MO_flowOfError_168 0 rfl ?_
  exact zi_ireturn (pc := 170) h hr zd_MO_flowOfError_170 rfl rfl

set_option maxRecDepth 20000 in
theorem zc_MO_fo_1a {l : Launch} {G : zz_G} {F : Nat → va_E} {w : Nat → Int32} {sz : Int32} {la : Nat → Int32} {lz : Int32} {ra : Nat → Nat → Int32} {fa : Nat → Nat → Int32} {cd : Int32} {c : Nat} (hi1 : zv_ins (zs_adr w 6 7) = 0) : zz_M l zy_MO_flowOf zb_MO_flowOf 8 (some .int) 2 54 G [.ref (G.2.2 26), .int 1] (zz_N G F w sz la lz ra (nI c) fa cd) (some (.int (-5))) (zz_N G F w sz la lz ra (nI c) fa cd) := by
  refine zz_M.of (by decide) (Nat.le_of_ble_eq_true rfl) ?_
  intro X hX h hr
  subst hX
  have h : zz_C X G (zz_A G.2.2) 8 zb_MO_flowOf "PortTranslatorModel" 2 54 0 0 := h
  refine zi_aload_n (pc := 0) h (i := 0) zd_MO_flowOf_0 rfl 0 rfl ?_
  refine zi_bipush (pc := 1) h zd_MO_flowOf_1 zq_bi_6 ?_
  refine zi_callV (pc := 3) h (st := []) (zc_MO_address (a := 6) (b := 7) zq_in_6_48 ⟨by decide, by decide, by decide⟩) zm_MO_address zw_690 zx_MO zq_k26 rfl ⟨by decide, by decide⟩ zd_MO_flowOf_3 (Nat.le_of_ble_eq_true rfl) rfl ?_
  refine zi_istore_n (pc := 6) h (i := 2) (L' := [(2, _), (0, _), (1, _)]) zd_MO_flowOf_6 rfl (by decide) rfl ?_
  refine zi_aload_n (pc := 7) h (i := 0) zd_MO_flowOf_7 rfl 1 rfl ?_
  refine zi_bipush (pc := 8) h zd_MO_flowOf_8 zq_bi_8 ?_
  refine zi_callV (pc := 10) h (st := []) (zc_MO_address (a := 8) (b := 9) zq_in_8_48 ⟨by decide, by decide, by decide⟩) zm_MO_address zw_690 zx_MO zq_k26 rfl ⟨by decide, by decide⟩ zd_MO_flowOf_10 (Nat.le_of_ble_eq_true rfl) rfl ?_
  refine zi_istore_n (pc := 13) h (i := 3) (L' := [(3, _), (2, _), (0, _), (1, _)]) zd_MO_flowOf_13 rfl (by decide) rfl ?_
  refine zi_aload_n (pc := 14) h (i := 0) zd_MO_flowOf_14 rfl 2 rfl ?_
  refine zi_get (pc := 15) h zx_MO 26 0 zq_k26 rfl zq_j_0_18 zw_584 rfl zd_MO_flowOf_15 ?_
  refine zi_iconst (pc := 18) h zd_MO_flowOf_18 zq_ic_4 ?_
  refine zi_iald (pc := 19) h 27 zq_k27 rfl zq_in_4_48 zd_MO_flowOf_19 ?_
  refine zi_sipush (pc := 20) h zd_MO_flowOf_20 zq_si_255 ?_
  refine zi_iand (pc := 23) h zd_MO_flowOf_23 ?_
  refine zi_istore (pc := 24) h (i := 4) (L' := [(4, _), (3, _), (2, _), (0, _), (1, _)]) zd_MO_flowOf_24 (by decide) rfl ?_
  refine zi_iload_n (pc := 26) h (i := 1) zd_MO_flowOf_26 rfl 4 rfl ?_
  refine zi_if_eq_f (pc := 27) h (tgt := 47) zd_MO_flowOf_27 rfl (by decide) ?_
  refine zi_iload_n (pc := 30) h (i := 2) zd_MO_flowOf_30 rfl 2 rfl ?_
  refine zi_callS (pc := 31) h (st := []) (zc_MO_isInside) zm_MO_isInside zw_694 ⟨by decide, by decide⟩ zd_MO_flowOf_31 (Nat.le_of_ble_eq_true rfl) rfl ?_
  refine zi_if_eq_t (pc := 34) h (tgt := 60) zd_MO_flowOf_34 rfl hi1 ?_
  refine zi_bipush (pc := 60) h zd_MO_flowOf_60 zq_bi_m5 ?_
  exact zi_ireturn (pc := 62) h hr zd_MO_flowOf_62 rfl rfl

set_option maxRecDepth 20000 in
theorem zc_MO_fo_1b {l : Launch} {G : zz_G} {F : Nat → va_E} {w : Nat → Int32} {sz : Int32} {la : Nat → Int32} {lz : Int32} {ra : Nat → Nat → Int32} {fa : Nat → Nat → Int32} {cd : Int32} {c : Nat} (hi1 : ¬ zv_ins (zs_adr w 6 7) = 0) (ho1 : zv_out (zs_adr w 8 9) = 0) : zz_M l zy_MO_flowOf zb_MO_flowOf 8 (some .int) 2 54 G [.ref (G.2.2 26), .int 1] (zz_N G F w sz la lz ra (nI c) fa cd) (some (.int (-5))) (zz_N G F w sz la lz ra (nI c) fa cd) := by
  refine zz_M.of (by decide) (Nat.le_of_ble_eq_true rfl) ?_
  intro X hX h hr
  subst hX
  have h : zz_C X G (zz_A G.2.2) 8 zb_MO_flowOf "PortTranslatorModel" 2 54 0 0 := h
  refine zi_aload_n (pc := 0) h (i := 0) zd_MO_flowOf_0 rfl 0 rfl ?_
  refine zi_bipush (pc := 1) h zd_MO_flowOf_1 zq_bi_6 ?_
  refine zi_callV (pc := 3) h (st := []) (zc_MO_address (a := 6) (b := 7) zq_in_6_48 ⟨by decide, by decide, by decide⟩) zm_MO_address zw_690 zx_MO zq_k26 rfl ⟨by decide, by decide⟩ zd_MO_flowOf_3 (Nat.le_of_ble_eq_true rfl) rfl ?_
  refine zi_istore_n (pc := 6) h (i := 2) (L' := [(2, _), (0, _), (1, _)]) zd_MO_flowOf_6 rfl (by decide) rfl ?_
  refine zi_aload_n (pc := 7) h (i := 0) zd_MO_flowOf_7 rfl 1 rfl ?_
  refine zi_bipush (pc := 8) h zd_MO_flowOf_8 zq_bi_8 ?_
  refine zi_callV (pc := 10) h (st := []) (zc_MO_address (a := 8) (b := 9) zq_in_8_48 ⟨by decide, by decide, by decide⟩) zm_MO_address zw_690 zx_MO zq_k26 rfl ⟨by decide, by decide⟩ zd_MO_flowOf_10 (Nat.le_of_ble_eq_true rfl) rfl ?_
  refine zi_istore_n (pc := 13) h (i := 3) (L' := [(3, _), (2, _), (0, _), (1, _)]) zd_MO_flowOf_13 rfl (by decide) rfl ?_
  refine zi_aload_n (pc := 14) h (i := 0) zd_MO_flowOf_14 rfl 2 rfl ?_
  refine zi_get (pc := 15) h zx_MO 26 0 zq_k26 rfl zq_j_0_18 zw_584 rfl zd_MO_flowOf_15 ?_
  refine zi_iconst (pc := 18) h zd_MO_flowOf_18 zq_ic_4 ?_
  refine zi_iald (pc := 19) h 27 zq_k27 rfl zq_in_4_48 zd_MO_flowOf_19 ?_
  refine zi_sipush (pc := 20) h zd_MO_flowOf_20 zq_si_255 ?_
  refine zi_iand (pc := 23) h zd_MO_flowOf_23 ?_
  refine zi_istore (pc := 24) h (i := 4) (L' := [(4, _), (3, _), (2, _), (0, _), (1, _)]) zd_MO_flowOf_24 (by decide) rfl ?_
  refine zi_iload_n (pc := 26) h (i := 1) zd_MO_flowOf_26 rfl 4 rfl ?_
  refine zi_if_eq_f (pc := 27) h (tgt := 47) zd_MO_flowOf_27 rfl (by decide) ?_
  refine zi_iload_n (pc := 30) h (i := 2) zd_MO_flowOf_30 rfl 2 rfl ?_
  refine zi_callS (pc := 31) h (st := []) (zc_MO_isInside) zm_MO_isInside zw_694 ⟨by decide, by decide⟩ zd_MO_flowOf_31 (Nat.le_of_ble_eq_true rfl) rfl ?_
  refine zi_if_eq_f (pc := 34) h (tgt := 60) zd_MO_flowOf_34 rfl hi1 ?_
  refine zi_iload_n (pc := 37) h (i := 3) zd_MO_flowOf_37 rfl 1 rfl ?_
  refine zi_callS (pc := 38) h (st := []) (zc_MO_isOutside) zm_MO_isOutside zw_699 ⟨by decide, by decide⟩ zd_MO_flowOf_38 (Nat.le_of_ble_eq_true rfl) rfl ?_
  refine zi_if_ne_f (pc := 41) h (tgt := 63) zd_MO_flowOf_41 rfl ho1 ?_
  refine zi_goto (pc := 44) h (tgt := 60) zd_MO_flowOf_44 rfl ?_
  refine zi_bipush (pc := 60) h zd_MO_flowOf_60 zq_bi_m5 ?_
  exact zi_ireturn (pc := 62) h hr zd_MO_flowOf_62 rfl rfl

set_option maxRecDepth 20000 in
theorem zc_MO_fo_0a {l : Launch} {G : zz_G} {F : Nat → va_E} {w : Nat → Int32} {sz : Int32} {la : Nat → Int32} {lz : Int32} {ra : Nat → Nat → Int32} {fa : Nat → Nat → Int32} {cd : Int32} {c : Nat} (hi1 : ¬ zs_adr w 8 9 = -969710591) : zz_M l zy_MO_flowOf zb_MO_flowOf 8 (some .int) 2 54 G [.ref (G.2.2 26), .int 0] (zz_N G F w sz la lz ra (nI c) fa cd) (some (.int (-5))) (zz_N G F w sz la lz ra (nI c) fa cd) := by
  refine zz_M.of (by decide) (Nat.le_of_ble_eq_true rfl) ?_
  intro X hX h hr
  subst hX
  have h : zz_C X G (zz_A G.2.2) 8 zb_MO_flowOf "PortTranslatorModel" 2 54 0 0 := h
  refine zi_aload_n (pc := 0) h (i := 0) zd_MO_flowOf_0 rfl 0 rfl ?_
  refine zi_bipush (pc := 1) h zd_MO_flowOf_1 zq_bi_6 ?_
  refine zi_callV (pc := 3) h (st := []) (zc_MO_address (a := 6) (b := 7) zq_in_6_48 ⟨by decide, by decide, by decide⟩) zm_MO_address zw_690 zx_MO zq_k26 rfl ⟨by decide, by decide⟩ zd_MO_flowOf_3 (Nat.le_of_ble_eq_true rfl) rfl ?_
  refine zi_istore_n (pc := 6) h (i := 2) (L' := [(2, _), (0, _), (1, _)]) zd_MO_flowOf_6 rfl (by decide) rfl ?_
  refine zi_aload_n (pc := 7) h (i := 0) zd_MO_flowOf_7 rfl 1 rfl ?_
  refine zi_bipush (pc := 8) h zd_MO_flowOf_8 zq_bi_8 ?_
  refine zi_callV (pc := 10) h (st := []) (zc_MO_address (a := 8) (b := 9) zq_in_8_48 ⟨by decide, by decide, by decide⟩) zm_MO_address zw_690 zx_MO zq_k26 rfl ⟨by decide, by decide⟩ zd_MO_flowOf_10 (Nat.le_of_ble_eq_true rfl) rfl ?_
  refine zi_istore_n (pc := 13) h (i := 3) (L' := [(3, _), (2, _), (0, _), (1, _)]) zd_MO_flowOf_13 rfl (by decide) rfl ?_
  refine zi_aload_n (pc := 14) h (i := 0) zd_MO_flowOf_14 rfl 2 rfl ?_
  refine zi_get (pc := 15) h zx_MO 26 0 zq_k26 rfl zq_j_0_18 zw_584 rfl zd_MO_flowOf_15 ?_
  refine zi_iconst (pc := 18) h zd_MO_flowOf_18 zq_ic_4 ?_
  refine zi_iald (pc := 19) h 27 zq_k27 rfl zq_in_4_48 zd_MO_flowOf_19 ?_
  refine zi_sipush (pc := 20) h zd_MO_flowOf_20 zq_si_255 ?_
  refine zi_iand (pc := 23) h zd_MO_flowOf_23 ?_
  refine zi_istore (pc := 24) h (i := 4) (L' := [(4, _), (3, _), (2, _), (0, _), (1, _)]) zd_MO_flowOf_24 (by decide) rfl ?_
  refine zi_iload_n (pc := 26) h (i := 1) zd_MO_flowOf_26 rfl 4 rfl ?_
  refine zi_if_eq_t (pc := 27) h (tgt := 47) zd_MO_flowOf_27 rfl (by decide) ?_
  refine zi_iload_n (pc := 47) h (i := 3) zd_MO_flowOf_47 rfl 1 rfl ?_
  refine zi_ldc (pc := 48) h zw_702 zd_MO_flowOf_48 ?_
  refine zi_icmp_ne_t (pc := 50) h (tgt := 60) zd_MO_flowOf_50 rfl hi1 ?_
  refine zi_bipush (pc := 60) h zd_MO_flowOf_60 zq_bi_m5 ?_
  exact zi_ireturn (pc := 62) h hr zd_MO_flowOf_62 rfl rfl

set_option maxRecDepth 20000 in
theorem zc_MO_fo_0b {l : Launch} {G : zz_G} {F : Nat → va_E} {w : Nat → Int32} {sz : Int32} {la : Nat → Int32} {lz : Int32} {ra : Nat → Nat → Int32} {fa : Nat → Nat → Int32} {cd : Int32} {c : Nat} (hi1 : zs_adr w 8 9 = -969710591) (ho1 : zv_out (zs_adr w 6 7) = 0) : zz_M l zy_MO_flowOf zb_MO_flowOf 8 (some .int) 2 54 G [.ref (G.2.2 26), .int 0] (zz_N G F w sz la lz ra (nI c) fa cd) (some (.int (-5))) (zz_N G F w sz la lz ra (nI c) fa cd) := by
  refine zz_M.of (by decide) (Nat.le_of_ble_eq_true rfl) ?_
  intro X hX h hr
  subst hX
  have h : zz_C X G (zz_A G.2.2) 8 zb_MO_flowOf "PortTranslatorModel" 2 54 0 0 := h
  refine zi_aload_n (pc := 0) h (i := 0) zd_MO_flowOf_0 rfl 0 rfl ?_
  refine zi_bipush (pc := 1) h zd_MO_flowOf_1 zq_bi_6 ?_
  refine zi_callV (pc := 3) h (st := []) (zc_MO_address (a := 6) (b := 7) zq_in_6_48 ⟨by decide, by decide, by decide⟩) zm_MO_address zw_690 zx_MO zq_k26 rfl ⟨by decide, by decide⟩ zd_MO_flowOf_3 (Nat.le_of_ble_eq_true rfl) rfl ?_
  refine zi_istore_n (pc := 6) h (i := 2) (L' := [(2, _), (0, _), (1, _)]) zd_MO_flowOf_6 rfl (by decide) rfl ?_
  refine zi_aload_n (pc := 7) h (i := 0) zd_MO_flowOf_7 rfl 1 rfl ?_
  refine zi_bipush (pc := 8) h zd_MO_flowOf_8 zq_bi_8 ?_
  refine zi_callV (pc := 10) h (st := []) (zc_MO_address (a := 8) (b := 9) zq_in_8_48 ⟨by decide, by decide, by decide⟩) zm_MO_address zw_690 zx_MO zq_k26 rfl ⟨by decide, by decide⟩ zd_MO_flowOf_10 (Nat.le_of_ble_eq_true rfl) rfl ?_
  refine zi_istore_n (pc := 13) h (i := 3) (L' := [(3, _), (2, _), (0, _), (1, _)]) zd_MO_flowOf_13 rfl (by decide) rfl ?_
  refine zi_aload_n (pc := 14) h (i := 0) zd_MO_flowOf_14 rfl 2 rfl ?_
  refine zi_get (pc := 15) h zx_MO 26 0 zq_k26 rfl zq_j_0_18 zw_584 rfl zd_MO_flowOf_15 ?_
  refine zi_iconst (pc := 18) h zd_MO_flowOf_18 zq_ic_4 ?_
  refine zi_iald (pc := 19) h 27 zq_k27 rfl zq_in_4_48 zd_MO_flowOf_19 ?_
  refine zi_sipush (pc := 20) h zd_MO_flowOf_20 zq_si_255 ?_
  refine zi_iand (pc := 23) h zd_MO_flowOf_23 ?_
  refine zi_istore (pc := 24) h (i := 4) (L' := [(4, _), (3, _), (2, _), (0, _), (1, _)]) zd_MO_flowOf_24 (by decide) rfl ?_
  refine zi_iload_n (pc := 26) h (i := 1) zd_MO_flowOf_26 rfl 4 rfl ?_
  refine zi_if_eq_t (pc := 27) h (tgt := 47) zd_MO_flowOf_27 rfl (by decide) ?_
  refine zi_iload_n (pc := 47) h (i := 3) zd_MO_flowOf_47 rfl 1 rfl ?_
  refine zi_ldc (pc := 48) h zw_702 zd_MO_flowOf_48 ?_
  refine zi_icmp_ne_f (pc := 50) h (tgt := 60) zd_MO_flowOf_50 rfl hi1 ?_
  refine zi_iload_n (pc := 53) h (i := 2) zd_MO_flowOf_53 rfl 2 rfl ?_
  refine zi_callS (pc := 54) h (st := []) (zc_MO_isOutside) zm_MO_isOutside zw_699 ⟨by decide, by decide⟩ zd_MO_flowOf_54 (Nat.le_of_ble_eq_true rfl) rfl ?_
  refine zi_if_ne_f (pc := 57) h (tgt := 63) zd_MO_flowOf_57 rfl ho1 ?_
  refine zi_bipush (pc := 60) h zd_MO_flowOf_60 zq_bi_m5 ?_
  exact zi_ireturn (pc := 62) h hr zd_MO_flowOf_62 rfl rfl

set_option maxRecDepth 20000 in
theorem zc_MO_fo_1e {l : Launch} {G : zz_G} {F : Nat → va_E} {w : Nat → Int32} {sz : Int32} {la : Nat → Int32} {lz : Int32} {ra : Nat → Nat → Int32} {fa : Nat → Nat → Int32} {cd : Int32} {c : Nat} {x : Int32} (hi1 : ¬ zv_ins (zs_adr w 6 7) = 0) (ho1 : ¬ zv_out (zs_adr w 8 9) = 0) (he : ¬ zv_err w = 0) (hM : zz_M l zy_MO_flowOfError zb_MO_flowOfError 6 (some .int) 1 28 G [.ref (G.2.2 26), .int 1] (zz_N G F w sz la lz ra (nI c) fa cd) (some (.int x)) (zz_N G F w sz la lz ra (nI c) fa cd)) : zz_M l zy_MO_flowOf zb_MO_flowOf 8 (some .int) 2 54 G [.ref (G.2.2 26), .int 1] (zz_N G F w sz la lz ra (nI c) fa cd) (some (.int x)) (zz_N G F w sz la lz ra (nI c) fa cd) := by
  refine zz_M.of (by decide) (Nat.le_of_ble_eq_true rfl) ?_
  intro X hX h hr
  subst hX
  have h : zz_C X G (zz_A G.2.2) 8 zb_MO_flowOf "PortTranslatorModel" 2 54 0 0 := h
  refine zi_aload_n (pc := 0) h (i := 0) zd_MO_flowOf_0 rfl 0 rfl ?_
  refine zi_bipush (pc := 1) h zd_MO_flowOf_1 zq_bi_6 ?_
  refine zi_callV (pc := 3) h (st := []) (zc_MO_address (a := 6) (b := 7) zq_in_6_48 ⟨by decide, by decide, by decide⟩) zm_MO_address zw_690 zx_MO zq_k26 rfl ⟨by decide, by decide⟩ zd_MO_flowOf_3 (Nat.le_of_ble_eq_true rfl) rfl ?_
  refine zi_istore_n (pc := 6) h (i := 2) (L' := [(2, _), (0, _), (1, _)]) zd_MO_flowOf_6 rfl (by decide) rfl ?_
  refine zi_aload_n (pc := 7) h (i := 0) zd_MO_flowOf_7 rfl 1 rfl ?_
  refine zi_bipush (pc := 8) h zd_MO_flowOf_8 zq_bi_8 ?_
  refine zi_callV (pc := 10) h (st := []) (zc_MO_address (a := 8) (b := 9) zq_in_8_48 ⟨by decide, by decide, by decide⟩) zm_MO_address zw_690 zx_MO zq_k26 rfl ⟨by decide, by decide⟩ zd_MO_flowOf_10 (Nat.le_of_ble_eq_true rfl) rfl ?_
  refine zi_istore_n (pc := 13) h (i := 3) (L' := [(3, _), (2, _), (0, _), (1, _)]) zd_MO_flowOf_13 rfl (by decide) rfl ?_
  refine zi_aload_n (pc := 14) h (i := 0) zd_MO_flowOf_14 rfl 2 rfl ?_
  refine zi_get (pc := 15) h zx_MO 26 0 zq_k26 rfl zq_j_0_18 zw_584 rfl zd_MO_flowOf_15 ?_
  refine zi_iconst (pc := 18) h zd_MO_flowOf_18 zq_ic_4 ?_
  refine zi_iald (pc := 19) h 27 zq_k27 rfl zq_in_4_48 zd_MO_flowOf_19 ?_
  refine zi_sipush (pc := 20) h zd_MO_flowOf_20 zq_si_255 ?_
  refine zi_iand (pc := 23) h zd_MO_flowOf_23 ?_
  refine zi_istore (pc := 24) h (i := 4) (L' := [(4, _), (3, _), (2, _), (0, _), (1, _)]) zd_MO_flowOf_24 (by decide) rfl ?_
  refine zi_iload_n (pc := 26) h (i := 1) zd_MO_flowOf_26 rfl 4 rfl ?_
  refine zi_if_eq_f (pc := 27) h (tgt := 47) zd_MO_flowOf_27 rfl (by decide) ?_
  refine zi_iload_n (pc := 30) h (i := 2) zd_MO_flowOf_30 rfl 2 rfl ?_
  refine zi_callS (pc := 31) h (st := []) (zc_MO_isInside) zm_MO_isInside zw_694 ⟨by decide, by decide⟩ zd_MO_flowOf_31 (Nat.le_of_ble_eq_true rfl) rfl ?_
  refine zi_if_eq_f (pc := 34) h (tgt := 60) zd_MO_flowOf_34 rfl hi1 ?_
  refine zi_iload_n (pc := 37) h (i := 3) zd_MO_flowOf_37 rfl 1 rfl ?_
  refine zi_callS (pc := 38) h (st := []) (zc_MO_isOutside) zm_MO_isOutside zw_699 ⟨by decide, by decide⟩ zd_MO_flowOf_38 (Nat.le_of_ble_eq_true rfl) rfl ?_
  refine zi_if_ne_t (pc := 41) h (tgt := 63) zd_MO_flowOf_41 rfl ho1 ?_
  refine zi_aload_n (pc := 63) h (i := 0) zd_MO_flowOf_63 rfl 3 rfl ?_
  refine zi_callV (pc := 64) h (st := []) (zc_MO_isError) zm_MO_isError zw_682 zx_MO zq_k26 rfl ⟨by decide, by decide⟩ zd_MO_flowOf_64 (Nat.le_of_ble_eq_true rfl) rfl ?_
  refine zi_if_eq_f (pc := 67) h (tgt := 76) zd_MO_flowOf_67 rfl he ?_
  refine zi_aload_n (pc := 70) h (i := 0) zd_MO_flowOf_70 rfl 3 rfl ?_
  refine zi_iload_n (pc := 71) h (i := 1) zd_MO_flowOf_71 rfl 4 rfl ?_
  refine zi_callV (pc := 72) h (st := []) hM zm_MO_flowOfError zw_703 zx_MO zq_k26 rfl ⟨by decide, by decide⟩ zd_MO_flowOf_72 (Nat.le_of_ble_eq_true rfl) rfl ?_
  exact zi_ireturn (pc := 75) h hr zd_MO_flowOf_75 rfl rfl

set_option maxRecDepth 20000 in
theorem zc_MO_fo_11s {l : Launch} {G : zz_G} {F : Nat → va_E} {w : Nat → Int32} {sz : Int32} {la : Nat → Int32} {lz : Int32} {ra : Nat → Nat → Int32} {fa : Nat → Nat → Int32} {cd : Int32} {c i : Nat} (hc : c ≤ 12) (hi1 : ¬ zv_ins (zs_adr w 6 7) = 0) (ho1 : ¬ zv_out (zs_adr w 8 9) = 0) (he : zv_err w = 0) (hk : w 4 &&& 255 = 1) (hi : i < c) (hq : zs_ff (zv_mr fa (w 4 &&& 255) (zs_adr w 8 9) 0 (zs_adr w 6 7) (w 12)) 0 c = some i) : zz_M l zy_MO_flowOf zb_MO_flowOf 8 (some .int) 2 54 G [.ref (G.2.2 26), .int 1] (zz_N G F w sz la lz ra (nI c) fa cd) (some (.int (nI i))) (zz_N G F w sz la lz ra (nI c) fa cd) := by
  refine zz_M.of (by decide) (Nat.le_of_ble_eq_true rfl) ?_
  intro X hX h hr
  subst hX
  have h : zz_C X G (zz_A G.2.2) 8 zb_MO_flowOf "PortTranslatorModel" 2 54 0 0 := h
  refine zi_aload_n (pc := 0) h (i := 0) zd_MO_flowOf_0 rfl 0 rfl ?_
  refine zi_bipush (pc := 1) h zd_MO_flowOf_1 zq_bi_6 ?_
  refine zi_callV (pc := 3) h (st := []) (zc_MO_address (a := 6) (b := 7) zq_in_6_48 ⟨by decide, by decide, by decide⟩) zm_MO_address zw_690 zx_MO zq_k26 rfl ⟨by decide, by decide⟩ zd_MO_flowOf_3 (Nat.le_of_ble_eq_true rfl) rfl ?_
  refine zi_istore_n (pc := 6) h (i := 2) (L' := [(2, _), (0, _), (1, _)]) zd_MO_flowOf_6 rfl (by decide) rfl ?_
  refine zi_aload_n (pc := 7) h (i := 0) zd_MO_flowOf_7 rfl 1 rfl ?_
  refine zi_bipush (pc := 8) h zd_MO_flowOf_8 zq_bi_8 ?_
  refine zi_callV (pc := 10) h (st := []) (zc_MO_address (a := 8) (b := 9) zq_in_8_48 ⟨by decide, by decide, by decide⟩) zm_MO_address zw_690 zx_MO zq_k26 rfl ⟨by decide, by decide⟩ zd_MO_flowOf_10 (Nat.le_of_ble_eq_true rfl) rfl ?_
  refine zi_istore_n (pc := 13) h (i := 3) (L' := [(3, _), (2, _), (0, _), (1, _)]) zd_MO_flowOf_13 rfl (by decide) rfl ?_
  refine zi_aload_n (pc := 14) h (i := 0) zd_MO_flowOf_14 rfl 2 rfl ?_
  refine zi_get (pc := 15) h zx_MO 26 0 zq_k26 rfl zq_j_0_18 zw_584 rfl zd_MO_flowOf_15 ?_
  refine zi_iconst (pc := 18) h zd_MO_flowOf_18 zq_ic_4 ?_
  refine zi_iald (pc := 19) h 27 zq_k27 rfl zq_in_4_48 zd_MO_flowOf_19 ?_
  refine zi_sipush (pc := 20) h zd_MO_flowOf_20 zq_si_255 ?_
  refine zi_iand (pc := 23) h zd_MO_flowOf_23 ?_
  refine zi_istore (pc := 24) h (i := 4) (L' := [(4, _), (3, _), (2, _), (0, _), (1, _)]) zd_MO_flowOf_24 (by decide) rfl ?_
  refine zi_iload_n (pc := 26) h (i := 1) zd_MO_flowOf_26 rfl 4 rfl ?_
  refine zi_if_eq_f (pc := 27) h (tgt := 47) zd_MO_flowOf_27 rfl (by decide) ?_
  refine zi_iload_n (pc := 30) h (i := 2) zd_MO_flowOf_30 rfl 2 rfl ?_
  refine zi_callS (pc := 31) h (st := []) (zc_MO_isInside) zm_MO_isInside zw_694 ⟨by decide, by decide⟩ zd_MO_flowOf_31 (Nat.le_of_ble_eq_true rfl) rfl ?_
  refine zi_if_eq_f (pc := 34) h (tgt := 60) zd_MO_flowOf_34 rfl hi1 ?_
  refine zi_iload_n (pc := 37) h (i := 3) zd_MO_flowOf_37 rfl 1 rfl ?_
  refine zi_callS (pc := 38) h (st := []) (zc_MO_isOutside) zm_MO_isOutside zw_699 ⟨by decide, by decide⟩ zd_MO_flowOf_38 (Nat.le_of_ble_eq_true rfl) rfl ?_
  refine zi_if_ne_t (pc := 41) h (tgt := 63) zd_MO_flowOf_41 rfl ho1 ?_
  refine zi_aload_n (pc := 63) h (i := 0) zd_MO_flowOf_63 rfl 3 rfl ?_
  refine zi_callV (pc := 64) h (st := []) (zc_MO_isError) zm_MO_isError zw_682 zx_MO zq_k26 rfl ⟨by decide, by decide⟩ zd_MO_flowOf_64 (Nat.le_of_ble_eq_true rfl) rfl ?_
  refine zi_if_eq_t (pc := 67) h (tgt := 76) zd_MO_flowOf_67 rfl he ?_
  refine zi_iload (pc := 76) h (i := 4) zd_MO_flowOf_76 0 rfl ?_
  refine zi_iconst (pc := 78) h zd_MO_flowOf_78 zq_ic_1 ?_
  refine zi_icmp_ne_f (pc := 79) h (tgt := 92) zd_MO_flowOf_79 rfl hk ?_
  refine zi_aload_n (pc := 82) h (i := 0) zd_MO_flowOf_82 rfl 3 rfl ?_
  refine zi_get (pc := 83) h zx_MO 26 0 zq_k26 rfl zq_j_0_18 zw_584 rfl zd_MO_flowOf_83 ?_
  refine zi_bipush (pc := 86) h zd_MO_flowOf_86 zq_bi_12 ?_
  refine zi_iald (pc := 88) h 27 zq_k27 rfl zq_in_12_48 zd_MO_flowOf_88 ?_
  refine zi_goto (pc := 89) h (tgt := 99) zd_MO_flowOf_89 rfl ?_
  refine zi_istore (pc := 99) h (i := 5) (L' := [(5, _), (4, _), (3, _), (2, _), (0, _), (1, _)]) zd_MO_flowOf_99 (by decide) rfl ?_
  refine zi_iload (pc := 101) h (i := 4) zd_MO_flowOf_101 1 rfl ?_
  refine zi_iconst (pc := 103) h zd_MO_flowOf_103 zq_ic_1 ?_
  refine zi_icmp_ne_f (pc := 104) h (tgt := 117) zd_MO_flowOf_104 rfl hk ?_
  refine zi_aload_n (pc := 107) h (i := 0) zd_MO_flowOf_107 rfl 4 rfl ?_
  refine zi_get (pc := 108) h zx_MO 26 0 zq_k26 rfl zq_j_0_18 zw_584 rfl zd_MO_flowOf_108 ?_
  refine zi_bipush (pc := 111) h zd_MO_flowOf_111 zq_bi_12 ?_
  refine zi_iald (pc := 113) h 27 zq_k27 rfl zq_in_12_48 zd_MO_flowOf_113 ?_
  refine zi_goto (pc := 114) h (tgt := 124) zd_MO_flowOf_114 rfl ?_
  refine zi_istore (pc := 124) h (i := 6) (L' := [(6, _), (5, _), (4, _), (3, _), (2, _), (0, _), (1, _)]) zd_MO_flowOf_124 (by decide) rfl ?_
  refine zi_iload_n (pc := 126) h (i := 1) zd_MO_flowOf_126 rfl 6 rfl ?_
  refine zi_if_ne_t (pc := 127) h (tgt := 187) zd_MO_flowOf_127 rfl (by decide) ?_
  refine zi_aload_n (pc := 187) h (i := 0) zd_MO_flowOf_187 rfl 5 rfl ?_
  refine zi_iload (pc := 188) h (i := 4) zd_MO_flowOf_188 2 rfl ?_
  refine zi_iload_n (pc := 190) h (i := 3) zd_MO_flowOf_190 rfl 3 rfl ?_
  refine zi_iload (pc := 191) h (i := 4) zd_MO_flowOf_191 2 rfl ?_
  refine zi_iconst (pc := 193) h zd_MO_flowOf_193 zq_ic_1 ?_
  refine zi_icmp_ne_f (pc := 194) h (tgt := 201) zd_MO_flowOf_194 rfl hk ?_
  refine zi_iconst (pc := 197) h zd_MO_flowOf_197 zq_ic_0 ?_
  refine zi_goto (pc := 198) h (tgt := 203) zd_MO_flowOf_198 rfl ?_
  refine zi_iconst (pc := 203) h zd_MO_flowOf_203 zq_ic_1 ?_
  refine zi_iload_n (pc := 204) h (i := 2) zd_MO_flowOf_204 rfl 4 rfl ?_
  refine zi_iload (pc := 205) h (i := 5) zd_MO_flowOf_205 1 rfl ?_
  refine zi_callV (pc := 207) h (st := []) (zc_MO_find_rs hc hq) zm_MO_find zw_707 zx_MO zq_k26 rfl ⟨by decide, by decide⟩ zd_MO_flowOf_207 (Nat.le_of_ble_eq_true rfl) rfl ?_
  refine zi_istore (pc := 210) h (i := 7) (L' := [(7, _), (6, _), (5, _), (4, _), (3, _), (2, _), (0, _), (1, _)]) zd_MO_flowOf_210 (by decide) rfl ?_
  refine zi_iload (pc := 212) h (i := 7) zd_MO_flowOf_212 0 rfl ?_
  refine zi_if_lt_f (pc := 214) h (tgt := 222) zd_MO_flowOf_214 rfl (nI_pos (by omega)) ?_
  refine zi_iload (pc := 217) h (i := 7) zd_MO_flowOf_217 0 rfl ?_
  refine zi_goto (pc := 219) h (tgt := 244) zd_MO_flowOf_219 rfl ?_
  exact zi_ireturn (pc := 244) h hr zd_MO_flowOf_244 rfl rfl

set_option maxRecDepth 20000 in
theorem zc_MO_fo_11n {l : Launch} {G : zz_G} {F : Nat → va_E} {w : Nat → Int32} {sz : Int32} {la : Nat → Int32} {lz : Int32} {ra : Nat → Nat → Int32} {fa : Nat → Nat → Int32} {cd : Int32} {c : Nat} {x fn2 : Int32} {fa2 : Nat → Nat → Int32} (hc : c ≤ 12) (hi1 : ¬ zv_ins (zs_adr w 6 7) = 0) (ho1 : ¬ zv_out (zs_adr w 8 9) = 0) (he : zv_err w = 0) (hk : w 4 &&& 255 = 1) (hq : zs_ff (zv_mr fa (w 4 &&& 255) (zs_adr w 8 9) 0 (zs_adr w 6 7) (w 12)) 0 c = none) (hM : zz_M l zy_MO_begin zb_MO_begin 8 (some .int) 1 27 G [.ref (G.2.2 26), .int (w 4 &&& 255), .int (zs_adr w 6 7), .int (w 12), .int (zs_adr w 8 9), .int 0] (zz_N G F w sz la lz ra (nI c) fa cd) (some (.int x)) (zz_N G F w sz la lz ra fn2 fa2 cd)) : zz_M l zy_MO_flowOf zb_MO_flowOf 8 (some .int) 2 54 G [.ref (G.2.2 26), .int 1] (zz_N G F w sz la lz ra (nI c) fa cd) (some (.int x)) (zz_N G F w sz la lz ra fn2 fa2 cd) := by
  refine zz_M.of (by decide) (Nat.le_of_ble_eq_true rfl) ?_
  intro X hX h hr
  subst hX
  have h : zz_C X G (zz_A G.2.2) 8 zb_MO_flowOf "PortTranslatorModel" 2 54 0 0 := h
  refine zi_aload_n (pc := 0) h (i := 0) zd_MO_flowOf_0 rfl 0 rfl ?_
  refine zi_bipush (pc := 1) h zd_MO_flowOf_1 zq_bi_6 ?_
  refine zi_callV (pc := 3) h (st := []) (zc_MO_address (a := 6) (b := 7) zq_in_6_48 ⟨by decide, by decide, by decide⟩) zm_MO_address zw_690 zx_MO zq_k26 rfl ⟨by decide, by decide⟩ zd_MO_flowOf_3 (Nat.le_of_ble_eq_true rfl) rfl ?_
  refine zi_istore_n (pc := 6) h (i := 2) (L' := [(2, _), (0, _), (1, _)]) zd_MO_flowOf_6 rfl (by decide) rfl ?_
  refine zi_aload_n (pc := 7) h (i := 0) zd_MO_flowOf_7 rfl 1 rfl ?_
  refine zi_bipush (pc := 8) h zd_MO_flowOf_8 zq_bi_8 ?_
  refine zi_callV (pc := 10) h (st := []) (zc_MO_address (a := 8) (b := 9) zq_in_8_48 ⟨by decide, by decide, by decide⟩) zm_MO_address zw_690 zx_MO zq_k26 rfl ⟨by decide, by decide⟩ zd_MO_flowOf_10 (Nat.le_of_ble_eq_true rfl) rfl ?_
  refine zi_istore_n (pc := 13) h (i := 3) (L' := [(3, _), (2, _), (0, _), (1, _)]) zd_MO_flowOf_13 rfl (by decide) rfl ?_
  refine zi_aload_n (pc := 14) h (i := 0) zd_MO_flowOf_14 rfl 2 rfl ?_
  refine zi_get (pc := 15) h zx_MO 26 0 zq_k26 rfl zq_j_0_18 zw_584 rfl zd_MO_flowOf_15 ?_
  refine zi_iconst (pc := 18) h zd_MO_flowOf_18 zq_ic_4 ?_
  refine zi_iald (pc := 19) h 27 zq_k27 rfl zq_in_4_48 zd_MO_flowOf_19 ?_
  refine zi_sipush (pc := 20) h zd_MO_flowOf_20 zq_si_255 ?_
  refine zi_iand (pc := 23) h zd_MO_flowOf_23 ?_
  refine zi_istore (pc := 24) h (i := 4) (L' := [(4, _), (3, _), (2, _), (0, _), (1, _)]) zd_MO_flowOf_24 (by decide) rfl ?_
  refine zi_iload_n (pc := 26) h (i := 1) zd_MO_flowOf_26 rfl 4 rfl ?_
  refine zi_if_eq_f (pc := 27) h (tgt := 47) zd_MO_flowOf_27 rfl (by decide) ?_
  refine zi_iload_n (pc := 30) h (i := 2) zd_MO_flowOf_30 rfl 2 rfl ?_
  refine zi_callS (pc := 31) h (st := []) (zc_MO_isInside) zm_MO_isInside zw_694 ⟨by decide, by decide⟩ zd_MO_flowOf_31 (Nat.le_of_ble_eq_true rfl) rfl ?_
  refine zi_if_eq_f (pc := 34) h (tgt := 60) zd_MO_flowOf_34 rfl hi1 ?_
  refine zi_iload_n (pc := 37) h (i := 3) zd_MO_flowOf_37 rfl 1 rfl ?_
  refine zi_callS (pc := 38) h (st := []) (zc_MO_isOutside) zm_MO_isOutside zw_699 ⟨by decide, by decide⟩ zd_MO_flowOf_38 (Nat.le_of_ble_eq_true rfl) rfl ?_
  refine zi_if_ne_t (pc := 41) h (tgt := 63) zd_MO_flowOf_41 rfl ho1 ?_
  refine zi_aload_n (pc := 63) h (i := 0) zd_MO_flowOf_63 rfl 3 rfl ?_
  refine zi_callV (pc := 64) h (st := []) (zc_MO_isError) zm_MO_isError zw_682 zx_MO zq_k26 rfl ⟨by decide, by decide⟩ zd_MO_flowOf_64 (Nat.le_of_ble_eq_true rfl) rfl ?_
  refine zi_if_eq_t (pc := 67) h (tgt := 76) zd_MO_flowOf_67 rfl he ?_
  refine zi_iload (pc := 76) h (i := 4) zd_MO_flowOf_76 0 rfl ?_
  refine zi_iconst (pc := 78) h zd_MO_flowOf_78 zq_ic_1 ?_
  refine zi_icmp_ne_f (pc := 79) h (tgt := 92) zd_MO_flowOf_79 rfl hk ?_
  refine zi_aload_n (pc := 82) h (i := 0) zd_MO_flowOf_82 rfl 3 rfl ?_
  refine zi_get (pc := 83) h zx_MO 26 0 zq_k26 rfl zq_j_0_18 zw_584 rfl zd_MO_flowOf_83 ?_
  refine zi_bipush (pc := 86) h zd_MO_flowOf_86 zq_bi_12 ?_
  refine zi_iald (pc := 88) h 27 zq_k27 rfl zq_in_12_48 zd_MO_flowOf_88 ?_
  refine zi_goto (pc := 89) h (tgt := 99) zd_MO_flowOf_89 rfl ?_
  refine zi_istore (pc := 99) h (i := 5) (L' := [(5, _), (4, _), (3, _), (2, _), (0, _), (1, _)]) zd_MO_flowOf_99 (by decide) rfl ?_
  refine zi_iload (pc := 101) h (i := 4) zd_MO_flowOf_101 1 rfl ?_
  refine zi_iconst (pc := 103) h zd_MO_flowOf_103 zq_ic_1 ?_
  refine zi_icmp_ne_f (pc := 104) h (tgt := 117) zd_MO_flowOf_104 rfl hk ?_
  refine zi_aload_n (pc := 107) h (i := 0) zd_MO_flowOf_107 rfl 4 rfl ?_
  refine zi_get (pc := 108) h zx_MO 26 0 zq_k26 rfl zq_j_0_18 zw_584 rfl zd_MO_flowOf_108 ?_
  refine zi_bipush (pc := 111) h zd_MO_flowOf_111 zq_bi_12 ?_
  refine zi_iald (pc := 113) h 27 zq_k27 rfl zq_in_12_48 zd_MO_flowOf_113 ?_
  refine zi_goto (pc := 114) h (tgt := 124) zd_MO_flowOf_114 rfl ?_
  refine zi_istore (pc := 124) h (i := 6) (L' := [(6, _), (5, _), (4, _), (3, _), (2, _), (0, _), (1, _)]) zd_MO_flowOf_124 (by decide) rfl ?_
  refine zi_iload_n (pc := 126) h (i := 1) zd_MO_flowOf_126 rfl 6 rfl ?_
  refine zi_if_ne_t (pc := 127) h (tgt := 187) zd_MO_flowOf_127 rfl (by decide) ?_
  refine zi_aload_n (pc := 187) h (i := 0) zd_MO_flowOf_187 rfl 5 rfl ?_
  refine zi_iload (pc := 188) h (i := 4) zd_MO_flowOf_188 2 rfl ?_
  refine zi_iload_n (pc := 190) h (i := 3) zd_MO_flowOf_190 rfl 3 rfl ?_
  refine zi_iload (pc := 191) h (i := 4) zd_MO_flowOf_191 2 rfl ?_
  refine zi_iconst (pc := 193) h zd_MO_flowOf_193 zq_ic_1 ?_
  refine zi_icmp_ne_f (pc := 194) h (tgt := 201) zd_MO_flowOf_194 rfl hk ?_
  refine zi_iconst (pc := 197) h zd_MO_flowOf_197 zq_ic_0 ?_
  refine zi_goto (pc := 198) h (tgt := 203) zd_MO_flowOf_198 rfl ?_
  refine zi_iconst (pc := 203) h zd_MO_flowOf_203 zq_ic_1 ?_
  refine zi_iload_n (pc := 204) h (i := 2) zd_MO_flowOf_204 rfl 4 rfl ?_
  refine zi_iload (pc := 205) h (i := 5) zd_MO_flowOf_205 1 rfl ?_
  refine zi_callV (pc := 207) h (st := []) (zc_MO_find_rn hc hq) zm_MO_find zw_707 zx_MO zq_k26 rfl ⟨by decide, by decide⟩ zd_MO_flowOf_207 (Nat.le_of_ble_eq_true rfl) rfl ?_
  refine zi_istore (pc := 210) h (i := 7) (L' := [(7, _), (6, _), (5, _), (4, _), (3, _), (2, _), (0, _), (1, _)]) zd_MO_flowOf_210 (by decide) rfl ?_
  refine zi_iload (pc := 212) h (i := 7) zd_MO_flowOf_212 0 rfl ?_
  refine zi_if_lt_t (pc := 214) h (tgt := 222) zd_MO_flowOf_214 rfl (by decide) ?_
  refine zi_aload_n (pc := 222) h (i := 0) zd_MO_flowOf_222 rfl 6 rfl ?_
  refine zi_iload (pc := 223) h (i := 4) zd_MO_flowOf_223 3 rfl ?_
  refine zi_iload_n (pc := 225) h (i := 2) zd_MO_flowOf_225 rfl 5 rfl ?_
  refine zi_iload (pc := 226) h (i := 5) zd_MO_flowOf_226 2 rfl ?_
  refine zi_iload_n (pc := 228) h (i := 3) zd_MO_flowOf_228 rfl 4 rfl ?_
  refine zi_iload (pc := 229) h (i := 4) zd_MO_flowOf_229 3 rfl ?_
  refine zi_iconst (pc := 231) h zd_MO_flowOf_231 zq_ic_1 ?_
  refine zi_icmp_ne_f (pc := 232) h (tgt := 239) zd_MO_flowOf_232 rfl hk ?_
  refine zi_iconst (pc := 235) h zd_MO_flowOf_235 zq_ic_0 ?_
  refine zi_goto (pc := 236) h (tgt := 241) zd_MO_flowOf_236 rfl ?_
  refine zi_callV (pc := 241) h (st := []) hM zm_MO_begin zw_711 zx_MO zq_k26 rfl ⟨by decide, by decide⟩ zd_MO_flowOf_241 (Nat.le_of_ble_eq_true rfl) rfl ?_
  exact zi_ireturn (pc := 244) h hr zd_MO_flowOf_244 rfl rfl

set_option maxRecDepth 20000 in
theorem zc_MO_fo_10s {l : Launch} {G : zz_G} {F : Nat → va_E} {w : Nat → Int32} {sz : Int32} {la : Nat → Int32} {lz : Int32} {ra : Nat → Nat → Int32} {fa : Nat → Nat → Int32} {cd : Int32} {c i : Nat} (hc : c ≤ 12) (hi1 : ¬ zv_ins (zs_adr w 6 7) = 0) (ho1 : ¬ zv_out (zs_adr w 8 9) = 0) (he : zv_err w = 0) (hk : ¬ w 4 &&& 255 = 1) (hi : i < c) (hq : zs_ff (zv_mr fa (w 4 &&& 255) (zs_adr w 8 9) (w 11) (zs_adr w 6 7) (w 10)) 0 c = some i) : zz_M l zy_MO_flowOf zb_MO_flowOf 8 (some .int) 2 54 G [.ref (G.2.2 26), .int 1] (zz_N G F w sz la lz ra (nI c) fa cd) (some (.int (nI i))) (zz_N G F w sz la lz ra (nI c) fa cd) := by
  refine zz_M.of (by decide) (Nat.le_of_ble_eq_true rfl) ?_
  intro X hX h hr
  subst hX
  have h : zz_C X G (zz_A G.2.2) 8 zb_MO_flowOf "PortTranslatorModel" 2 54 0 0 := h
  refine zi_aload_n (pc := 0) h (i := 0) zd_MO_flowOf_0 rfl 0 rfl ?_
  refine zi_bipush (pc := 1) h zd_MO_flowOf_1 zq_bi_6 ?_
  refine zi_callV (pc := 3) h (st := []) (zc_MO_address (a := 6) (b := 7) zq_in_6_48 ⟨by decide, by decide, by decide⟩) zm_MO_address zw_690 zx_MO zq_k26 rfl ⟨by decide, by decide⟩ zd_MO_flowOf_3 (Nat.le_of_ble_eq_true rfl) rfl ?_
  refine zi_istore_n (pc := 6) h (i := 2) (L' := [(2, _), (0, _), (1, _)]) zd_MO_flowOf_6 rfl (by decide) rfl ?_
  refine zi_aload_n (pc := 7) h (i := 0) zd_MO_flowOf_7 rfl 1 rfl ?_
  refine zi_bipush (pc := 8) h zd_MO_flowOf_8 zq_bi_8 ?_
  refine zi_callV (pc := 10) h (st := []) (zc_MO_address (a := 8) (b := 9) zq_in_8_48 ⟨by decide, by decide, by decide⟩) zm_MO_address zw_690 zx_MO zq_k26 rfl ⟨by decide, by decide⟩ zd_MO_flowOf_10 (Nat.le_of_ble_eq_true rfl) rfl ?_
  refine zi_istore_n (pc := 13) h (i := 3) (L' := [(3, _), (2, _), (0, _), (1, _)]) zd_MO_flowOf_13 rfl (by decide) rfl ?_
  refine zi_aload_n (pc := 14) h (i := 0) zd_MO_flowOf_14 rfl 2 rfl ?_
  refine zi_get (pc := 15) h zx_MO 26 0 zq_k26 rfl zq_j_0_18 zw_584 rfl zd_MO_flowOf_15 ?_
  refine zi_iconst (pc := 18) h zd_MO_flowOf_18 zq_ic_4 ?_
  refine zi_iald (pc := 19) h 27 zq_k27 rfl zq_in_4_48 zd_MO_flowOf_19 ?_
  refine zi_sipush (pc := 20) h zd_MO_flowOf_20 zq_si_255 ?_
  refine zi_iand (pc := 23) h zd_MO_flowOf_23 ?_
  refine zi_istore (pc := 24) h (i := 4) (L' := [(4, _), (3, _), (2, _), (0, _), (1, _)]) zd_MO_flowOf_24 (by decide) rfl ?_
  refine zi_iload_n (pc := 26) h (i := 1) zd_MO_flowOf_26 rfl 4 rfl ?_
  refine zi_if_eq_f (pc := 27) h (tgt := 47) zd_MO_flowOf_27 rfl (by decide) ?_
  refine zi_iload_n (pc := 30) h (i := 2) zd_MO_flowOf_30 rfl 2 rfl ?_
  refine zi_callS (pc := 31) h (st := []) (zc_MO_isInside) zm_MO_isInside zw_694 ⟨by decide, by decide⟩ zd_MO_flowOf_31 (Nat.le_of_ble_eq_true rfl) rfl ?_
  refine zi_if_eq_f (pc := 34) h (tgt := 60) zd_MO_flowOf_34 rfl hi1 ?_
  refine zi_iload_n (pc := 37) h (i := 3) zd_MO_flowOf_37 rfl 1 rfl ?_
  refine zi_callS (pc := 38) h (st := []) (zc_MO_isOutside) zm_MO_isOutside zw_699 ⟨by decide, by decide⟩ zd_MO_flowOf_38 (Nat.le_of_ble_eq_true rfl) rfl ?_
  refine zi_if_ne_t (pc := 41) h (tgt := 63) zd_MO_flowOf_41 rfl ho1 ?_
  refine zi_aload_n (pc := 63) h (i := 0) zd_MO_flowOf_63 rfl 3 rfl ?_
  refine zi_callV (pc := 64) h (st := []) (zc_MO_isError) zm_MO_isError zw_682 zx_MO zq_k26 rfl ⟨by decide, by decide⟩ zd_MO_flowOf_64 (Nat.le_of_ble_eq_true rfl) rfl ?_
  refine zi_if_eq_t (pc := 67) h (tgt := 76) zd_MO_flowOf_67 rfl he ?_
  refine zi_iload (pc := 76) h (i := 4) zd_MO_flowOf_76 0 rfl ?_
  refine zi_iconst (pc := 78) h zd_MO_flowOf_78 zq_ic_1 ?_
  refine zi_icmp_ne_t (pc := 79) h (tgt := 92) zd_MO_flowOf_79 rfl hk ?_
  refine zi_aload_n (pc := 92) h (i := 0) zd_MO_flowOf_92 rfl 3 rfl ?_
  refine zi_get (pc := 93) h zx_MO 26 0 zq_k26 rfl zq_j_0_18 zw_584 rfl zd_MO_flowOf_93 ?_
  refine zi_bipush (pc := 96) h zd_MO_flowOf_96 zq_bi_10 ?_
  refine zi_iald (pc := 98) h 27 zq_k27 rfl zq_in_10_48 zd_MO_flowOf_98 ?_
  refine zi_istore (pc := 99) h (i := 5) (L' := [(5, _), (4, _), (3, _), (2, _), (0, _), (1, _)]) zd_MO_flowOf_99 (by decide) rfl ?_
  refine zi_iload (pc := 101) h (i := 4) zd_MO_flowOf_101 1 rfl ?_
  refine zi_iconst (pc := 103) h zd_MO_flowOf_103 zq_ic_1 ?_
  refine zi_icmp_ne_t (pc := 104) h (tgt := 117) zd_MO_flowOf_104 rfl hk ?_
  refine zi_aload_n (pc := 117) h (i := 0) zd_MO_flowOf_117 rfl 4 rfl ?_
  refine zi_get (pc := 118) h zx_MO 26 0 zq_k26 rfl zq_j_0_18 zw_584 rfl zd_MO_flowOf_118 ?_
  refine zi_bipush (pc := 121) h zd_MO_flowOf_121 zq_bi_11 ?_
  refine zi_iald (pc := 123) h 27 zq_k27 rfl zq_in_11_48 zd_MO_flowOf_123 ?_
  refine zi_istore (pc := 124) h (i := 6) (L' := [(6, _), (5, _), (4, _), (3, _), (2, _), (0, _), (1, _)]) zd_MO_flowOf_124 (by decide) rfl ?_
  refine zi_iload_n (pc := 126) h (i := 1) zd_MO_flowOf_126 rfl 6 rfl ?_
  refine zi_if_ne_t (pc := 127) h (tgt := 187) zd_MO_flowOf_127 rfl (by decide) ?_
  refine zi_aload_n (pc := 187) h (i := 0) zd_MO_flowOf_187 rfl 5 rfl ?_
  refine zi_iload (pc := 188) h (i := 4) zd_MO_flowOf_188 2 rfl ?_
  refine zi_iload_n (pc := 190) h (i := 3) zd_MO_flowOf_190 rfl 3 rfl ?_
  refine zi_iload (pc := 191) h (i := 4) zd_MO_flowOf_191 2 rfl ?_
  refine zi_iconst (pc := 193) h zd_MO_flowOf_193 zq_ic_1 ?_
  refine zi_icmp_ne_t (pc := 194) h (tgt := 201) zd_MO_flowOf_194 rfl hk ?_
  refine zi_iload (pc := 201) h (i := 6) zd_MO_flowOf_201 0 rfl ?_
  refine zi_iconst (pc := 203) h zd_MO_flowOf_203 zq_ic_1 ?_
  refine zi_iload_n (pc := 204) h (i := 2) zd_MO_flowOf_204 rfl 4 rfl ?_
  refine zi_iload (pc := 205) h (i := 5) zd_MO_flowOf_205 1 rfl ?_
  refine zi_callV (pc := 207) h (st := []) (zc_MO_find_rs hc hq) zm_MO_find zw_707 zx_MO zq_k26 rfl ⟨by decide, by decide⟩ zd_MO_flowOf_207 (Nat.le_of_ble_eq_true rfl) rfl ?_
  refine zi_istore (pc := 210) h (i := 7) (L' := [(7, _), (6, _), (5, _), (4, _), (3, _), (2, _), (0, _), (1, _)]) zd_MO_flowOf_210 (by decide) rfl ?_
  refine zi_iload (pc := 212) h (i := 7) zd_MO_flowOf_212 0 rfl ?_
  refine zi_if_lt_f (pc := 214) h (tgt := 222) zd_MO_flowOf_214 rfl (nI_pos (by omega)) ?_
  refine zi_iload (pc := 217) h (i := 7) zd_MO_flowOf_217 0 rfl ?_
  refine zi_goto (pc := 219) h (tgt := 244) zd_MO_flowOf_219 rfl ?_
  exact zi_ireturn (pc := 244) h hr zd_MO_flowOf_244 rfl rfl

set_option maxRecDepth 20000 in
theorem zc_MO_fo_10n {l : Launch} {G : zz_G} {F : Nat → va_E} {w : Nat → Int32} {sz : Int32} {la : Nat → Int32} {lz : Int32} {ra : Nat → Nat → Int32} {fa : Nat → Nat → Int32} {cd : Int32} {c : Nat} {x fn2 : Int32} {fa2 : Nat → Nat → Int32} (hc : c ≤ 12) (hi1 : ¬ zv_ins (zs_adr w 6 7) = 0) (ho1 : ¬ zv_out (zs_adr w 8 9) = 0) (he : zv_err w = 0) (hk : ¬ w 4 &&& 255 = 1) (hq : zs_ff (zv_mr fa (w 4 &&& 255) (zs_adr w 8 9) (w 11) (zs_adr w 6 7) (w 10)) 0 c = none) (hM : zz_M l zy_MO_begin zb_MO_begin 8 (some .int) 1 27 G [.ref (G.2.2 26), .int (w 4 &&& 255), .int (zs_adr w 6 7), .int (w 10), .int (zs_adr w 8 9), .int (w 11)] (zz_N G F w sz la lz ra (nI c) fa cd) (some (.int x)) (zz_N G F w sz la lz ra fn2 fa2 cd)) : zz_M l zy_MO_flowOf zb_MO_flowOf 8 (some .int) 2 54 G [.ref (G.2.2 26), .int 1] (zz_N G F w sz la lz ra (nI c) fa cd) (some (.int x)) (zz_N G F w sz la lz ra fn2 fa2 cd) := by
  refine zz_M.of (by decide) (Nat.le_of_ble_eq_true rfl) ?_
  intro X hX h hr
  subst hX
  have h : zz_C X G (zz_A G.2.2) 8 zb_MO_flowOf "PortTranslatorModel" 2 54 0 0 := h
  refine zi_aload_n (pc := 0) h (i := 0) zd_MO_flowOf_0 rfl 0 rfl ?_
  refine zi_bipush (pc := 1) h zd_MO_flowOf_1 zq_bi_6 ?_
  refine zi_callV (pc := 3) h (st := []) (zc_MO_address (a := 6) (b := 7) zq_in_6_48 ⟨by decide, by decide, by decide⟩) zm_MO_address zw_690 zx_MO zq_k26 rfl ⟨by decide, by decide⟩ zd_MO_flowOf_3 (Nat.le_of_ble_eq_true rfl) rfl ?_
  refine zi_istore_n (pc := 6) h (i := 2) (L' := [(2, _), (0, _), (1, _)]) zd_MO_flowOf_6 rfl (by decide) rfl ?_
  refine zi_aload_n (pc := 7) h (i := 0) zd_MO_flowOf_7 rfl 1 rfl ?_
  refine zi_bipush (pc := 8) h zd_MO_flowOf_8 zq_bi_8 ?_
  refine zi_callV (pc := 10) h (st := []) (zc_MO_address (a := 8) (b := 9) zq_in_8_48 ⟨by decide, by decide, by decide⟩) zm_MO_address zw_690 zx_MO zq_k26 rfl ⟨by decide, by decide⟩ zd_MO_flowOf_10 (Nat.le_of_ble_eq_true rfl) rfl ?_
  refine zi_istore_n (pc := 13) h (i := 3) (L' := [(3, _), (2, _), (0, _), (1, _)]) zd_MO_flowOf_13 rfl (by decide) rfl ?_
  refine zi_aload_n (pc := 14) h (i := 0) zd_MO_flowOf_14 rfl 2 rfl ?_
  refine zi_get (pc := 15) h zx_MO 26 0 zq_k26 rfl zq_j_0_18 zw_584 rfl zd_MO_flowOf_15 ?_
  refine zi_iconst (pc := 18) h zd_MO_flowOf_18 zq_ic_4 ?_
  refine zi_iald (pc := 19) h 27 zq_k27 rfl zq_in_4_48 zd_MO_flowOf_19 ?_
  refine zi_sipush (pc := 20) h zd_MO_flowOf_20 zq_si_255 ?_
  refine zi_iand (pc := 23) h zd_MO_flowOf_23 ?_
  refine zi_istore (pc := 24) h (i := 4) (L' := [(4, _), (3, _), (2, _), (0, _), (1, _)]) zd_MO_flowOf_24 (by decide) rfl ?_
  refine zi_iload_n (pc := 26) h (i := 1) zd_MO_flowOf_26 rfl 4 rfl ?_
  refine zi_if_eq_f (pc := 27) h (tgt := 47) zd_MO_flowOf_27 rfl (by decide) ?_
  refine zi_iload_n (pc := 30) h (i := 2) zd_MO_flowOf_30 rfl 2 rfl ?_
  refine zi_callS (pc := 31) h (st := []) (zc_MO_isInside) zm_MO_isInside zw_694 ⟨by decide, by decide⟩ zd_MO_flowOf_31 (Nat.le_of_ble_eq_true rfl) rfl ?_
  refine zi_if_eq_f (pc := 34) h (tgt := 60) zd_MO_flowOf_34 rfl hi1 ?_
  refine zi_iload_n (pc := 37) h (i := 3) zd_MO_flowOf_37 rfl 1 rfl ?_
  refine zi_callS (pc := 38) h (st := []) (zc_MO_isOutside) zm_MO_isOutside zw_699 ⟨by decide, by decide⟩ zd_MO_flowOf_38 (Nat.le_of_ble_eq_true rfl) rfl ?_
  refine zi_if_ne_t (pc := 41) h (tgt := 63) zd_MO_flowOf_41 rfl ho1 ?_
  refine zi_aload_n (pc := 63) h (i := 0) zd_MO_flowOf_63 rfl 3 rfl ?_
  refine zi_callV (pc := 64) h (st := []) (zc_MO_isError) zm_MO_isError zw_682 zx_MO zq_k26 rfl ⟨by decide, by decide⟩ zd_MO_flowOf_64 (Nat.le_of_ble_eq_true rfl) rfl ?_
  refine zi_if_eq_t (pc := 67) h (tgt := 76) zd_MO_flowOf_67 rfl he ?_
  refine zi_iload (pc := 76) h (i := 4) zd_MO_flowOf_76 0 rfl ?_
  refine zi_iconst (pc := 78) h zd_MO_flowOf_78 zq_ic_1 ?_
  refine zi_icmp_ne_t (pc := 79) h (tgt := 92) zd_MO_flowOf_79 rfl hk ?_
  refine zi_aload_n (pc := 92) h (i := 0) zd_MO_flowOf_92 rfl 3 rfl ?_
  refine zi_get (pc := 93) h zx_MO 26 0 zq_k26 rfl zq_j_0_18 zw_584 rfl zd_MO_flowOf_93 ?_
  refine zi_bipush (pc := 96) h zd_MO_flowOf_96 zq_bi_10 ?_
  refine zi_iald (pc := 98) h 27 zq_k27 rfl zq_in_10_48 zd_MO_flowOf_98 ?_
  refine zi_istore (pc := 99) h (i := 5) (L' := [(5, _), (4, _), (3, _), (2, _), (0, _), (1, _)]) zd_MO_flowOf_99 (by decide) rfl ?_
  refine zi_iload (pc := 101) h (i := 4) zd_MO_flowOf_101 1 rfl ?_
  refine zi_iconst (pc := 103) h zd_MO_flowOf_103 zq_ic_1 ?_
  refine zi_icmp_ne_t (pc := 104) h (tgt := 117) zd_MO_flowOf_104 rfl hk ?_
  refine zi_aload_n (pc := 117) h (i := 0) zd_MO_flowOf_117 rfl 4 rfl ?_
  refine zi_get (pc := 118) h zx_MO 26 0 zq_k26 rfl zq_j_0_18 zw_584 rfl zd_MO_flowOf_118 ?_
  refine zi_bipush (pc := 121) h zd_MO_flowOf_121 zq_bi_11 ?_
  refine zi_iald (pc := 123) h 27 zq_k27 rfl zq_in_11_48 zd_MO_flowOf_123 ?_
  refine zi_istore (pc := 124) h (i := 6) (L' := [(6, _), (5, _), (4, _), (3, _), (2, _), (0, _), (1, _)]) zd_MO_flowOf_124 (by decide) rfl ?_
  refine zi_iload_n (pc := 126) h (i := 1) zd_MO_flowOf_126 rfl 6 rfl ?_
  refine zi_if_ne_t (pc := 127) h (tgt := 187) zd_MO_flowOf_127 rfl (by decide) ?_
  refine zi_aload_n (pc := 187) h (i := 0) zd_MO_flowOf_187 rfl 5 rfl ?_
  refine zi_iload (pc := 188) h (i := 4) zd_MO_flowOf_188 2 rfl ?_
  refine zi_iload_n (pc := 190) h (i := 3) zd_MO_flowOf_190 rfl 3 rfl ?_
  refine zi_iload (pc := 191) h (i := 4) zd_MO_flowOf_191 2 rfl ?_
  refine zi_iconst (pc := 193) h zd_MO_flowOf_193 zq_ic_1 ?_
  refine zi_icmp_ne_t (pc := 194) h (tgt := 201) zd_MO_flowOf_194 rfl hk ?_
  refine zi_iload (pc := 201) h (i := 6) zd_MO_flowOf_201 0 rfl ?_
  refine zi_iconst (pc := 203) h zd_MO_flowOf_203 zq_ic_1 ?_
  refine zi_iload_n (pc := 204) h (i := 2) zd_MO_flowOf_204 rfl 4 rfl ?_
  refine zi_iload (pc := 205) h (i := 5) zd_MO_flowOf_205 1 rfl ?_
  refine zi_callV (pc := 207) h (st := []) (zc_MO_find_rn hc hq) zm_MO_find zw_707 zx_MO zq_k26 rfl ⟨by decide, by decide⟩ zd_MO_flowOf_207 (Nat.le_of_ble_eq_true rfl) rfl ?_
  refine zi_istore (pc := 210) h (i := 7) (L' := [(7, _), (6, _), (5, _), (4, _), (3, _), (2, _), (0, _), (1, _)]) zd_MO_flowOf_210 (by decide) rfl ?_
  refine zi_iload (pc := 212) h (i := 7) zd_MO_flowOf_212 0 rfl ?_
  refine zi_if_lt_t (pc := 214) h (tgt := 222) zd_MO_flowOf_214 rfl (by decide) ?_
  refine zi_aload_n (pc := 222) h (i := 0) zd_MO_flowOf_222 rfl 6 rfl ?_
  refine zi_iload (pc := 223) h (i := 4) zd_MO_flowOf_223 3 rfl ?_
  refine zi_iload_n (pc := 225) h (i := 2) zd_MO_flowOf_225 rfl 5 rfl ?_
  refine zi_iload (pc := 226) h (i := 5) zd_MO_flowOf_226 2 rfl ?_
  refine zi_iload_n (pc := 228) h (i := 3) zd_MO_flowOf_228 rfl 4 rfl ?_
  refine zi_iload (pc := 229) h (i := 4) zd_MO_flowOf_229 3 rfl ?_
  refine zi_iconst (pc := 231) h zd_MO_flowOf_231 zq_ic_1 ?_
  refine zi_icmp_ne_t (pc := 232) h (tgt := 239) zd_MO_flowOf_232 rfl hk ?_
  refine zi_iload (pc := 239) h (i := 6) zd_MO_flowOf_239 1 rfl ?_
  refine zi_callV (pc := 241) h (st := []) hM zm_MO_begin zw_711 zx_MO zq_k26 rfl ⟨by decide, by decide⟩ zd_MO_flowOf_241 (Nat.le_of_ble_eq_true rfl) rfl ?_
  exact zi_ireturn (pc := 244) h hr zd_MO_flowOf_244 rfl rfl

set_option maxRecDepth 20000 in
theorem zc_MO_fo_0e {l : Launch} {G : zz_G} {F : Nat → va_E} {w : Nat → Int32} {sz : Int32} {la : Nat → Int32} {lz : Int32} {ra : Nat → Nat → Int32} {fa : Nat → Nat → Int32} {cd : Int32} {c : Nat} {x : Int32} (hi1 : zs_adr w 8 9 = -969710591) (ho1 : ¬ zv_out (zs_adr w 6 7) = 0) (he : ¬ zv_err w = 0) (hM : zz_M l zy_MO_flowOfError zb_MO_flowOfError 6 (some .int) 1 28 G [.ref (G.2.2 26), .int 0] (zz_N G F w sz la lz ra (nI c) fa cd) (some (.int x)) (zz_N G F w sz la lz ra (nI c) fa cd)) : zz_M l zy_MO_flowOf zb_MO_flowOf 8 (some .int) 2 54 G [.ref (G.2.2 26), .int 0] (zz_N G F w sz la lz ra (nI c) fa cd) (some (.int x)) (zz_N G F w sz la lz ra (nI c) fa cd) := by
  refine zz_M.of (by decide) (Nat.le_of_ble_eq_true rfl) ?_
  intro X hX h hr
  subst hX
  have h : zz_C X G (zz_A G.2.2) 8 zb_MO_flowOf "PortTranslatorModel" 2 54 0 0 := h
  refine zi_aload_n (pc := 0) h (i := 0) zd_MO_flowOf_0 rfl 0 rfl ?_
  refine zi_bipush (pc := 1) h zd_MO_flowOf_1 zq_bi_6 ?_
  refine zi_callV (pc := 3) h (st := []) (zc_MO_address (a := 6) (b := 7) zq_in_6_48 ⟨by decide, by decide, by decide⟩) zm_MO_address zw_690 zx_MO zq_k26 rfl ⟨by decide, by decide⟩ zd_MO_flowOf_3 (Nat.le_of_ble_eq_true rfl) rfl ?_
  refine zi_istore_n (pc := 6) h (i := 2) (L' := [(2, _), (0, _), (1, _)]) zd_MO_flowOf_6 rfl (by decide) rfl ?_
  refine zi_aload_n (pc := 7) h (i := 0) zd_MO_flowOf_7 rfl 1 rfl ?_
  refine zi_bipush (pc := 8) h zd_MO_flowOf_8 zq_bi_8 ?_
  refine zi_callV (pc := 10) h (st := []) (zc_MO_address (a := 8) (b := 9) zq_in_8_48 ⟨by decide, by decide, by decide⟩) zm_MO_address zw_690 zx_MO zq_k26 rfl ⟨by decide, by decide⟩ zd_MO_flowOf_10 (Nat.le_of_ble_eq_true rfl) rfl ?_
  refine zi_istore_n (pc := 13) h (i := 3) (L' := [(3, _), (2, _), (0, _), (1, _)]) zd_MO_flowOf_13 rfl (by decide) rfl ?_
  refine zi_aload_n (pc := 14) h (i := 0) zd_MO_flowOf_14 rfl 2 rfl ?_
  refine zi_get (pc := 15) h zx_MO 26 0 zq_k26 rfl zq_j_0_18 zw_584 rfl zd_MO_flowOf_15 ?_
  refine zi_iconst (pc := 18) h zd_MO_flowOf_18 zq_ic_4 ?_
  refine zi_iald (pc := 19) h 27 zq_k27 rfl zq_in_4_48 zd_MO_flowOf_19 ?_
  refine zi_sipush (pc := 20) h zd_MO_flowOf_20 zq_si_255 ?_
  refine zi_iand (pc := 23) h zd_MO_flowOf_23 ?_
  refine zi_istore (pc := 24) h (i := 4) (L' := [(4, _), (3, _), (2, _), (0, _), (1, _)]) zd_MO_flowOf_24 (by decide) rfl ?_
  refine zi_iload_n (pc := 26) h (i := 1) zd_MO_flowOf_26 rfl 4 rfl ?_
  refine zi_if_eq_t (pc := 27) h (tgt := 47) zd_MO_flowOf_27 rfl (by decide) ?_
  refine zi_iload_n (pc := 47) h (i := 3) zd_MO_flowOf_47 rfl 1 rfl ?_
  refine zi_ldc (pc := 48) h zw_702 zd_MO_flowOf_48 ?_
  refine zi_icmp_ne_f (pc := 50) h (tgt := 60) zd_MO_flowOf_50 rfl hi1 ?_
  refine zi_iload_n (pc := 53) h (i := 2) zd_MO_flowOf_53 rfl 2 rfl ?_
  refine zi_callS (pc := 54) h (st := []) (zc_MO_isOutside) zm_MO_isOutside zw_699 ⟨by decide, by decide⟩ zd_MO_flowOf_54 (Nat.le_of_ble_eq_true rfl) rfl ?_
  refine zi_if_ne_t (pc := 57) h (tgt := 63) zd_MO_flowOf_57 rfl ho1 ?_
  refine zi_aload_n (pc := 63) h (i := 0) zd_MO_flowOf_63 rfl 3 rfl ?_
  refine zi_callV (pc := 64) h (st := []) (zc_MO_isError) zm_MO_isError zw_682 zx_MO zq_k26 rfl ⟨by decide, by decide⟩ zd_MO_flowOf_64 (Nat.le_of_ble_eq_true rfl) rfl ?_
  refine zi_if_eq_f (pc := 67) h (tgt := 76) zd_MO_flowOf_67 rfl he ?_
  refine zi_aload_n (pc := 70) h (i := 0) zd_MO_flowOf_70 rfl 3 rfl ?_
  refine zi_iload_n (pc := 71) h (i := 1) zd_MO_flowOf_71 rfl 4 rfl ?_
  refine zi_callV (pc := 72) h (st := []) hM zm_MO_flowOfError zw_703 zx_MO zq_k26 rfl ⟨by decide, by decide⟩ zd_MO_flowOf_72 (Nat.le_of_ble_eq_true rfl) rfl ?_
  exact zi_ireturn (pc := 75) h hr zd_MO_flowOf_75 rfl rfl

set_option maxRecDepth 20000 in
theorem zc_MO_fo_01n {l : Launch} {G : zz_G} {F : Nat → va_E} {w : Nat → Int32} {sz : Int32} {la : Nat → Int32} {lz : Int32} {ra : Nat → Nat → Int32} {fa : Nat → Nat → Int32} {cd : Int32} {c : Nat} (hc : c ≤ 12) (hi1 : zs_adr w 8 9 = -969710591) (ho1 : ¬ zv_out (zs_adr w 6 7) = 0) (he : zv_err w = 0) (hk : w 4 &&& 255 = 1) (hq : zs_ff (zv_mw fa (w 4 &&& 255) (zs_adr w 6 7) 0 (w 12)) 0 c = none) : zz_M l zy_MO_flowOf zb_MO_flowOf 8 (some .int) 2 54 G [.ref (G.2.2 26), .int 0] (zz_N G F w sz la lz ra (nI c) fa cd) (some (.int (-5))) (zz_N G F w sz la lz ra (nI c) fa cd) := by
  refine zz_M.of (by decide) (Nat.le_of_ble_eq_true rfl) ?_
  intro X hX h hr
  subst hX
  have h : zz_C X G (zz_A G.2.2) 8 zb_MO_flowOf "PortTranslatorModel" 2 54 0 0 := h
  refine zi_aload_n (pc := 0) h (i := 0) zd_MO_flowOf_0 rfl 0 rfl ?_
  refine zi_bipush (pc := 1) h zd_MO_flowOf_1 zq_bi_6 ?_
  refine zi_callV (pc := 3) h (st := []) (zc_MO_address (a := 6) (b := 7) zq_in_6_48 ⟨by decide, by decide, by decide⟩) zm_MO_address zw_690 zx_MO zq_k26 rfl ⟨by decide, by decide⟩ zd_MO_flowOf_3 (Nat.le_of_ble_eq_true rfl) rfl ?_
  refine zi_istore_n (pc := 6) h (i := 2) (L' := [(2, _), (0, _), (1, _)]) zd_MO_flowOf_6 rfl (by decide) rfl ?_
  refine zi_aload_n (pc := 7) h (i := 0) zd_MO_flowOf_7 rfl 1 rfl ?_
  refine zi_bipush (pc := 8) h zd_MO_flowOf_8 zq_bi_8 ?_
  refine zi_callV (pc := 10) h (st := []) (zc_MO_address (a := 8) (b := 9) zq_in_8_48 ⟨by decide, by decide, by decide⟩) zm_MO_address zw_690 zx_MO zq_k26 rfl ⟨by decide, by decide⟩ zd_MO_flowOf_10 (Nat.le_of_ble_eq_true rfl) rfl ?_
  refine zi_istore_n (pc := 13) h (i := 3) (L' := [(3, _), (2, _), (0, _), (1, _)]) zd_MO_flowOf_13 rfl (by decide) rfl ?_
  refine zi_aload_n (pc := 14) h (i := 0) zd_MO_flowOf_14 rfl 2 rfl ?_
  refine zi_get (pc := 15) h zx_MO 26 0 zq_k26 rfl zq_j_0_18 zw_584 rfl zd_MO_flowOf_15 ?_
  refine zi_iconst (pc := 18) h zd_MO_flowOf_18 zq_ic_4 ?_
  refine zi_iald (pc := 19) h 27 zq_k27 rfl zq_in_4_48 zd_MO_flowOf_19 ?_
  refine zi_sipush (pc := 20) h zd_MO_flowOf_20 zq_si_255 ?_
  refine zi_iand (pc := 23) h zd_MO_flowOf_23 ?_
  refine zi_istore (pc := 24) h (i := 4) (L' := [(4, _), (3, _), (2, _), (0, _), (1, _)]) zd_MO_flowOf_24 (by decide) rfl ?_
  refine zi_iload_n (pc := 26) h (i := 1) zd_MO_flowOf_26 rfl 4 rfl ?_
  refine zi_if_eq_t (pc := 27) h (tgt := 47) zd_MO_flowOf_27 rfl (by decide) ?_
  refine zi_iload_n (pc := 47) h (i := 3) zd_MO_flowOf_47 rfl 1 rfl ?_
  refine zi_ldc (pc := 48) h zw_702 zd_MO_flowOf_48 ?_
  refine zi_icmp_ne_f (pc := 50) h (tgt := 60) zd_MO_flowOf_50 rfl hi1 ?_
  refine zi_iload_n (pc := 53) h (i := 2) zd_MO_flowOf_53 rfl 2 rfl ?_
  refine zi_callS (pc := 54) h (st := []) (zc_MO_isOutside) zm_MO_isOutside zw_699 ⟨by decide, by decide⟩ zd_MO_flowOf_54 (Nat.le_of_ble_eq_true rfl) rfl ?_
  refine zi_if_ne_t (pc := 57) h (tgt := 63) zd_MO_flowOf_57 rfl ho1 ?_
  refine zi_aload_n (pc := 63) h (i := 0) zd_MO_flowOf_63 rfl 3 rfl ?_
  refine zi_callV (pc := 64) h (st := []) (zc_MO_isError) zm_MO_isError zw_682 zx_MO zq_k26 rfl ⟨by decide, by decide⟩ zd_MO_flowOf_64 (Nat.le_of_ble_eq_true rfl) rfl ?_
  refine zi_if_eq_t (pc := 67) h (tgt := 76) zd_MO_flowOf_67 rfl he ?_
  refine zi_iload (pc := 76) h (i := 4) zd_MO_flowOf_76 0 rfl ?_
  refine zi_iconst (pc := 78) h zd_MO_flowOf_78 zq_ic_1 ?_
  refine zi_icmp_ne_f (pc := 79) h (tgt := 92) zd_MO_flowOf_79 rfl hk ?_
  refine zi_aload_n (pc := 82) h (i := 0) zd_MO_flowOf_82 rfl 3 rfl ?_
  refine zi_get (pc := 83) h zx_MO 26 0 zq_k26 rfl zq_j_0_18 zw_584 rfl zd_MO_flowOf_83 ?_
  refine zi_bipush (pc := 86) h zd_MO_flowOf_86 zq_bi_12 ?_
  refine zi_iald (pc := 88) h 27 zq_k27 rfl zq_in_12_48 zd_MO_flowOf_88 ?_
  refine zi_goto (pc := 89) h (tgt := 99) zd_MO_flowOf_89 rfl ?_
  refine zi_istore (pc := 99) h (i := 5) (L' := [(5, _), (4, _), (3, _), (2, _), (0, _), (1, _)]) zd_MO_flowOf_99 (by decide) rfl ?_
  refine zi_iload (pc := 101) h (i := 4) zd_MO_flowOf_101 1 rfl ?_
  refine zi_iconst (pc := 103) h zd_MO_flowOf_103 zq_ic_1 ?_
  refine zi_icmp_ne_f (pc := 104) h (tgt := 117) zd_MO_flowOf_104 rfl hk ?_
  refine zi_aload_n (pc := 107) h (i := 0) zd_MO_flowOf_107 rfl 4 rfl ?_
  refine zi_get (pc := 108) h zx_MO 26 0 zq_k26 rfl zq_j_0_18 zw_584 rfl zd_MO_flowOf_108 ?_
  refine zi_bipush (pc := 111) h zd_MO_flowOf_111 zq_bi_12 ?_
  refine zi_iald (pc := 113) h 27 zq_k27 rfl zq_in_12_48 zd_MO_flowOf_113 ?_
  refine zi_goto (pc := 114) h (tgt := 124) zd_MO_flowOf_114 rfl ?_
  refine zi_istore (pc := 124) h (i := 6) (L' := [(6, _), (5, _), (4, _), (3, _), (2, _), (0, _), (1, _)]) zd_MO_flowOf_124 (by decide) rfl ?_
  refine zi_iload_n (pc := 126) h (i := 1) zd_MO_flowOf_126 rfl 6 rfl ?_
  refine zi_if_ne_f (pc := 127) h (tgt := 187) zd_MO_flowOf_127 rfl (by decide) ?_
  refine zi_aload_n (pc := 130) h (i := 0) zd_MO_flowOf_130 rfl 5 rfl ?_
  refine zi_iload (pc := 131) h (i := 4) zd_MO_flowOf_131 2 rfl ?_
  refine zi_iload_n (pc := 133) h (i := 2) zd_MO_flowOf_133 rfl 4 rfl ?_
  refine zi_iload (pc := 134) h (i := 4) zd_MO_flowOf_134 2 rfl ?_
  refine zi_iconst (pc := 136) h zd_MO_flowOf_136 zq_ic_1 ?_
  refine zi_icmp_ne_f (pc := 137) h (tgt := 144) zd_MO_flowOf_137 rfl hk ?_
  refine zi_iconst (pc := 140) h zd_MO_flowOf_140 zq_ic_0 ?_
  refine zi_goto (pc := 141) h (tgt := 146) zd_MO_flowOf_141 rfl ?_
  refine zi_iconst (pc := 146) h zd_MO_flowOf_146 zq_ic_0 ?_
  refine zi_iconst (pc := 147) h zd_MO_flowOf_147 zq_ic_0 ?_
  refine zi_iload (pc := 148) h (i := 6) zd_MO_flowOf_148 0 rfl ?_
  refine zi_callV (pc := 150) h (st := []) (zc_MO_find_wn hc hq) zm_MO_find zw_707 zx_MO zq_k26 rfl ⟨by decide, by decide⟩ zd_MO_flowOf_150 (Nat.le_of_ble_eq_true rfl) rfl ?_
  refine zi_istore (pc := 153) h (i := 7) (L' := [(7, _), (6, _), (5, _), (4, _), (3, _), (2, _), (0, _), (1, _)]) zd_MO_flowOf_153 (by decide) rfl ?_
  refine zi_iload (pc := 155) h (i := 7) zd_MO_flowOf_155 0 rfl ?_
  refine zi_if_lt_t (pc := 157) h (tgt := 179) zd_MO_flowOf_157 rfl (by decide) ?_
  refine zi_bipush (pc := 179) h zd_MO_flowOf_179 zq_bi_m5 ?_
  refine zi_goto (pc := 181) h (tgt := 186) zd_MO_flowOf_181 rfl ?_
  exact zi_ireturn (pc := 186) h hr zd_MO_flowOf_186 rfl rfl

set_option maxRecDepth 20000 in
theorem zc_MO_fo_01q {l : Launch} {G : zz_G} {F : Nat → va_E} {w : Nat → Int32} {sz : Int32} {la : Nat → Int32} {lz : Int32} {ra : Nat → Nat → Int32} {fa : Nat → Nat → Int32} {cd : Int32} {c i : Nat} (hc : c ≤ 12) (hi1 : zs_adr w 8 9 = -969710591) (ho1 : ¬ zv_out (zs_adr w 6 7) = 0) (he : zv_err w = 0) (hk : w 4 &&& 255 = 1) (hi : i < c) (hq : zs_ff (zv_mw fa (w 4 &&& 255) (zs_adr w 6 7) 0 (w 12)) 0 c = some i) (h2 : w 10 = 2048) : zz_M l zy_MO_flowOf zb_MO_flowOf 8 (some .int) 2 54 G [.ref (G.2.2 26), .int 0] (zz_N G F w sz la lz ra (nI c) fa cd) (some (.int (-5))) (zz_N G F w sz la lz ra (nI c) fa cd) := by
  refine zz_M.of (by decide) (Nat.le_of_ble_eq_true rfl) ?_
  intro X hX h hr
  subst hX
  have h : zz_C X G (zz_A G.2.2) 8 zb_MO_flowOf "PortTranslatorModel" 2 54 0 0 := h
  refine zi_aload_n (pc := 0) h (i := 0) zd_MO_flowOf_0 rfl 0 rfl ?_
  refine zi_bipush (pc := 1) h zd_MO_flowOf_1 zq_bi_6 ?_
  refine zi_callV (pc := 3) h (st := []) (zc_MO_address (a := 6) (b := 7) zq_in_6_48 ⟨by decide, by decide, by decide⟩) zm_MO_address zw_690 zx_MO zq_k26 rfl ⟨by decide, by decide⟩ zd_MO_flowOf_3 (Nat.le_of_ble_eq_true rfl) rfl ?_
  refine zi_istore_n (pc := 6) h (i := 2) (L' := [(2, _), (0, _), (1, _)]) zd_MO_flowOf_6 rfl (by decide) rfl ?_
  refine zi_aload_n (pc := 7) h (i := 0) zd_MO_flowOf_7 rfl 1 rfl ?_
  refine zi_bipush (pc := 8) h zd_MO_flowOf_8 zq_bi_8 ?_
  refine zi_callV (pc := 10) h (st := []) (zc_MO_address (a := 8) (b := 9) zq_in_8_48 ⟨by decide, by decide, by decide⟩) zm_MO_address zw_690 zx_MO zq_k26 rfl ⟨by decide, by decide⟩ zd_MO_flowOf_10 (Nat.le_of_ble_eq_true rfl) rfl ?_
  refine zi_istore_n (pc := 13) h (i := 3) (L' := [(3, _), (2, _), (0, _), (1, _)]) zd_MO_flowOf_13 rfl (by decide) rfl ?_
  refine zi_aload_n (pc := 14) h (i := 0) zd_MO_flowOf_14 rfl 2 rfl ?_
  refine zi_get (pc := 15) h zx_MO 26 0 zq_k26 rfl zq_j_0_18 zw_584 rfl zd_MO_flowOf_15 ?_
  refine zi_iconst (pc := 18) h zd_MO_flowOf_18 zq_ic_4 ?_
  refine zi_iald (pc := 19) h 27 zq_k27 rfl zq_in_4_48 zd_MO_flowOf_19 ?_
  refine zi_sipush (pc := 20) h zd_MO_flowOf_20 zq_si_255 ?_
  refine zi_iand (pc := 23) h zd_MO_flowOf_23 ?_
  refine zi_istore (pc := 24) h (i := 4) (L' := [(4, _), (3, _), (2, _), (0, _), (1, _)]) zd_MO_flowOf_24 (by decide) rfl ?_
  refine zi_iload_n (pc := 26) h (i := 1) zd_MO_flowOf_26 rfl 4 rfl ?_
  refine zi_if_eq_t (pc := 27) h (tgt := 47) zd_MO_flowOf_27 rfl (by decide) ?_
  refine zi_iload_n (pc := 47) h (i := 3) zd_MO_flowOf_47 rfl 1 rfl ?_
  refine zi_ldc (pc := 48) h zw_702 zd_MO_flowOf_48 ?_
  refine zi_icmp_ne_f (pc := 50) h (tgt := 60) zd_MO_flowOf_50 rfl hi1 ?_
  refine zi_iload_n (pc := 53) h (i := 2) zd_MO_flowOf_53 rfl 2 rfl ?_
  refine zi_callS (pc := 54) h (st := []) (zc_MO_isOutside) zm_MO_isOutside zw_699 ⟨by decide, by decide⟩ zd_MO_flowOf_54 (Nat.le_of_ble_eq_true rfl) rfl ?_
  refine zi_if_ne_t (pc := 57) h (tgt := 63) zd_MO_flowOf_57 rfl ho1 ?_
  refine zi_aload_n (pc := 63) h (i := 0) zd_MO_flowOf_63 rfl 3 rfl ?_
  refine zi_callV (pc := 64) h (st := []) (zc_MO_isError) zm_MO_isError zw_682 zx_MO zq_k26 rfl ⟨by decide, by decide⟩ zd_MO_flowOf_64 (Nat.le_of_ble_eq_true rfl) rfl ?_
  refine zi_if_eq_t (pc := 67) h (tgt := 76) zd_MO_flowOf_67 rfl he ?_
  refine zi_iload (pc := 76) h (i := 4) zd_MO_flowOf_76 0 rfl ?_
  refine zi_iconst (pc := 78) h zd_MO_flowOf_78 zq_ic_1 ?_
  refine zi_icmp_ne_f (pc := 79) h (tgt := 92) zd_MO_flowOf_79 rfl hk ?_
  refine zi_aload_n (pc := 82) h (i := 0) zd_MO_flowOf_82 rfl 3 rfl ?_
  refine zi_get (pc := 83) h zx_MO 26 0 zq_k26 rfl zq_j_0_18 zw_584 rfl zd_MO_flowOf_83 ?_
  refine zi_bipush (pc := 86) h zd_MO_flowOf_86 zq_bi_12 ?_
  refine zi_iald (pc := 88) h 27 zq_k27 rfl zq_in_12_48 zd_MO_flowOf_88 ?_
  refine zi_goto (pc := 89) h (tgt := 99) zd_MO_flowOf_89 rfl ?_
  refine zi_istore (pc := 99) h (i := 5) (L' := [(5, _), (4, _), (3, _), (2, _), (0, _), (1, _)]) zd_MO_flowOf_99 (by decide) rfl ?_
  refine zi_iload (pc := 101) h (i := 4) zd_MO_flowOf_101 1 rfl ?_
  refine zi_iconst (pc := 103) h zd_MO_flowOf_103 zq_ic_1 ?_
  refine zi_icmp_ne_f (pc := 104) h (tgt := 117) zd_MO_flowOf_104 rfl hk ?_
  refine zi_aload_n (pc := 107) h (i := 0) zd_MO_flowOf_107 rfl 4 rfl ?_
  refine zi_get (pc := 108) h zx_MO 26 0 zq_k26 rfl zq_j_0_18 zw_584 rfl zd_MO_flowOf_108 ?_
  refine zi_bipush (pc := 111) h zd_MO_flowOf_111 zq_bi_12 ?_
  refine zi_iald (pc := 113) h 27 zq_k27 rfl zq_in_12_48 zd_MO_flowOf_113 ?_
  refine zi_goto (pc := 114) h (tgt := 124) zd_MO_flowOf_114 rfl ?_
  refine zi_istore (pc := 124) h (i := 6) (L' := [(6, _), (5, _), (4, _), (3, _), (2, _), (0, _), (1, _)]) zd_MO_flowOf_124 (by decide) rfl ?_
  refine zi_iload_n (pc := 126) h (i := 1) zd_MO_flowOf_126 rfl 6 rfl ?_
  refine zi_if_ne_f (pc := 127) h (tgt := 187) zd_MO_flowOf_127 rfl (by decide) ?_
  refine zi_aload_n (pc := 130) h (i := 0) zd_MO_flowOf_130 rfl 5 rfl ?_
  refine zi_iload (pc := 131) h (i := 4) zd_MO_flowOf_131 2 rfl ?_
  refine zi_iload_n (pc := 133) h (i := 2) zd_MO_flowOf_133 rfl 4 rfl ?_
  refine zi_iload (pc := 134) h (i := 4) zd_MO_flowOf_134 2 rfl ?_
  refine zi_iconst (pc := 136) h zd_MO_flowOf_136 zq_ic_1 ?_
  refine zi_icmp_ne_f (pc := 137) h (tgt := 144) zd_MO_flowOf_137 rfl hk ?_
  refine zi_iconst (pc := 140) h zd_MO_flowOf_140 zq_ic_0 ?_
  refine zi_goto (pc := 141) h (tgt := 146) zd_MO_flowOf_141 rfl ?_
  refine zi_iconst (pc := 146) h zd_MO_flowOf_146 zq_ic_0 ?_
  refine zi_iconst (pc := 147) h zd_MO_flowOf_147 zq_ic_0 ?_
  refine zi_iload (pc := 148) h (i := 6) zd_MO_flowOf_148 0 rfl ?_
  refine zi_callV (pc := 150) h (st := []) (zc_MO_find_ws hc hq) zm_MO_find zw_707 zx_MO zq_k26 rfl ⟨by decide, by decide⟩ zd_MO_flowOf_150 (Nat.le_of_ble_eq_true rfl) rfl ?_
  refine zi_istore (pc := 153) h (i := 7) (L' := [(7, _), (6, _), (5, _), (4, _), (3, _), (2, _), (0, _), (1, _)]) zd_MO_flowOf_153 (by decide) rfl ?_
  refine zi_iload (pc := 155) h (i := 7) zd_MO_flowOf_155 0 rfl ?_
  refine zi_if_lt_f (pc := 157) h (tgt := 179) zd_MO_flowOf_157 rfl (nI_pos (by omega)) ?_
  refine zi_iload (pc := 160) h (i := 4) zd_MO_flowOf_160 3 rfl ?_
  refine zi_iconst (pc := 162) h zd_MO_flowOf_162 zq_ic_1 ?_
  refine zi_icmp_ne_f (pc := 163) h (tgt := 184) zd_MO_flowOf_163 rfl hk ?_
  refine zi_aload_n (pc := 166) h (i := 0) zd_MO_flowOf_166 rfl 6 rfl ?_
  refine zi_get (pc := 167) h zx_MO 26 0 zq_k26 rfl zq_j_0_18 zw_584 rfl zd_MO_flowOf_167 ?_
  refine zi_bipush (pc := 170) h zd_MO_flowOf_170 zq_bi_10 ?_
  refine zi_iald (pc := 172) h 27 zq_k27 rfl zq_in_10_48 zd_MO_flowOf_172 ?_
  refine zi_sipush (pc := 173) h zd_MO_flowOf_173 zq_si_2048 ?_
  refine zi_icmp_ne_f (pc := 176) h (tgt := 184) zd_MO_flowOf_176 rfl h2 ?_
  refine zi_bipush (pc := 179) h zd_MO_flowOf_179 zq_bi_m5 ?_
  refine zi_goto (pc := 181) h (tgt := 186) zd_MO_flowOf_181 rfl ?_
  exact zi_ireturn (pc := 186) h hr zd_MO_flowOf_186 rfl rfl

set_option maxRecDepth 20000 in
theorem zc_MO_fo_01s {l : Launch} {G : zz_G} {F : Nat → va_E} {w : Nat → Int32} {sz : Int32} {la : Nat → Int32} {lz : Int32} {ra : Nat → Nat → Int32} {fa : Nat → Nat → Int32} {cd : Int32} {c i : Nat} (hc : c ≤ 12) (hi1 : zs_adr w 8 9 = -969710591) (ho1 : ¬ zv_out (zs_adr w 6 7) = 0) (he : zv_err w = 0) (hk : w 4 &&& 255 = 1) (hi : i < c) (hq : zs_ff (zv_mw fa (w 4 &&& 255) (zs_adr w 6 7) 0 (w 12)) 0 c = some i) (h2 : ¬ w 10 = 2048) : zz_M l zy_MO_flowOf zb_MO_flowOf 8 (some .int) 2 54 G [.ref (G.2.2 26), .int 0] (zz_N G F w sz la lz ra (nI c) fa cd) (some (.int (nI i))) (zz_N G F w sz la lz ra (nI c) fa cd) := by
  refine zz_M.of (by decide) (Nat.le_of_ble_eq_true rfl) ?_
  intro X hX h hr
  subst hX
  have h : zz_C X G (zz_A G.2.2) 8 zb_MO_flowOf "PortTranslatorModel" 2 54 0 0 := h
  refine zi_aload_n (pc := 0) h (i := 0) zd_MO_flowOf_0 rfl 0 rfl ?_
  refine zi_bipush (pc := 1) h zd_MO_flowOf_1 zq_bi_6 ?_
  refine zi_callV (pc := 3) h (st := []) (zc_MO_address (a := 6) (b := 7) zq_in_6_48 ⟨by decide, by decide, by decide⟩) zm_MO_address zw_690 zx_MO zq_k26 rfl ⟨by decide, by decide⟩ zd_MO_flowOf_3 (Nat.le_of_ble_eq_true rfl) rfl ?_
  refine zi_istore_n (pc := 6) h (i := 2) (L' := [(2, _), (0, _), (1, _)]) zd_MO_flowOf_6 rfl (by decide) rfl ?_
  refine zi_aload_n (pc := 7) h (i := 0) zd_MO_flowOf_7 rfl 1 rfl ?_
  refine zi_bipush (pc := 8) h zd_MO_flowOf_8 zq_bi_8 ?_
  refine zi_callV (pc := 10) h (st := []) (zc_MO_address (a := 8) (b := 9) zq_in_8_48 ⟨by decide, by decide, by decide⟩) zm_MO_address zw_690 zx_MO zq_k26 rfl ⟨by decide, by decide⟩ zd_MO_flowOf_10 (Nat.le_of_ble_eq_true rfl) rfl ?_
  refine zi_istore_n (pc := 13) h (i := 3) (L' := [(3, _), (2, _), (0, _), (1, _)]) zd_MO_flowOf_13 rfl (by decide) rfl ?_
  refine zi_aload_n (pc := 14) h (i := 0) zd_MO_flowOf_14 rfl 2 rfl ?_
  refine zi_get (pc := 15) h zx_MO 26 0 zq_k26 rfl zq_j_0_18 zw_584 rfl zd_MO_flowOf_15 ?_
  refine zi_iconst (pc := 18) h zd_MO_flowOf_18 zq_ic_4 ?_
  refine zi_iald (pc := 19) h 27 zq_k27 rfl zq_in_4_48 zd_MO_flowOf_19 ?_
  refine zi_sipush (pc := 20) h zd_MO_flowOf_20 zq_si_255 ?_
  refine zi_iand (pc := 23) h zd_MO_flowOf_23 ?_
  refine zi_istore (pc := 24) h (i := 4) (L' := [(4, _), (3, _), (2, _), (0, _), (1, _)]) zd_MO_flowOf_24 (by decide) rfl ?_
  refine zi_iload_n (pc := 26) h (i := 1) zd_MO_flowOf_26 rfl 4 rfl ?_
  refine zi_if_eq_t (pc := 27) h (tgt := 47) zd_MO_flowOf_27 rfl (by decide) ?_
  refine zi_iload_n (pc := 47) h (i := 3) zd_MO_flowOf_47 rfl 1 rfl ?_
  refine zi_ldc (pc := 48) h zw_702 zd_MO_flowOf_48 ?_
  refine zi_icmp_ne_f (pc := 50) h (tgt := 60) zd_MO_flowOf_50 rfl hi1 ?_
  refine zi_iload_n (pc := 53) h (i := 2) zd_MO_flowOf_53 rfl 2 rfl ?_
  refine zi_callS (pc := 54) h (st := []) (zc_MO_isOutside) zm_MO_isOutside zw_699 ⟨by decide, by decide⟩ zd_MO_flowOf_54 (Nat.le_of_ble_eq_true rfl) rfl ?_
  refine zi_if_ne_t (pc := 57) h (tgt := 63) zd_MO_flowOf_57 rfl ho1 ?_
  refine zi_aload_n (pc := 63) h (i := 0) zd_MO_flowOf_63 rfl 3 rfl ?_
  refine zi_callV (pc := 64) h (st := []) (zc_MO_isError) zm_MO_isError zw_682 zx_MO zq_k26 rfl ⟨by decide, by decide⟩ zd_MO_flowOf_64 (Nat.le_of_ble_eq_true rfl) rfl ?_
  refine zi_if_eq_t (pc := 67) h (tgt := 76) zd_MO_flowOf_67 rfl he ?_
  refine zi_iload (pc := 76) h (i := 4) zd_MO_flowOf_76 0 rfl ?_
  refine zi_iconst (pc := 78) h zd_MO_flowOf_78 zq_ic_1 ?_
  refine zi_icmp_ne_f (pc := 79) h (tgt := 92) zd_MO_flowOf_79 rfl hk ?_
  refine zi_aload_n (pc := 82) h (i := 0) zd_MO_flowOf_82 rfl 3 rfl ?_
  refine zi_get (pc := 83) h zx_MO 26 0 zq_k26 rfl zq_j_0_18 zw_584 rfl zd_MO_flowOf_83 ?_
  refine zi_bipush (pc := 86) h zd_MO_flowOf_86 zq_bi_12 ?_
  refine zi_iald (pc := 88) h 27 zq_k27 rfl zq_in_12_48 zd_MO_flowOf_88 ?_
  refine zi_goto (pc := 89) h (tgt := 99) zd_MO_flowOf_89 rfl ?_
  refine zi_istore (pc := 99) h (i := 5) (L' := [(5, _), (4, _), (3, _), (2, _), (0, _), (1, _)]) zd_MO_flowOf_99 (by decide) rfl ?_
  refine zi_iload (pc := 101) h (i := 4) zd_MO_flowOf_101 1 rfl ?_
  refine zi_iconst (pc := 103) h zd_MO_flowOf_103 zq_ic_1 ?_
  refine zi_icmp_ne_f (pc := 104) h (tgt := 117) zd_MO_flowOf_104 rfl hk ?_
  refine zi_aload_n (pc := 107) h (i := 0) zd_MO_flowOf_107 rfl 4 rfl ?_
  refine zi_get (pc := 108) h zx_MO 26 0 zq_k26 rfl zq_j_0_18 zw_584 rfl zd_MO_flowOf_108 ?_
  refine zi_bipush (pc := 111) h zd_MO_flowOf_111 zq_bi_12 ?_
  refine zi_iald (pc := 113) h 27 zq_k27 rfl zq_in_12_48 zd_MO_flowOf_113 ?_
  refine zi_goto (pc := 114) h (tgt := 124) zd_MO_flowOf_114 rfl ?_
  refine zi_istore (pc := 124) h (i := 6) (L' := [(6, _), (5, _), (4, _), (3, _), (2, _), (0, _), (1, _)]) zd_MO_flowOf_124 (by decide) rfl ?_
  refine zi_iload_n (pc := 126) h (i := 1) zd_MO_flowOf_126 rfl 6 rfl ?_
  refine zi_if_ne_f (pc := 127) h (tgt := 187) zd_MO_flowOf_127 rfl (by decide) ?_
  refine zi_aload_n (pc := 130) h (i := 0) zd_MO_flowOf_130 rfl 5 rfl ?_
  refine zi_iload (pc := 131) h (i := 4) zd_MO_flowOf_131 2 rfl ?_
  refine zi_iload_n (pc := 133) h (i := 2) zd_MO_flowOf_133 rfl 4 rfl ?_
  refine zi_iload (pc := 134) h (i := 4) zd_MO_flowOf_134 2 rfl ?_
  refine zi_iconst (pc := 136) h zd_MO_flowOf_136 zq_ic_1 ?_
  refine zi_icmp_ne_f (pc := 137) h (tgt := 144) zd_MO_flowOf_137 rfl hk ?_
  refine zi_iconst (pc := 140) h zd_MO_flowOf_140 zq_ic_0 ?_
  refine zi_goto (pc := 141) h (tgt := 146) zd_MO_flowOf_141 rfl ?_
  refine zi_iconst (pc := 146) h zd_MO_flowOf_146 zq_ic_0 ?_
  refine zi_iconst (pc := 147) h zd_MO_flowOf_147 zq_ic_0 ?_
  refine zi_iload (pc := 148) h (i := 6) zd_MO_flowOf_148 0 rfl ?_
  refine zi_callV (pc := 150) h (st := []) (zc_MO_find_ws hc hq) zm_MO_find zw_707 zx_MO zq_k26 rfl ⟨by decide, by decide⟩ zd_MO_flowOf_150 (Nat.le_of_ble_eq_true rfl) rfl ?_
  refine zi_istore (pc := 153) h (i := 7) (L' := [(7, _), (6, _), (5, _), (4, _), (3, _), (2, _), (0, _), (1, _)]) zd_MO_flowOf_153 (by decide) rfl ?_
  refine zi_iload (pc := 155) h (i := 7) zd_MO_flowOf_155 0 rfl ?_
  refine zi_if_lt_f (pc := 157) h (tgt := 179) zd_MO_flowOf_157 rfl (nI_pos (by omega)) ?_
  refine zi_iload (pc := 160) h (i := 4) zd_MO_flowOf_160 3 rfl ?_
  refine zi_iconst (pc := 162) h zd_MO_flowOf_162 zq_ic_1 ?_
  refine zi_icmp_ne_f (pc := 163) h (tgt := 184) zd_MO_flowOf_163 rfl hk ?_
  refine zi_aload_n (pc := 166) h (i := 0) zd_MO_flowOf_166 rfl 6 rfl ?_
  refine zi_get (pc := 167) h zx_MO 26 0 zq_k26 rfl zq_j_0_18 zw_584 rfl zd_MO_flowOf_167 ?_
  refine zi_bipush (pc := 170) h zd_MO_flowOf_170 zq_bi_10 ?_
  refine zi_iald (pc := 172) h 27 zq_k27 rfl zq_in_10_48 zd_MO_flowOf_172 ?_
  refine zi_sipush (pc := 173) h zd_MO_flowOf_173 zq_si_2048 ?_
  refine zi_icmp_ne_t (pc := 176) h (tgt := 184) zd_MO_flowOf_176 rfl h2 ?_
  refine zi_iload (pc := 184) h (i := 7) zd_MO_flowOf_184 0 rfl ?_
  exact zi_ireturn (pc := 186) h hr zd_MO_flowOf_186 rfl rfl

set_option maxRecDepth 20000 in
theorem zc_MO_fo_00n {l : Launch} {G : zz_G} {F : Nat → va_E} {w : Nat → Int32} {sz : Int32} {la : Nat → Int32} {lz : Int32} {ra : Nat → Nat → Int32} {fa : Nat → Nat → Int32} {cd : Int32} {c : Nat} (hc : c ≤ 12) (hi1 : zs_adr w 8 9 = -969710591) (ho1 : ¬ zv_out (zs_adr w 6 7) = 0) (he : zv_err w = 0) (hk : ¬ w 4 &&& 255 = 1) (hq : zs_ff (zv_mw fa (w 4 &&& 255) (zs_adr w 6 7) (w 10) (w 11)) 0 c = none) : zz_M l zy_MO_flowOf zb_MO_flowOf 8 (some .int) 2 54 G [.ref (G.2.2 26), .int 0] (zz_N G F w sz la lz ra (nI c) fa cd) (some (.int (-5))) (zz_N G F w sz la lz ra (nI c) fa cd) := by
  refine zz_M.of (by decide) (Nat.le_of_ble_eq_true rfl) ?_
  intro X hX h hr
  subst hX
  have h : zz_C X G (zz_A G.2.2) 8 zb_MO_flowOf "PortTranslatorModel" 2 54 0 0 := h
  refine zi_aload_n (pc := 0) h (i := 0) zd_MO_flowOf_0 rfl 0 rfl ?_
  refine zi_bipush (pc := 1) h zd_MO_flowOf_1 zq_bi_6 ?_
  refine zi_callV (pc := 3) h (st := []) (zc_MO_address (a := 6) (b := 7) zq_in_6_48 ⟨by decide, by decide, by decide⟩) zm_MO_address zw_690 zx_MO zq_k26 rfl ⟨by decide, by decide⟩ zd_MO_flowOf_3 (Nat.le_of_ble_eq_true rfl) rfl ?_
  refine zi_istore_n (pc := 6) h (i := 2) (L' := [(2, _), (0, _), (1, _)]) zd_MO_flowOf_6 rfl (by decide) rfl ?_
  refine zi_aload_n (pc := 7) h (i := 0) zd_MO_flowOf_7 rfl 1 rfl ?_
  refine zi_bipush (pc := 8) h zd_MO_flowOf_8 zq_bi_8 ?_
  refine zi_callV (pc := 10) h (st := []) (zc_MO_address (a := 8) (b := 9) zq_in_8_48 ⟨by decide, by decide, by decide⟩) zm_MO_address zw_690 zx_MO zq_k26 rfl ⟨by decide, by decide⟩ zd_MO_flowOf_10 (Nat.le_of_ble_eq_true rfl) rfl ?_
  refine zi_istore_n (pc := 13) h (i := 3) (L' := [(3, _), (2, _), (0, _), (1, _)]) zd_MO_flowOf_13 rfl (by decide) rfl ?_
  refine zi_aload_n (pc := 14) h (i := 0) zd_MO_flowOf_14 rfl 2 rfl ?_
  refine zi_get (pc := 15) h zx_MO 26 0 zq_k26 rfl zq_j_0_18 zw_584 rfl zd_MO_flowOf_15 ?_
  refine zi_iconst (pc := 18) h zd_MO_flowOf_18 zq_ic_4 ?_
  refine zi_iald (pc := 19) h 27 zq_k27 rfl zq_in_4_48 zd_MO_flowOf_19 ?_
  refine zi_sipush (pc := 20) h zd_MO_flowOf_20 zq_si_255 ?_
  refine zi_iand (pc := 23) h zd_MO_flowOf_23 ?_
  refine zi_istore (pc := 24) h (i := 4) (L' := [(4, _), (3, _), (2, _), (0, _), (1, _)]) zd_MO_flowOf_24 (by decide) rfl ?_
  refine zi_iload_n (pc := 26) h (i := 1) zd_MO_flowOf_26 rfl 4 rfl ?_
  refine zi_if_eq_t (pc := 27) h (tgt := 47) zd_MO_flowOf_27 rfl (by decide) ?_
  refine zi_iload_n (pc := 47) h (i := 3) zd_MO_flowOf_47 rfl 1 rfl ?_
  refine zi_ldc (pc := 48) h zw_702 zd_MO_flowOf_48 ?_
  refine zi_icmp_ne_f (pc := 50) h (tgt := 60) zd_MO_flowOf_50 rfl hi1 ?_
  refine zi_iload_n (pc := 53) h (i := 2) zd_MO_flowOf_53 rfl 2 rfl ?_
  refine zi_callS (pc := 54) h (st := []) (zc_MO_isOutside) zm_MO_isOutside zw_699 ⟨by decide, by decide⟩ zd_MO_flowOf_54 (Nat.le_of_ble_eq_true rfl) rfl ?_
  refine zi_if_ne_t (pc := 57) h (tgt := 63) zd_MO_flowOf_57 rfl ho1 ?_
  refine zi_aload_n (pc := 63) h (i := 0) zd_MO_flowOf_63 rfl 3 rfl ?_
  refine zi_callV (pc := 64) h (st := []) (zc_MO_isError) zm_MO_isError zw_682 zx_MO zq_k26 rfl ⟨by decide, by decide⟩ zd_MO_flowOf_64 (Nat.le_of_ble_eq_true rfl) rfl ?_
  refine zi_if_eq_t (pc := 67) h (tgt := 76) zd_MO_flowOf_67 rfl he ?_
  refine zi_iload (pc := 76) h (i := 4) zd_MO_flowOf_76 0 rfl ?_
  refine zi_iconst (pc := 78) h zd_MO_flowOf_78 zq_ic_1 ?_
  refine zi_icmp_ne_t (pc := 79) h (tgt := 92) zd_MO_flowOf_79 rfl hk ?_
  refine zi_aload_n (pc := 92) h (i := 0) zd_MO_flowOf_92 rfl 3 rfl ?_
  refine zi_get (pc := 93) h zx_MO 26 0 zq_k26 rfl zq_j_0_18 zw_584 rfl zd_MO_flowOf_93 ?_
  refine zi_bipush (pc := 96) h zd_MO_flowOf_96 zq_bi_10 ?_
  refine zi_iald (pc := 98) h 27 zq_k27 rfl zq_in_10_48 zd_MO_flowOf_98 ?_
  refine zi_istore (pc := 99) h (i := 5) (L' := [(5, _), (4, _), (3, _), (2, _), (0, _), (1, _)]) zd_MO_flowOf_99 (by decide) rfl ?_
  refine zi_iload (pc := 101) h (i := 4) zd_MO_flowOf_101 1 rfl ?_
  refine zi_iconst (pc := 103) h zd_MO_flowOf_103 zq_ic_1 ?_
  refine zi_icmp_ne_t (pc := 104) h (tgt := 117) zd_MO_flowOf_104 rfl hk ?_
  refine zi_aload_n (pc := 117) h (i := 0) zd_MO_flowOf_117 rfl 4 rfl ?_
  refine zi_get (pc := 118) h zx_MO 26 0 zq_k26 rfl zq_j_0_18 zw_584 rfl zd_MO_flowOf_118 ?_
  refine zi_bipush (pc := 121) h zd_MO_flowOf_121 zq_bi_11 ?_
  refine zi_iald (pc := 123) h 27 zq_k27 rfl zq_in_11_48 zd_MO_flowOf_123 ?_
  refine zi_istore (pc := 124) h (i := 6) (L' := [(6, _), (5, _), (4, _), (3, _), (2, _), (0, _), (1, _)]) zd_MO_flowOf_124 (by decide) rfl ?_
  refine zi_iload_n (pc := 126) h (i := 1) zd_MO_flowOf_126 rfl 6 rfl ?_
  refine zi_if_ne_f (pc := 127) h (tgt := 187) zd_MO_flowOf_127 rfl (by decide) ?_
  refine zi_aload_n (pc := 130) h (i := 0) zd_MO_flowOf_130 rfl 5 rfl ?_
  refine zi_iload (pc := 131) h (i := 4) zd_MO_flowOf_131 2 rfl ?_
  refine zi_iload_n (pc := 133) h (i := 2) zd_MO_flowOf_133 rfl 4 rfl ?_
  refine zi_iload (pc := 134) h (i := 4) zd_MO_flowOf_134 2 rfl ?_
  refine zi_iconst (pc := 136) h zd_MO_flowOf_136 zq_ic_1 ?_
  refine zi_icmp_ne_t (pc := 137) h (tgt := 144) zd_MO_flowOf_137 rfl hk ?_
  refine zi_iload (pc := 144) h (i := 5) zd_MO_flowOf_144 1 rfl ?_
  refine zi_iconst (pc := 146) h zd_MO_flowOf_146 zq_ic_0 ?_
  refine zi_iconst (pc := 147) h zd_MO_flowOf_147 zq_ic_0 ?_
  refine zi_iload (pc := 148) h (i := 6) zd_MO_flowOf_148 0 rfl ?_
  refine zi_callV (pc := 150) h (st := []) (zc_MO_find_wn hc hq) zm_MO_find zw_707 zx_MO zq_k26 rfl ⟨by decide, by decide⟩ zd_MO_flowOf_150 (Nat.le_of_ble_eq_true rfl) rfl ?_
  refine zi_istore (pc := 153) h (i := 7) (L' := [(7, _), (6, _), (5, _), (4, _), (3, _), (2, _), (0, _), (1, _)]) zd_MO_flowOf_153 (by decide) rfl ?_
  refine zi_iload (pc := 155) h (i := 7) zd_MO_flowOf_155 0 rfl ?_
  refine zi_if_lt_t (pc := 157) h (tgt := 179) zd_MO_flowOf_157 rfl (by decide) ?_
  refine zi_bipush (pc := 179) h zd_MO_flowOf_179 zq_bi_m5 ?_
  refine zi_goto (pc := 181) h (tgt := 186) zd_MO_flowOf_181 rfl ?_
  exact zi_ireturn (pc := 186) h hr zd_MO_flowOf_186 rfl rfl

set_option maxRecDepth 20000 in
theorem zc_MO_fo_00s {l : Launch} {G : zz_G} {F : Nat → va_E} {w : Nat → Int32} {sz : Int32} {la : Nat → Int32} {lz : Int32} {ra : Nat → Nat → Int32} {fa : Nat → Nat → Int32} {cd : Int32} {c i : Nat} (hc : c ≤ 12) (hi1 : zs_adr w 8 9 = -969710591) (ho1 : ¬ zv_out (zs_adr w 6 7) = 0) (he : zv_err w = 0) (hk : ¬ w 4 &&& 255 = 1) (hi : i < c) (hq : zs_ff (zv_mw fa (w 4 &&& 255) (zs_adr w 6 7) (w 10) (w 11)) 0 c = some i) : zz_M l zy_MO_flowOf zb_MO_flowOf 8 (some .int) 2 54 G [.ref (G.2.2 26), .int 0] (zz_N G F w sz la lz ra (nI c) fa cd) (some (.int (nI i))) (zz_N G F w sz la lz ra (nI c) fa cd) := by
  refine zz_M.of (by decide) (Nat.le_of_ble_eq_true rfl) ?_
  intro X hX h hr
  subst hX
  have h : zz_C X G (zz_A G.2.2) 8 zb_MO_flowOf "PortTranslatorModel" 2 54 0 0 := h
  refine zi_aload_n (pc := 0) h (i := 0) zd_MO_flowOf_0 rfl 0 rfl ?_
  refine zi_bipush (pc := 1) h zd_MO_flowOf_1 zq_bi_6 ?_
  refine zi_callV (pc := 3) h (st := []) (zc_MO_address (a := 6) (b := 7) zq_in_6_48 ⟨by decide, by decide, by decide⟩) zm_MO_address zw_690 zx_MO zq_k26 rfl ⟨by decide, by decide⟩ zd_MO_flowOf_3 (Nat.le_of_ble_eq_true rfl) rfl ?_
  refine zi_istore_n (pc := 6) h (i := 2) (L' := [(2, _), (0, _), (1, _)]) zd_MO_flowOf_6 rfl (by decide) rfl ?_
  refine zi_aload_n (pc := 7) h (i := 0) zd_MO_flowOf_7 rfl 1 rfl ?_
  refine zi_bipush (pc := 8) h zd_MO_flowOf_8 zq_bi_8 ?_
  refine zi_callV (pc := 10) h (st := []) (zc_MO_address (a := 8) (b := 9) zq_in_8_48 ⟨by decide, by decide, by decide⟩) zm_MO_address zw_690 zx_MO zq_k26 rfl ⟨by decide, by decide⟩ zd_MO_flowOf_10 (Nat.le_of_ble_eq_true rfl) rfl ?_
  refine zi_istore_n (pc := 13) h (i := 3) (L' := [(3, _), (2, _), (0, _), (1, _)]) zd_MO_flowOf_13 rfl (by decide) rfl ?_
  refine zi_aload_n (pc := 14) h (i := 0) zd_MO_flowOf_14 rfl 2 rfl ?_
  refine zi_get (pc := 15) h zx_MO 26 0 zq_k26 rfl zq_j_0_18 zw_584 rfl zd_MO_flowOf_15 ?_
  refine zi_iconst (pc := 18) h zd_MO_flowOf_18 zq_ic_4 ?_
  refine zi_iald (pc := 19) h 27 zq_k27 rfl zq_in_4_48 zd_MO_flowOf_19 ?_
  refine zi_sipush (pc := 20) h zd_MO_flowOf_20 zq_si_255 ?_
  refine zi_iand (pc := 23) h zd_MO_flowOf_23 ?_
  refine zi_istore (pc := 24) h (i := 4) (L' := [(4, _), (3, _), (2, _), (0, _), (1, _)]) zd_MO_flowOf_24 (by decide) rfl ?_
  refine zi_iload_n (pc := 26) h (i := 1) zd_MO_flowOf_26 rfl 4 rfl ?_
  refine zi_if_eq_t (pc := 27) h (tgt := 47) zd_MO_flowOf_27 rfl (by decide) ?_
  refine zi_iload_n (pc := 47) h (i := 3) zd_MO_flowOf_47 rfl 1 rfl ?_
  refine zi_ldc (pc := 48) h zw_702 zd_MO_flowOf_48 ?_
  refine zi_icmp_ne_f (pc := 50) h (tgt := 60) zd_MO_flowOf_50 rfl hi1 ?_
  refine zi_iload_n (pc := 53) h (i := 2) zd_MO_flowOf_53 rfl 2 rfl ?_
  refine zi_callS (pc := 54) h (st := []) (zc_MO_isOutside) zm_MO_isOutside zw_699 ⟨by decide, by decide⟩ zd_MO_flowOf_54 (Nat.le_of_ble_eq_true rfl) rfl ?_
  refine zi_if_ne_t (pc := 57) h (tgt := 63) zd_MO_flowOf_57 rfl ho1 ?_
  refine zi_aload_n (pc := 63) h (i := 0) zd_MO_flowOf_63 rfl 3 rfl ?_
  refine zi_callV (pc := 64) h (st := []) (zc_MO_isError) zm_MO_isError zw_682 zx_MO zq_k26 rfl ⟨by decide, by decide⟩ zd_MO_flowOf_64 (Nat.le_of_ble_eq_true rfl) rfl ?_
  refine zi_if_eq_t (pc := 67) h (tgt := 76) zd_MO_flowOf_67 rfl he ?_
  refine zi_iload (pc := 76) h (i := 4) zd_MO_flowOf_76 0 rfl ?_
  refine zi_iconst (pc := 78) h zd_MO_flowOf_78 zq_ic_1 ?_
  refine zi_icmp_ne_t (pc := 79) h (tgt := 92) zd_MO_flowOf_79 rfl hk ?_
  refine zi_aload_n (pc := 92) h (i := 0) zd_MO_flowOf_92 rfl 3 rfl ?_
  refine zi_get (pc := 93) h zx_MO 26 0 zq_k26 rfl zq_j_0_18 zw_584 rfl zd_MO_flowOf_93 ?_
  refine zi_bipush (pc := 96) h zd_MO_flowOf_96 zq_bi_10 ?_
  refine zi_iald (pc := 98) h 27 zq_k27 rfl zq_in_10_48 zd_MO_flowOf_98 ?_
  refine zi_istore (pc := 99) h (i := 5) (L' := [(5, _), (4, _), (3, _), (2, _), (0, _), (1, _)]) zd_MO_flowOf_99 (by decide) rfl ?_
  refine zi_iload (pc := 101) h (i := 4) zd_MO_flowOf_101 1 rfl ?_
  refine zi_iconst (pc := 103) h zd_MO_flowOf_103 zq_ic_1 ?_
  refine zi_icmp_ne_t (pc := 104) h (tgt := 117) zd_MO_flowOf_104 rfl hk ?_
  refine zi_aload_n (pc := 117) h (i := 0) zd_MO_flowOf_117 rfl 4 rfl ?_
  refine zi_get (pc := 118) h zx_MO 26 0 zq_k26 rfl zq_j_0_18 zw_584 rfl zd_MO_flowOf_118 ?_
  refine zi_bipush (pc := 121) h zd_MO_flowOf_121 zq_bi_11 ?_
  refine zi_iald (pc := 123) h 27 zq_k27 rfl zq_in_11_48 zd_MO_flowOf_123 ?_
  refine zi_istore (pc := 124) h (i := 6) (L' := [(6, _), (5, _), (4, _), (3, _), (2, _), (0, _), (1, _)]) zd_MO_flowOf_124 (by decide) rfl ?_
  refine zi_iload_n (pc := 126) h (i := 1) zd_MO_flowOf_126 rfl 6 rfl ?_
  refine zi_if_ne_f (pc := 127) h (tgt := 187) zd_MO_flowOf_127 rfl (by decide) ?_
  refine zi_aload_n (pc := 130) h (i := 0) zd_MO_flowOf_130 rfl 5 rfl ?_
  refine zi_iload (pc := 131) h (i := 4) zd_MO_flowOf_131 2 rfl ?_
  refine zi_iload_n (pc := 133) h (i := 2) zd_MO_flowOf_133 rfl 4 rfl ?_
  refine zi_iload (pc := 134) h (i := 4) zd_MO_flowOf_134 2 rfl ?_
  refine zi_iconst (pc := 136) h zd_MO_flowOf_136 zq_ic_1 ?_
  refine zi_icmp_ne_t (pc := 137) h (tgt := 144) zd_MO_flowOf_137 rfl hk ?_
  refine zi_iload (pc := 144) h (i := 5) zd_MO_flowOf_144 1 rfl ?_
  refine zi_iconst (pc := 146) h zd_MO_flowOf_146 zq_ic_0 ?_
  refine zi_iconst (pc := 147) h zd_MO_flowOf_147 zq_ic_0 ?_
  refine zi_iload (pc := 148) h (i := 6) zd_MO_flowOf_148 0 rfl ?_
  refine zi_callV (pc := 150) h (st := []) (zc_MO_find_ws hc hq) zm_MO_find zw_707 zx_MO zq_k26 rfl ⟨by decide, by decide⟩ zd_MO_flowOf_150 (Nat.le_of_ble_eq_true rfl) rfl ?_
  refine zi_istore (pc := 153) h (i := 7) (L' := [(7, _), (6, _), (5, _), (4, _), (3, _), (2, _), (0, _), (1, _)]) zd_MO_flowOf_153 (by decide) rfl ?_
  refine zi_iload (pc := 155) h (i := 7) zd_MO_flowOf_155 0 rfl ?_
  refine zi_if_lt_f (pc := 157) h (tgt := 179) zd_MO_flowOf_157 rfl (nI_pos (by omega)) ?_
  refine zi_iload (pc := 160) h (i := 4) zd_MO_flowOf_160 3 rfl ?_
  refine zi_iconst (pc := 162) h zd_MO_flowOf_162 zq_ic_1 ?_
  refine zi_icmp_ne_t (pc := 163) h (tgt := 184) zd_MO_flowOf_163 rfl hk ?_
  refine zi_iload (pc := 184) h (i := 7) zd_MO_flowOf_184 0 rfl ?_
  exact zi_ireturn (pc := 186) h hr zd_MO_flowOf_186 rfl rfl

set_option maxRecDepth 20000 in
theorem zc_MO_wellBody_6 {l : Launch} {G : zz_G} {F : Nat → va_E} {w : Nat → Int32} {la : Nat → Int32} {lz : Int32} {ra : Nat → Nat → Int32} {fn : Int32} {fa : Nat → Nat → Int32} {cd : Int32} {n : Nat} {k : Int32} (h10 : 10 ≤ n) (hn : n ≤ 48) (hf : ¬ zv_bt w n k < 0) (hk : k = 6) : zz_M l zy_MO_wellBody zb_MO_wellBody 3 (some .boolean) 2 46 G [.ref (G.2.2 26), .int k] (zz_N G F w (nI n) la lz ra fn fa cd) (some (.int (zv_wb w n k))) (zz_N G F w (nI n) la lz ra fn fa cd) := by
  refine zz_M.of (by decide) (Nat.le_of_ble_eq_true rfl) ?_
  intro X hX h hr
  subst hX
  have h : zz_C X G (zz_A G.2.2) 3 zb_MO_wellBody "PortTranslatorModel" 2 46 0 0 := h
  refine zi_aload_n (pc := 0) h (i := 0) zd_MO_wellBody_0 rfl 0 rfl ?_
  refine zi_get (pc := 1) h zx_MO 26 1 zq_k26 rfl zq_j_1_18 zw_585 rfl zd_MO_wellBody_1 ?_
  refine zi_iload_n (pc := 4) h (i := 1) zd_MO_wellBody_4 rfl 1 rfl ?_
  refine zi_bipush (pc := 5) h zd_MO_wellBody_5 zq_bi_6 ?_
  refine zi_icmp_ne_f (pc := 7) h (tgt := 15) zd_MO_wellBody_7 rfl hk ?_
  refine zi_bipush (pc := 10) h zd_MO_wellBody_10 zq_bi_20 ?_
  refine zi_goto (pc := 12) h (tgt := 17) zd_MO_wellBody_12 rfl ?_
  refine zi_icmp_ge (pc := 17) h (tgt := 22) zd_MO_wellBody_17 rfl ?_ ?_
  · intro b17
    refine zi_aload_n (pc := 22) h (i := 0) zd_MO_wellBody_22 rfl 0 rfl ?_
    refine zi_iload_n (pc := 23) h (i := 1) zd_MO_wellBody_23 rfl 1 rfl ?_
    refine zi_callV (pc := 24) h (st := []) (zc_MO_bodyTotal h10 hn) zm_MO_bodyTotal zw_678 zx_MO zq_k26 rfl ⟨by decide, by decide⟩ zd_MO_wellBody_24 (Nat.le_of_ble_eq_true rfl) rfl ?_
    refine zi_callS (pc := 27) h (st := []) (zc_MO_foldI hf) zm_MO_fold zw_666 ⟨by decide, by decide⟩ zd_MO_wellBody_27 (Nat.le_of_ble_eq_true rfl) rfl ?_
    refine zi_ldc (pc := 30) h zw_669 zd_MO_wellBody_30 ?_
    refine zi_icmp_ne (pc := 32) h (tgt := 39) zd_MO_wellBody_32 rfl ?_ ?_
    · intro b32
      refine zi_iconst (pc := 39) h zd_MO_wellBody_39 zq_ic_0 ?_
      refine zi_istore_n (pc := 40) h (i := 2) (L' := [(2, _), (0, _), (1, _)]) zd_MO_wellBody_40 rfl (by decide) rfl ?_
      refine zi_iload_n (pc := 41) h (i := 1) zd_MO_wellBody_41 rfl 2 rfl ?_
      refine zi_bipush (pc := 42) h zd_MO_wellBody_42 zq_bi_6 ?_
      refine zi_icmp_ne_f (pc := 44) h (tgt := 72) zd_MO_wellBody_44 rfl hk ?_
      refine zi_aload_n (pc := 47) h (i := 0) zd_MO_wellBody_47 rfl 1 rfl ?_
      refine zi_get (pc := 48) h zx_MO 26 0 zq_k26 rfl zq_j_0_18 zw_584 rfl zd_MO_wellBody_48 ?_
      refine zi_bipush (pc := 51) h zd_MO_wellBody_51 zq_bi_16 ?_
      refine zi_iald (pc := 53) h 27 zq_k27 rfl zq_in_16_48 zd_MO_wellBody_53 ?_
      refine zi_sipush (pc := 54) h zd_MO_wellBody_54 zq_si_4096 ?_
      refine zi_idiv (pc := 57) h zd_MO_wellBody_57 (by decide) ?_
      refine zi_iconst (pc := 58) h zd_MO_wellBody_58 zq_ic_5 ?_
      refine zi_icmp_ne (pc := 59) h (tgt := 70) zd_MO_wellBody_59 rfl ?_ ?_
      · intro b59
        refine zi_iconst (pc := 70) h zd_MO_wellBody_70 zq_ic_0 ?_
        exact zi_zreturn (pc := 71) h hr rfl zd_MO_wellBody_71 (by unfold zv_wb; (try rw [if_pos hk]); (try rw [if_neg hk]); (try rw [if_pos b17]); (try rw [if_neg b32]); (try rw [if_neg b59]); (try rfl)) rfl
      · intro b59
        refine zi_iload_n (pc := 62) h (i := 2) zd_MO_wellBody_62 rfl 0 rfl ?_
        refine zi_if_eq_t (pc := 63) h (tgt := 70) zd_MO_wellBody_63 rfl (by decide) ?_
        refine zi_iconst (pc := 70) h zd_MO_wellBody_70 zq_ic_0 ?_
        exact zi_zreturn (pc := 71) h hr rfl zd_MO_wellBody_71 (by unfold zv_wb; (try rw [if_pos hk]); (try rw [if_neg hk]); (try rw [if_pos b17]); (try rw [if_neg b32]); (try rw [if_pos b59]); (try rfl)) rfl
    · intro b32
      refine zi_iconst (pc := 35) h zd_MO_wellBody_35 zq_ic_1 ?_
      refine zi_goto (pc := 36) h (tgt := 40) zd_MO_wellBody_36 rfl ?_
      refine zi_istore_n (pc := 40) h (i := 2) (L' := [(2, _), (0, _), (1, _)]) zd_MO_wellBody_40 rfl (by decide) rfl ?_
      refine zi_iload_n (pc := 41) h (i := 1) zd_MO_wellBody_41 rfl 2 rfl ?_
      refine zi_bipush (pc := 42) h zd_MO_wellBody_42 zq_bi_6 ?_
      refine zi_icmp_ne_f (pc := 44) h (tgt := 72) zd_MO_wellBody_44 rfl hk ?_
      refine zi_aload_n (pc := 47) h (i := 0) zd_MO_wellBody_47 rfl 1 rfl ?_
      refine zi_get (pc := 48) h zx_MO 26 0 zq_k26 rfl zq_j_0_18 zw_584 rfl zd_MO_wellBody_48 ?_
      refine zi_bipush (pc := 51) h zd_MO_wellBody_51 zq_bi_16 ?_
      refine zi_iald (pc := 53) h 27 zq_k27 rfl zq_in_16_48 zd_MO_wellBody_53 ?_
      refine zi_sipush (pc := 54) h zd_MO_wellBody_54 zq_si_4096 ?_
      refine zi_idiv (pc := 57) h zd_MO_wellBody_57 (by decide) ?_
      refine zi_iconst (pc := 58) h zd_MO_wellBody_58 zq_ic_5 ?_
      refine zi_icmp_ne (pc := 59) h (tgt := 70) zd_MO_wellBody_59 rfl ?_ ?_
      · intro b59
        refine zi_iconst (pc := 70) h zd_MO_wellBody_70 zq_ic_0 ?_
        exact zi_zreturn (pc := 71) h hr rfl zd_MO_wellBody_71 (by unfold zv_wb; (try rw [if_pos hk]); (try rw [if_neg hk]); (try rw [if_pos b17]); (try rw [if_pos b32]); (try rw [if_neg b59]); (try rfl)) rfl
      · intro b59
        refine zi_iload_n (pc := 62) h (i := 2) zd_MO_wellBody_62 rfl 0 rfl ?_
        refine zi_if_eq_f (pc := 63) h (tgt := 70) zd_MO_wellBody_63 rfl (by decide) ?_
        refine zi_iconst (pc := 66) h zd_MO_wellBody_66 zq_ic_1 ?_
        refine zi_goto (pc := 67) h (tgt := 71) zd_MO_wellBody_67 rfl ?_
        exact zi_zreturn (pc := 71) h hr rfl zd_MO_wellBody_71 (by unfold zv_wb; (try rw [if_pos hk]); (try rw [if_neg hk]); (try rw [if_pos b17]); (try rw [if_pos b32]); (try rw [if_pos b59]); (try rfl)) rfl
  · intro b17
    refine zi_iconst (pc := 20) h zd_MO_wellBody_20 zq_ic_0 ?_
    exact zi_zreturn (pc := 21) h hr rfl zd_MO_wellBody_21 (by unfold zv_wb; (try rw [if_pos hk]); (try rw [if_neg hk]); (try rw [if_neg b17]); (try rfl)) rfl

set_option maxRecDepth 20000 in
theorem zc_MO_wellBody_x {l : Launch} {G : zz_G} {F : Nat → va_E} {w : Nat → Int32} {la : Nat → Int32} {lz : Int32} {ra : Nat → Nat → Int32} {fn : Int32} {fa : Nat → Nat → Int32} {cd : Int32} {n : Nat} {k : Int32} (h10 : 10 ≤ n) (hn : n ≤ 48) (hf : ¬ zv_bt w n k < 0) (hk : ¬ k = 6) : zz_M l zy_MO_wellBody zb_MO_wellBody 3 (some .boolean) 2 46 G [.ref (G.2.2 26), .int k] (zz_N G F w (nI n) la lz ra fn fa cd) (some (.int (zv_wb w n k))) (zz_N G F w (nI n) la lz ra fn fa cd) := by
  refine zz_M.of (by decide) (Nat.le_of_ble_eq_true rfl) ?_
  intro X hX h hr
  subst hX
  have h : zz_C X G (zz_A G.2.2) 3 zb_MO_wellBody "PortTranslatorModel" 2 46 0 0 := h
  refine zi_aload_n (pc := 0) h (i := 0) zd_MO_wellBody_0 rfl 0 rfl ?_
  refine zi_get (pc := 1) h zx_MO 26 1 zq_k26 rfl zq_j_1_18 zw_585 rfl zd_MO_wellBody_1 ?_
  refine zi_iload_n (pc := 4) h (i := 1) zd_MO_wellBody_4 rfl 1 rfl ?_
  refine zi_bipush (pc := 5) h zd_MO_wellBody_5 zq_bi_6 ?_
  refine zi_icmp_ne_t (pc := 7) h (tgt := 15) zd_MO_wellBody_7 rfl hk ?_
  refine zi_bipush (pc := 15) h zd_MO_wellBody_15 zq_bi_14 ?_
  refine zi_icmp_ge (pc := 17) h (tgt := 22) zd_MO_wellBody_17 rfl ?_ ?_
  · intro b17
    refine zi_aload_n (pc := 22) h (i := 0) zd_MO_wellBody_22 rfl 0 rfl ?_
    refine zi_iload_n (pc := 23) h (i := 1) zd_MO_wellBody_23 rfl 1 rfl ?_
    refine zi_callV (pc := 24) h (st := []) (zc_MO_bodyTotal h10 hn) zm_MO_bodyTotal zw_678 zx_MO zq_k26 rfl ⟨by decide, by decide⟩ zd_MO_wellBody_24 (Nat.le_of_ble_eq_true rfl) rfl ?_
    refine zi_callS (pc := 27) h (st := []) (zc_MO_foldI hf) zm_MO_fold zw_666 ⟨by decide, by decide⟩ zd_MO_wellBody_27 (Nat.le_of_ble_eq_true rfl) rfl ?_
    refine zi_ldc (pc := 30) h zw_669 zd_MO_wellBody_30 ?_
    refine zi_icmp_ne (pc := 32) h (tgt := 39) zd_MO_wellBody_32 rfl ?_ ?_
    · intro b32
      refine zi_iconst (pc := 39) h zd_MO_wellBody_39 zq_ic_0 ?_
      refine zi_istore_n (pc := 40) h (i := 2) (L' := [(2, _), (0, _), (1, _)]) zd_MO_wellBody_40 rfl (by decide) rfl ?_
      refine zi_iload_n (pc := 41) h (i := 1) zd_MO_wellBody_41 rfl 2 rfl ?_
      refine zi_bipush (pc := 42) h zd_MO_wellBody_42 zq_bi_6 ?_
      refine zi_icmp_ne_t (pc := 44) h (tgt := 72) zd_MO_wellBody_44 rfl hk ?_
      refine zi_iload_n (pc := 72) h (i := 1) zd_MO_wellBody_72 rfl 2 rfl ?_
      refine zi_bipush (pc := 73) h zd_MO_wellBody_73 zq_bi_17 ?_
      refine zi_icmp_ne (pc := 75) h (tgt := 117) zd_MO_wellBody_75 rfl ?_ ?_
      · intro b75
        refine zi_aload_n (pc := 117) h (i := 0) zd_MO_wellBody_117 rfl 1 rfl ?_
        refine zi_callV (pc := 118) h (st := []) (zc_MO_isError) zm_MO_isError zw_682 zx_MO zq_k26 rfl ⟨by decide, by decide⟩ zd_MO_wellBody_118 (Nat.le_of_ble_eq_true rfl) rfl ?_
        refine zi_if_eq (pc := 121) h (tgt := 176) zd_MO_wellBody_121 rfl ?_ ?_
        · intro b121
          refine zi_iload_n (pc := 176) h (i := 2) zd_MO_wellBody_176 rfl 0 rfl ?_
          refine zi_if_eq_t (pc := 177) h (tgt := 207) zd_MO_wellBody_177 rfl (by decide) ?_
          refine zi_iconst (pc := 207) h zd_MO_wellBody_207 zq_ic_0 ?_
          exact zi_zreturn (pc := 208) h hr rfl zd_MO_wellBody_208 (by unfold zv_wb; (try rw [if_pos hk]); (try rw [if_neg hk]); (try rw [if_pos b17]); (try rw [if_neg b32]); (try rw [if_neg b75]); (try rw [if_pos b121]); (try rfl)) rfl
        · intro b121
          refine zi_iload_n (pc := 124) h (i := 2) zd_MO_wellBody_124 rfl 0 rfl ?_
          refine zi_if_eq_t (pc := 125) h (tgt := 174) zd_MO_wellBody_125 rfl (by decide) ?_
          refine zi_iconst (pc := 174) h zd_MO_wellBody_174 zq_ic_0 ?_
          exact zi_zreturn (pc := 175) h hr rfl zd_MO_wellBody_175 (by unfold zv_wb; (try rw [if_pos hk]); (try rw [if_neg hk]); (try rw [if_pos b17]); (try rw [if_neg b32]); (try rw [if_neg b75]); (try rw [if_neg b121]); (try rfl)) rfl
      · intro b75
        refine zi_aload_n (pc := 78) h (i := 0) zd_MO_wellBody_78 rfl 1 rfl ?_
        refine zi_get (pc := 79) h zx_MO 26 0 zq_k26 rfl zq_j_0_18 zw_584 rfl zd_MO_wellBody_79 ?_
        refine zi_bipush (pc := 82) h zd_MO_wellBody_82 zq_bi_12 ?_
        refine zi_iald (pc := 84) h 27 zq_k27 rfl zq_in_12_48 zd_MO_wellBody_84 ?_
        refine zi_iconst (pc := 85) h zd_MO_wellBody_85 zq_ic_2 ?_
        refine zi_aload_n (pc := 86) h (i := 0) zd_MO_wellBody_86 rfl 1 rfl ?_
        refine zi_get (pc := 87) h zx_MO 26 1 zq_k26 rfl zq_j_1_18 zw_585 rfl zd_MO_wellBody_87 ?_
        refine zi_bipush (pc := 90) h zd_MO_wellBody_90 zq_bi_10 ?_
        refine zi_isub (pc := 92) h zd_MO_wellBody_92 ?_
        refine zi_imul (pc := 93) h zd_MO_wellBody_93 ?_
        refine zi_icmp_ne (pc := 94) h (tgt := 115) zd_MO_wellBody_94 rfl ?_ ?_
        · intro b94
          refine zi_iconst (pc := 115) h zd_MO_wellBody_115 zq_ic_0 ?_
          exact zi_zreturn (pc := 116) h hr rfl zd_MO_wellBody_116 (by unfold zv_wb; (try rw [if_pos hk]); (try rw [if_neg hk]); (try rw [if_pos b17]); (try rw [if_neg b32]); (try rw [if_pos b75]); (try rw [if_neg b94]); (try rfl)) rfl
        · intro b94
          refine zi_aload_n (pc := 97) h (i := 0) zd_MO_wellBody_97 rfl 1 rfl ?_
          refine zi_get (pc := 98) h zx_MO 26 0 zq_k26 rfl zq_j_0_18 zw_584 rfl zd_MO_wellBody_98 ?_
          refine zi_bipush (pc := 101) h zd_MO_wellBody_101 zq_bi_13 ?_
          refine zi_iald (pc := 103) h 27 zq_k27 rfl zq_in_13_48 zd_MO_wellBody_103 ?_
          refine zi_if_eq (pc := 104) h (tgt := 111) zd_MO_wellBody_104 rfl ?_ ?_
          · intro b104
            refine zi_iconst (pc := 111) h zd_MO_wellBody_111 zq_ic_1 ?_
            refine zi_goto (pc := 112) h (tgt := 116) zd_MO_wellBody_112 rfl ?_
            exact zi_zreturn (pc := 116) h hr rfl zd_MO_wellBody_116 (by unfold zv_wb; (try rw [if_pos hk]); (try rw [if_neg hk]); (try rw [if_pos b17]); (try rw [if_neg b32]); (try rw [if_pos b75]); (try rw [if_pos b94]); (try rw [if_pos b104]); (try rfl)) rfl
          · intro b104
            refine zi_iload_n (pc := 107) h (i := 2) zd_MO_wellBody_107 rfl 0 rfl ?_
            refine zi_if_eq_t (pc := 108) h (tgt := 115) zd_MO_wellBody_108 rfl (by decide) ?_
            refine zi_iconst (pc := 115) h zd_MO_wellBody_115 zq_ic_0 ?_
            exact zi_zreturn (pc := 116) h hr rfl zd_MO_wellBody_116 (by unfold zv_wb; (try rw [if_pos hk]); (try rw [if_neg hk]); (try rw [if_pos b17]); (try rw [if_neg b32]); (try rw [if_pos b75]); (try rw [if_pos b94]); (try rw [if_neg b104]); (try rfl)) rfl
    · intro b32
      refine zi_iconst (pc := 35) h zd_MO_wellBody_35 zq_ic_1 ?_
      refine zi_goto (pc := 36) h (tgt := 40) zd_MO_wellBody_36 rfl ?_
      refine zi_istore_n (pc := 40) h (i := 2) (L' := [(2, _), (0, _), (1, _)]) zd_MO_wellBody_40 rfl (by decide) rfl ?_
      refine zi_iload_n (pc := 41) h (i := 1) zd_MO_wellBody_41 rfl 2 rfl ?_
      refine zi_bipush (pc := 42) h zd_MO_wellBody_42 zq_bi_6 ?_
      refine zi_icmp_ne_t (pc := 44) h (tgt := 72) zd_MO_wellBody_44 rfl hk ?_
      refine zi_iload_n (pc := 72) h (i := 1) zd_MO_wellBody_72 rfl 2 rfl ?_
      refine zi_bipush (pc := 73) h zd_MO_wellBody_73 zq_bi_17 ?_
      refine zi_icmp_ne (pc := 75) h (tgt := 117) zd_MO_wellBody_75 rfl ?_ ?_
      · intro b75
        refine zi_aload_n (pc := 117) h (i := 0) zd_MO_wellBody_117 rfl 1 rfl ?_
        refine zi_callV (pc := 118) h (st := []) (zc_MO_isError) zm_MO_isError zw_682 zx_MO zq_k26 rfl ⟨by decide, by decide⟩ zd_MO_wellBody_118 (Nat.le_of_ble_eq_true rfl) rfl ?_
        refine zi_if_eq (pc := 121) h (tgt := 176) zd_MO_wellBody_121 rfl ?_ ?_
        · intro b121
          refine zi_iload_n (pc := 176) h (i := 2) zd_MO_wellBody_176 rfl 0 rfl ?_
          refine zi_if_eq_f (pc := 177) h (tgt := 207) zd_MO_wellBody_177 rfl (by decide) ?_
          refine zi_aload_n (pc := 180) h (i := 0) zd_MO_wellBody_180 rfl 1 rfl ?_
          refine zi_get (pc := 181) h zx_MO 26 0 zq_k26 rfl zq_j_0_18 zw_584 rfl zd_MO_wellBody_181 ?_
          refine zi_bipush (pc := 184) h zd_MO_wellBody_184 zq_bi_10 ?_
          refine zi_iald (pc := 186) h 27 zq_k27 rfl zq_in_10_48 zd_MO_wellBody_186 ?_
          refine zi_sipush (pc := 187) h zd_MO_wellBody_187 zq_si_2048 ?_
          refine zi_icmp_eq (pc := 190) h (tgt := 203) zd_MO_wellBody_190 rfl ?_ ?_
          · intro b190
            refine zi_iconst (pc := 203) h zd_MO_wellBody_203 zq_ic_1 ?_
            refine zi_goto (pc := 204) h (tgt := 208) zd_MO_wellBody_204 rfl ?_
            exact zi_zreturn (pc := 208) h hr rfl zd_MO_wellBody_208 (by unfold zv_wb; (try rw [if_pos hk]); (try rw [if_neg hk]); (try rw [if_pos b17]); (try rw [if_pos b32]); (try rw [if_neg b75]); (try rw [if_pos b121]); (try rw [if_pos b190]); (try rfl)) rfl
          · intro b190
            refine zi_aload_n (pc := 193) h (i := 0) zd_MO_wellBody_193 rfl 1 rfl ?_
            refine zi_get (pc := 194) h zx_MO 26 0 zq_k26 rfl zq_j_0_18 zw_584 rfl zd_MO_wellBody_194 ?_
            refine zi_bipush (pc := 197) h zd_MO_wellBody_197 zq_bi_10 ?_
            refine zi_iald (pc := 199) h 27 zq_k27 rfl zq_in_10_48 zd_MO_wellBody_199 ?_
            refine zi_if_ne (pc := 200) h (tgt := 207) zd_MO_wellBody_200 rfl ?_ ?_
            · intro b200
              refine zi_iconst (pc := 207) h zd_MO_wellBody_207 zq_ic_0 ?_
              exact zi_zreturn (pc := 208) h hr rfl zd_MO_wellBody_208 (by unfold zv_wb; (try rw [if_pos hk]); (try rw [if_neg hk]); (try rw [if_pos b17]); (try rw [if_pos b32]); (try rw [if_neg b75]); (try rw [if_pos b121]); (try rw [if_neg b190]); (try rw [if_neg b200]); (try rfl)) rfl
            · intro b200
              refine zi_iconst (pc := 203) h zd_MO_wellBody_203 zq_ic_1 ?_
              refine zi_goto (pc := 204) h (tgt := 208) zd_MO_wellBody_204 rfl ?_
              exact zi_zreturn (pc := 208) h hr rfl zd_MO_wellBody_208 (by unfold zv_wb; (try rw [if_pos hk]); (try rw [if_neg hk]); (try rw [if_pos b17]); (try rw [if_pos b32]); (try rw [if_neg b75]); (try rw [if_pos b121]); (try rw [if_neg b190]); (try rw [if_pos b200]); (try rfl)) rfl
        · intro b121
          refine zi_iload_n (pc := 124) h (i := 2) zd_MO_wellBody_124 rfl 0 rfl ?_
          refine zi_if_eq_f (pc := 125) h (tgt := 174) zd_MO_wellBody_125 rfl (by decide) ?_
          refine zi_aload_n (pc := 128) h (i := 0) zd_MO_wellBody_128 rfl 1 rfl ?_
          refine zi_get (pc := 129) h zx_MO 26 1 zq_k26 rfl zq_j_1_18 zw_585 rfl zd_MO_wellBody_129 ?_
          refine zi_bipush (pc := 132) h zd_MO_wellBody_132 zq_bi_28 ?_
          refine zi_icmp_lt (pc := 134) h (tgt := 174) zd_MO_wellBody_134 rfl ?_ ?_
          · intro b134
            refine zi_iconst (pc := 174) h zd_MO_wellBody_174 zq_ic_0 ?_
            exact zi_zreturn (pc := 175) h hr rfl zd_MO_wellBody_175 (by unfold zv_wb; (try rw [if_pos hk]); (try rw [if_neg hk]); (try rw [if_pos b17]); (try rw [if_pos b32]); (try rw [if_neg b75]); (try rw [if_neg b121]); (try rw [if_pos b134]); (try rfl)) rfl
          · intro b134
            refine zi_aload_n (pc := 137) h (i := 0) zd_MO_wellBody_137 rfl 1 rfl ?_
            refine zi_get (pc := 138) h zx_MO 26 0 zq_k26 rfl zq_j_0_18 zw_584 rfl zd_MO_wellBody_138 ?_
            refine zi_bipush (pc := 141) h zd_MO_wellBody_141 zq_bi_14 ?_
            refine zi_iald (pc := 143) h 27 zq_k27 rfl zq_in_14_48 zd_MO_wellBody_143 ?_
            refine zi_sipush (pc := 144) h zd_MO_wellBody_144 zq_si_256 ?_
            refine zi_idiv (pc := 147) h zd_MO_wellBody_147 (by decide) ?_
            refine zi_bipush (pc := 148) h zd_MO_wellBody_148 zq_bi_69 ?_
            refine zi_icmp_ne (pc := 150) h (tgt := 174) zd_MO_wellBody_150 rfl ?_ ?_
            · intro b150
              refine zi_iconst (pc := 174) h zd_MO_wellBody_174 zq_ic_0 ?_
              exact zi_zreturn (pc := 175) h hr rfl zd_MO_wellBody_175 (by unfold zv_wb; (try rw [if_pos hk]); (try rw [if_neg hk]); (try rw [if_pos b17]); (try rw [if_pos b32]); (try rw [if_neg b75]); (try rw [if_neg b121]); (try rw [if_neg b134]); (try rw [if_neg b150]); (try rfl)) rfl
            · intro b150
              refine zi_aload_n (pc := 153) h (i := 0) zd_MO_wellBody_153 rfl 1 rfl ?_
              refine zi_get (pc := 154) h zx_MO 26 0 zq_k26 rfl zq_j_0_18 zw_584 rfl zd_MO_wellBody_154 ?_
              refine zi_bipush (pc := 157) h zd_MO_wellBody_157 zq_bi_18 ?_
              refine zi_iald (pc := 159) h 27 zq_k27 rfl zq_in_18_48 zd_MO_wellBody_159 ?_
              refine zi_sipush (pc := 160) h zd_MO_wellBody_160 zq_si_255 ?_
              refine zi_iand (pc := 163) h zd_MO_wellBody_163 ?_
              refine zi_callS (pc := 164) h (st := []) (zc_MO_isKind) zm_MO_isKind zw_671 ⟨by decide, by decide⟩ zd_MO_wellBody_164 (Nat.le_of_ble_eq_true rfl) rfl ?_
              refine zi_if_eq (pc := 167) h (tgt := 174) zd_MO_wellBody_167 rfl ?_ ?_
              · intro b167
                refine zi_iconst (pc := 174) h zd_MO_wellBody_174 zq_ic_0 ?_
                exact zi_zreturn (pc := 175) h hr rfl zd_MO_wellBody_175 (by unfold zv_wb; (try rw [if_pos hk]); (try rw [if_neg hk]); (try rw [if_pos b17]); (try rw [if_pos b32]); (try rw [if_neg b75]); (try rw [if_neg b121]); (try rw [if_neg b134]); (try rw [if_pos b150]); (try rw [if_pos b167]); (try rfl)) rfl
              · intro b167
                refine zi_iconst (pc := 170) h zd_MO_wellBody_170 zq_ic_1 ?_
                refine zi_goto (pc := 171) h (tgt := 175) zd_MO_wellBody_171 rfl ?_
                exact zi_zreturn (pc := 175) h hr rfl zd_MO_wellBody_175 (by unfold zv_wb; (try rw [if_pos hk]); (try rw [if_neg hk]); (try rw [if_pos b17]); (try rw [if_pos b32]); (try rw [if_neg b75]); (try rw [if_neg b121]); (try rw [if_neg b134]); (try rw [if_pos b150]); (try rw [if_neg b167]); (try rfl)) rfl
      · intro b75
        refine zi_aload_n (pc := 78) h (i := 0) zd_MO_wellBody_78 rfl 1 rfl ?_
        refine zi_get (pc := 79) h zx_MO 26 0 zq_k26 rfl zq_j_0_18 zw_584 rfl zd_MO_wellBody_79 ?_
        refine zi_bipush (pc := 82) h zd_MO_wellBody_82 zq_bi_12 ?_
        refine zi_iald (pc := 84) h 27 zq_k27 rfl zq_in_12_48 zd_MO_wellBody_84 ?_
        refine zi_iconst (pc := 85) h zd_MO_wellBody_85 zq_ic_2 ?_
        refine zi_aload_n (pc := 86) h (i := 0) zd_MO_wellBody_86 rfl 1 rfl ?_
        refine zi_get (pc := 87) h zx_MO 26 1 zq_k26 rfl zq_j_1_18 zw_585 rfl zd_MO_wellBody_87 ?_
        refine zi_bipush (pc := 90) h zd_MO_wellBody_90 zq_bi_10 ?_
        refine zi_isub (pc := 92) h zd_MO_wellBody_92 ?_
        refine zi_imul (pc := 93) h zd_MO_wellBody_93 ?_
        refine zi_icmp_ne (pc := 94) h (tgt := 115) zd_MO_wellBody_94 rfl ?_ ?_
        · intro b94
          refine zi_iconst (pc := 115) h zd_MO_wellBody_115 zq_ic_0 ?_
          exact zi_zreturn (pc := 116) h hr rfl zd_MO_wellBody_116 (by unfold zv_wb; (try rw [if_pos hk]); (try rw [if_neg hk]); (try rw [if_pos b17]); (try rw [if_pos b32]); (try rw [if_pos b75]); (try rw [if_neg b94]); (try rfl)) rfl
        · intro b94
          refine zi_aload_n (pc := 97) h (i := 0) zd_MO_wellBody_97 rfl 1 rfl ?_
          refine zi_get (pc := 98) h zx_MO 26 0 zq_k26 rfl zq_j_0_18 zw_584 rfl zd_MO_wellBody_98 ?_
          refine zi_bipush (pc := 101) h zd_MO_wellBody_101 zq_bi_13 ?_
          refine zi_iald (pc := 103) h 27 zq_k27 rfl zq_in_13_48 zd_MO_wellBody_103 ?_
          refine zi_if_eq (pc := 104) h (tgt := 111) zd_MO_wellBody_104 rfl ?_ ?_
          · intro b104
            refine zi_iconst (pc := 111) h zd_MO_wellBody_111 zq_ic_1 ?_
            refine zi_goto (pc := 112) h (tgt := 116) zd_MO_wellBody_112 rfl ?_
            exact zi_zreturn (pc := 116) h hr rfl zd_MO_wellBody_116 (by unfold zv_wb; (try rw [if_pos hk]); (try rw [if_neg hk]); (try rw [if_pos b17]); (try rw [if_pos b32]); (try rw [if_pos b75]); (try rw [if_pos b94]); (try rw [if_pos b104]); (try rfl)) rfl
          · intro b104
            refine zi_iload_n (pc := 107) h (i := 2) zd_MO_wellBody_107 rfl 0 rfl ?_
            refine zi_if_eq_f (pc := 108) h (tgt := 115) zd_MO_wellBody_108 rfl (by decide) ?_
            refine zi_iconst (pc := 111) h zd_MO_wellBody_111 zq_ic_1 ?_
            refine zi_goto (pc := 112) h (tgt := 116) zd_MO_wellBody_112 rfl ?_
            exact zi_zreturn (pc := 116) h hr rfl zd_MO_wellBody_116 (by unfold zv_wb; (try rw [if_pos hk]); (try rw [if_neg hk]); (try rw [if_pos b17]); (try rw [if_pos b32]); (try rw [if_pos b75]); (try rw [if_pos b94]); (try rw [if_neg b104]); (try rfl)) rfl
  · intro b17
    refine zi_iconst (pc := 20) h zd_MO_wellBody_20 zq_ic_0 ?_
    exact zi_zreturn (pc := 21) h hr rfl zd_MO_wellBody_21 (by unfold zv_wb; (try rw [if_pos hk]); (try rw [if_neg hk]); (try rw [if_neg b17]); (try rfl)) rfl

theorem zc_MO_wellBody {l : Launch} {G : zz_G} {F : Nat → va_E} {w : Nat → Int32} {la : Nat → Int32} {lz : Int32} {ra : Nat → Nat → Int32} {fn : Int32} {fa : Nat → Nat → Int32} {cd : Int32} {n : Nat} {k : Int32} (h10 : 10 ≤ n) (hn : n ≤ 48) (hf : ¬ zv_bt w n k < 0) : zz_M l zy_MO_wellBody zb_MO_wellBody 3 (some .boolean) 2 46 G [.ref (G.2.2 26), .int k] (zz_N G F w (nI n) la lz ra fn fa cd) (some (.int (zv_wb w n k))) (zz_N G F w (nI n) la lz ra fn fa cd) := by
  by_cases hk : k = 6
  · exact zc_MO_wellBody_6 h10 hn hf hk
  · exact zc_MO_wellBody_x h10 hn hf hk

set_option maxRecDepth 20000 in
theorem zc_MO_well {l : Launch} {G : zz_G} {F : Nat → va_E} {w : Nat → Int32} {la : Nat → Int32} {lz : Int32} {ra : Nat → Nat → Int32} {fn : Int32} {fa : Nat → Nat → Int32} {cd : Int32} {n : Nat} (hn : n ≤ 48) (hf0 : ¬ zs_tot w 0 10 0 < 0) (hf1 : 10 ≤ n → ¬ zv_bt w n (w 4 &&& 255) < 0) : zz_M l zy_MO_well zb_MO_well 2 (some .boolean) 3 68 G [.ref (G.2.2 26)] (zz_N G F w (nI n) la lz ra fn fa cd) (some (.int (zv_wl w n))) (zz_N G F w (nI n) la lz ra fn fa cd) := by
  refine zz_M.of (by decide) (Nat.le_of_ble_eq_true rfl) ?_
  intro X hX h hr
  subst hX
  have h : zz_C X G (zz_A G.2.2) 2 zb_MO_well "PortTranslatorModel" 3 68 0 0 := h
  refine zi_aload_n (pc := 0) h (i := 0) zd_MO_well_0 rfl 0 rfl ?_
  refine zi_get (pc := 1) h zx_MO 26 1 zq_k26 rfl zq_j_1_18 zw_585 rfl zd_MO_well_1 ?_
  refine zi_bipush (pc := 4) h zd_MO_well_4 zq_bi_10 ?_
  refine zi_icmp_lt (pc := 6) h (tgt := 66) zd_MO_well_6 rfl ?_ ?_
  · intro b6
    refine zi_iconst (pc := 66) h zd_MO_well_66 zq_ic_0 ?_
    exact zi_zreturn (pc := 67) h hr rfl zd_MO_well_67 (by rw [zv_wl, if_pos b6]) rfl
  · intro b6
    refine zi_aload_n (pc := 9) h (i := 0) zd_MO_well_9 rfl 0 rfl ?_
    refine zi_get (pc := 10) h zx_MO 26 0 zq_k26 rfl zq_j_0_18 zw_584 rfl zd_MO_well_10 ?_
    refine zi_iconst (pc := 13) h zd_MO_well_13 zq_ic_0 ?_
    refine zi_iald (pc := 14) h 27 zq_k27 rfl zq_in_0_48 zd_MO_well_14 ?_
    refine zi_sipush (pc := 15) h zd_MO_well_15 zq_si_256 ?_
    refine zi_idiv (pc := 18) h zd_MO_well_18 (by decide) ?_
    refine zi_bipush (pc := 19) h zd_MO_well_19 zq_bi_69 ?_
    refine zi_icmp_ne (pc := 21) h (tgt := 66) zd_MO_well_21 rfl ?_ ?_
    · intro b21
      refine zi_iconst (pc := 66) h zd_MO_well_66 zq_ic_0 ?_
      exact zi_zreturn (pc := 67) h hr rfl zd_MO_well_67 (by rw [zv_wl, if_neg b6, if_neg b21]) rfl
    · intro b21
      refine zi_aload_n (pc := 24) h (i := 0) zd_MO_well_24 rfl 0 rfl ?_
      refine zi_get (pc := 25) h zx_MO 26 0 zq_k26 rfl zq_j_0_18 zw_584 rfl zd_MO_well_25 ?_
      refine zi_iconst (pc := 28) h zd_MO_well_28 zq_ic_1 ?_
      refine zi_iald (pc := 29) h 27 zq_k27 rfl zq_in_1_48 zd_MO_well_29 ?_
      refine zi_iconst (pc := 30) h zd_MO_well_30 zq_ic_2 ?_
      refine zi_aload_n (pc := 31) h (i := 0) zd_MO_well_31 rfl 0 rfl ?_
      refine zi_get (pc := 32) h zx_MO 26 1 zq_k26 rfl zq_j_1_18 zw_585 rfl zd_MO_well_32 ?_
      refine zi_imul (pc := 35) h zd_MO_well_35 ?_
      refine zi_icmp_ne (pc := 36) h (tgt := 66) zd_MO_well_36 rfl ?_ ?_
      · intro b36
        refine zi_iconst (pc := 66) h zd_MO_well_66 zq_ic_0 ?_
        exact zi_zreturn (pc := 67) h hr rfl zd_MO_well_67 (by rw [zv_wl, if_neg b6, if_pos b21, if_neg b36]) rfl
      · intro b36
        refine zi_aload_n (pc := 39) h (i := 0) zd_MO_well_39 rfl 0 rfl ?_
        refine zi_get (pc := 40) h zx_MO 26 0 zq_k26 rfl zq_j_0_18 zw_584 rfl zd_MO_well_40 ?_
        refine zi_iconst (pc := 43) h zd_MO_well_43 zq_ic_3 ?_
        refine zi_iald (pc := 44) h 27 zq_k27 rfl zq_in_3_48 zd_MO_well_44 ?_
        refine zi_ldc (pc := 45) h zw_661 zd_MO_well_45 ?_
        refine zi_iand (pc := 47) h zd_MO_well_47 ?_
        refine zi_if_ne (pc := 48) h (tgt := 66) zd_MO_well_48 rfl ?_ ?_
        · intro b48
          refine zi_iconst (pc := 66) h zd_MO_well_66 zq_ic_0 ?_
          exact zi_zreturn (pc := 67) h hr rfl zd_MO_well_67 (by rw [zv_wl, if_neg b6, if_pos b21, if_pos b36, if_neg b48]) rfl
        · intro b48
          refine zi_aload_n (pc := 51) h (i := 0) zd_MO_well_51 rfl 0 rfl ?_
          refine zi_iconst (pc := 52) h zd_MO_well_52 zq_ic_0 ?_
          refine zi_bipush (pc := 53) h zd_MO_well_53 zq_bi_10 ?_
          refine zi_callV (pc := 55) h (st := []) (zc_MO_total (a := 0) (b := 10) (by decide) (by decide)) zm_MO_total zw_662 zx_MO zq_k26 rfl ⟨by decide, by decide⟩ zd_MO_well_55 (Nat.le_of_ble_eq_true rfl) rfl ?_
          refine zi_callS (pc := 58) h (st := []) (zc_MO_foldI hf0) zm_MO_fold zw_666 ⟨by decide, by decide⟩ zd_MO_well_58 (Nat.le_of_ble_eq_true rfl) rfl ?_
          refine zi_ldc (pc := 61) h zw_669 zd_MO_well_61 ?_
          refine zi_icmp_eq (pc := 63) h (tgt := 68) zd_MO_well_63 rfl ?_ ?_
          · intro b63
            refine zi_aload_n (pc := 68) h (i := 0) zd_MO_well_68 rfl 0 rfl ?_
            refine zi_get (pc := 69) h zx_MO 26 0 zq_k26 rfl zq_j_0_18 zw_584 rfl zd_MO_well_69 ?_
            refine zi_iconst (pc := 72) h zd_MO_well_72 zq_ic_4 ?_
            refine zi_iald (pc := 73) h 27 zq_k27 rfl zq_in_4_48 zd_MO_well_73 ?_
            refine zi_sipush (pc := 74) h zd_MO_well_74 zq_si_255 ?_
            refine zi_iand (pc := 77) h zd_MO_well_77 ?_
            refine zi_istore_n (pc := 78) h (i := 1) (L' := [(1, _), (0, _)]) zd_MO_well_78 rfl (by decide) rfl ?_
            refine zi_iload_n (pc := 79) h (i := 1) zd_MO_well_79 rfl 0 rfl ?_
            refine zi_callS (pc := 80) h (st := []) (zc_MO_isKind) zm_MO_isKind zw_671 ⟨by decide, by decide⟩ zd_MO_well_80 (Nat.le_of_ble_eq_true rfl) rfl ?_
            refine zi_if_eq (pc := 83) h (tgt := 98) zd_MO_well_83 rfl ?_ ?_
            · intro b83
              refine zi_iconst (pc := 98) h zd_MO_well_98 zq_ic_0 ?_
              exact zi_zreturn (pc := 99) h hr rfl zd_MO_well_99 (by rw [zv_wl, if_neg b6, if_pos b21, if_pos b36, if_pos b48, if_pos b63, if_pos b83]) rfl
            · intro b83
              refine zi_aload_n (pc := 86) h (i := 0) zd_MO_well_86 rfl 1 rfl ?_
              refine zi_iload_n (pc := 87) h (i := 1) zd_MO_well_87 rfl 0 rfl ?_
              refine zi_callV (pc := 88) h (st := []) (zc_MO_wellBody (zq_le (m := 10) b6 (by omega) (by decide)) hn (hf1 (zq_le (m := 10) b6 (by omega) (by decide)))) zm_MO_wellBody zw_674 zx_MO zq_k26 rfl ⟨by decide, by decide⟩ zd_MO_well_88 (Nat.le_of_ble_eq_true rfl) rfl ?_
              refine zi_if_eq (pc := 91) h (tgt := 98) zd_MO_well_91 rfl ?_ ?_
              · intro b91
                refine zi_iconst (pc := 98) h zd_MO_well_98 zq_ic_0 ?_
                exact zi_zreturn (pc := 99) h hr rfl zd_MO_well_99 (by rw [zv_wl, if_neg b6, if_pos b21, if_pos b36, if_pos b48, if_pos b63, if_neg b83, if_pos b91]) rfl
              · intro b91
                refine zi_iconst (pc := 94) h zd_MO_well_94 zq_ic_1 ?_
                refine zi_goto (pc := 95) h (tgt := 99) zd_MO_well_95 rfl ?_
                exact zi_zreturn (pc := 99) h hr rfl zd_MO_well_99 (by rw [zv_wl, if_neg b6, if_pos b21, if_pos b36, if_pos b48, if_pos b63, if_neg b83, if_neg b91]) rfl
          · intro b63
            refine zi_iconst (pc := 66) h zd_MO_well_66 zq_ic_0 ?_
            exact zi_zreturn (pc := 67) h hr rfl zd_MO_well_67 (by rw [zv_wl, if_neg b6, if_pos b21, if_pos b36, if_pos b48, if_neg b63]) rfl

set_option maxRecDepth 20000 in
theorem zc_MO_changeOther {l : Launch} {G : zz_G} {F : Nat → va_E} {w : Nat → Int32} {sz : Int32} {la : Nat → Int32} {lz : Int32} {ra : Nat → Nat → Int32} {fn : Int32} {fa : Nat → Nat → Int32} {cd : Int32} {a b d : Nat} {y z x p : Int32} (h1 : zz_ix y a 48) (h2 : zz_ix (y + 1) b 48) (h3 : zz_ix z d 48) (f1 : ¬ zv_s1 w a b d x p < 0) (f2 : ¬ zv_s2 w a b d x p < 0) (f3 : ¬ zv_s3 w a b d x p < 0) : zz_M l zy_MO_changeOther zb_MO_changeOther 11 none 1 22 G [.ref (G.2.2 26), .int y, .int z, .int x, .int p] (zz_N G F w sz la lz ra fn fa cd) none (zz_N G F (zv_co w a b d x p) sz la lz ra fn fa cd) := by
  refine zz_M.of (by decide) (Nat.le_of_ble_eq_true rfl) ?_
  intro X hX h hr
  subst hX
  have h : zz_C X G (zz_A G.2.2) 11 zb_MO_changeOther "PortTranslatorModel" 1 22 0 0 := h
  refine zi_aload_n (pc := 0) h (i := 0) zd_MO_changeOther_0 rfl 0 rfl ?_
  refine zi_get (pc := 1) h zx_MO 26 0 zq_k26 rfl zq_j_0_18 zw_584 rfl zd_MO_changeOther_1 ?_
  refine zi_iload_n (pc := 4) h (i := 1) zd_MO_changeOther_4 rfl 1 rfl ?_
  refine zi_iald (pc := 5) h 27 zq_k27 rfl h1 zd_MO_changeOther_5 ?_
  refine zi_istore (pc := 6) h (i := 5) (L' := [(5, _), (0, _), (1, _), (2, _), (3, _), (4, _)]) zd_MO_changeOther_6 (by decide) rfl ?_
  refine zi_aload_n (pc := 8) h (i := 0) zd_MO_changeOther_8 rfl 1 rfl ?_
  refine zi_get (pc := 9) h zx_MO 26 0 zq_k26 rfl zq_j_0_18 zw_584 rfl zd_MO_changeOther_9 ?_
  refine zi_iload_n (pc := 12) h (i := 1) zd_MO_changeOther_12 rfl 2 rfl ?_
  refine zi_iconst (pc := 13) h zd_MO_changeOther_13 zq_ic_1 ?_
  refine zi_iadd (pc := 14) h zd_MO_changeOther_14 ?_
  refine zi_iald (pc := 15) h 27 zq_k27 rfl h2 zd_MO_changeOther_15 ?_
  refine zi_istore (pc := 16) h (i := 6) (L' := [(6, _), (5, _), (0, _), (1, _), (2, _), (3, _), (4, _)]) zd_MO_changeOther_16 (by decide) rfl ?_
  refine zi_aload_n (pc := 18) h (i := 0) zd_MO_changeOther_18 rfl 2 rfl ?_
  refine zi_get (pc := 19) h zx_MO 26 0 zq_k26 rfl zq_j_0_18 zw_584 rfl zd_MO_changeOther_19 ?_
  refine zi_iload_n (pc := 22) h (i := 2) zd_MO_changeOther_22 rfl 4 rfl ?_
  refine zi_iald (pc := 23) h 27 zq_k27 rfl h3 zd_MO_changeOther_23 ?_
  refine zi_istore (pc := 24) h (i := 7) (L' := [(7, _), (6, _), (5, _), (0, _), (1, _), (2, _), (3, _), (4, _)]) zd_MO_changeOther_24 (by decide) rfl ?_
  refine zi_aload_n (pc := 26) h (i := 0) zd_MO_changeOther_26 rfl 3 rfl ?_
  refine zi_iload_n (pc := 27) h (i := 1) zd_MO_changeOther_27 rfl 4 rfl ?_
  refine zi_iload_n (pc := 28) h (i := 3) zd_MO_changeOther_28 rfl 6 rfl ?_
  refine zi_callVv (pc := 29) h (st := []) (zc_MO_setAddress (a := a) (b := b) h1 h2) zm_MO_setAddress zw_729 zx_MO zq_k26 rfl ⟨by decide, by decide⟩ zd_MO_changeOther_29 (Nat.le_of_ble_eq_true rfl) rfl ?_
  refine zi_aload_n (pc := 32) h (i := 0) zd_MO_changeOther_32 rfl 3 rfl ?_
  refine zi_get (pc := 33) h zx_MO 26 0 zq_k26 rfl zq_j_0_18 zw_584 rfl zd_MO_changeOther_33 ?_
  refine zi_iload_n (pc := 36) h (i := 2) zd_MO_changeOther_36 rfl 5 rfl ?_
  refine zi_iload (pc := 37) h (i := 4) zd_MO_changeOther_37 7 rfl ?_
  refine zi_iast (pc := 39) h 27 zq_k27 rfl h3 zd_MO_changeOther_39 zn_u_w ?_
  refine zi_ldc (pc := 40) h zw_669 zd_MO_changeOther_40 ?_
  refine zi_aload_n (pc := 42) h (i := 0) zd_MO_changeOther_42 rfl 3 rfl ?_
  refine zi_get (pc := 43) h zx_MO 26 0 zq_k26 rfl zq_j_0_18 zw_584 rfl zd_MO_changeOther_43 ?_
  refine zi_bipush (pc := 46) h zd_MO_changeOther_46 zq_bi_19 ?_
  refine zi_iald (pc := 48) h 27 zq_k27 rfl zq_in_19_48 zd_MO_changeOther_48 ?_
  refine zi_isub (pc := 49) h zd_MO_changeOther_49 ?_
  refine zi_iload (pc := 50) h (i := 5) zd_MO_changeOther_50 2 rfl ?_
  refine zi_aload_n (pc := 52) h (i := 0) zd_MO_changeOther_52 rfl 3 rfl ?_
  refine zi_get (pc := 53) h zx_MO 26 0 zq_k26 rfl zq_j_0_18 zw_584 rfl zd_MO_changeOther_53 ?_
  refine zi_iload_n (pc := 56) h (i := 1) zd_MO_changeOther_56 rfl 4 rfl ?_
  refine zi_iald (pc := 57) h 27 zq_k27 rfl h1 zd_MO_changeOther_57 ?_
  refine zi_callS (pc := 58) h (st := []) (zc_MO_adjusted) zm_MO_adjusted zw_737 ⟨by decide, by decide⟩ zd_MO_changeOther_58 (Nat.le_of_ble_eq_true rfl) rfl ?_
  refine zi_iload (pc := 61) h (i := 6) zd_MO_changeOther_61 1 rfl ?_
  refine zi_aload_n (pc := 63) h (i := 0) zd_MO_changeOther_63 rfl 3 rfl ?_
  refine zi_get (pc := 64) h zx_MO 26 0 zq_k26 rfl zq_j_0_18 zw_584 rfl zd_MO_changeOther_64 ?_
  refine zi_iload_n (pc := 67) h (i := 1) zd_MO_changeOther_67 rfl 4 rfl ?_
  refine zi_iconst (pc := 68) h zd_MO_changeOther_68 zq_ic_1 ?_
  refine zi_iadd (pc := 69) h zd_MO_changeOther_69 ?_
  refine zi_iald (pc := 70) h 27 zq_k27 rfl h2 zd_MO_changeOther_70 ?_
  refine zi_callS (pc := 71) h (st := []) (zc_MO_adjusted) zm_MO_adjusted zw_737 ⟨by decide, by decide⟩ zd_MO_changeOther_71 (Nat.le_of_ble_eq_true rfl) rfl ?_
  refine zi_istore (pc := 74) h (i := 8) (L' := [(8, _), (7, _), (6, _), (5, _), (0, _), (1, _), (2, _), (3, _), (4, _)]) zd_MO_changeOther_74 (by decide) rfl ?_
  refine zi_aload_n (pc := 76) h (i := 0) zd_MO_changeOther_76 rfl 4 rfl ?_
  refine zi_get (pc := 77) h zx_MO 26 0 zq_k26 rfl zq_j_0_18 zw_584 rfl zd_MO_changeOther_77 ?_
  refine zi_bipush (pc := 80) h zd_MO_changeOther_80 zq_bi_19 ?_
  refine zi_ldc (pc := 82) h zw_669 zd_MO_changeOther_82 ?_
  refine zi_iload (pc := 84) h (i := 8) zd_MO_changeOther_84 0 rfl ?_
  refine zi_callS (pc := 86) h (st := [_, _, _]) (zc_MO_foldI f1) zm_MO_fold zw_666 ⟨by decide, by decide⟩ zd_MO_changeOther_86 (Nat.le_of_ble_eq_true rfl) rfl ?_
  refine zi_isub (pc := 89) h zd_MO_changeOther_89 ?_
  refine zi_iast (pc := 90) h 27 zq_k27 rfl zq_in_19_48 zd_MO_changeOther_90 zn_u_w ?_
  refine zi_aload_n (pc := 91) h (i := 0) zd_MO_changeOther_91 rfl 4 rfl ?_
  refine zi_get (pc := 92) h zx_MO 26 0 zq_k26 rfl zq_j_0_18 zw_584 rfl zd_MO_changeOther_92 ?_
  refine zi_bipush (pc := 95) h zd_MO_changeOther_95 zq_bi_18 ?_
  refine zi_iald (pc := 97) h 27 zq_k27 rfl zq_in_18_48 zd_MO_changeOther_97 ?_
  refine zi_sipush (pc := 98) h zd_MO_changeOther_98 zq_si_255 ?_
  refine zi_iand (pc := 101) h zd_MO_changeOther_101 ?_
  refine zi_istore (pc := 102) h (i := 9) (L' := [(9, _), (8, _), (7, _), (6, _), (5, _), (0, _), (1, _), (2, _), (3, _), (4, _)]) zd_MO_changeOther_102 (by decide) rfl ?_
  refine zi_iload (pc := 104) h (i := 9) zd_MO_changeOther_104 0 rfl ?_
  refine zi_bipush (pc := 106) h zd_MO_changeOther_106 zq_bi_17 ?_
  refine zi_icmp_ne (pc := 108) h (tgt := 182) zd_MO_changeOther_108 rfl ?_ ?_
  · intro b108
    refine zi_iload (pc := 182) h (i := 9) zd_MO_changeOther_182 0 rfl ?_
    refine zi_iconst (pc := 184) h zd_MO_changeOther_184 zq_ic_1 ?_
    refine zi_icmp_ne (pc := 185) h (tgt := 218) zd_MO_changeOther_185 rfl ?_ ?_
    · intro b185
      exact zi_vreturn (pc := 218) h hr zd_MO_changeOther_218 rfl (by unfold zv_co zv_c2 zv_c1; (try rw [if_neg b108]); (try rw [if_neg b185]); (try rfl))
    · intro b185
      refine zi_aload_n (pc := 188) h (i := 0) zd_MO_changeOther_188 rfl 5 rfl ?_
      refine zi_get (pc := 189) h zx_MO 26 0 zq_k26 rfl zq_j_0_18 zw_584 rfl zd_MO_changeOther_189 ?_
      refine zi_bipush (pc := 192) h zd_MO_changeOther_192 zq_bi_25 ?_
      refine zi_ldc (pc := 194) h zw_669 zd_MO_changeOther_194 ?_
      refine zi_ldc (pc := 196) h zw_669 zd_MO_changeOther_196 ?_
      refine zi_aload_n (pc := 198) h (i := 0) zd_MO_changeOther_198 rfl 5 rfl ?_
      refine zi_get (pc := 199) h zx_MO 26 0 zq_k26 rfl zq_j_0_18 zw_584 rfl zd_MO_changeOther_199 ?_
      refine zi_bipush (pc := 202) h zd_MO_changeOther_202 zq_bi_25 ?_
      refine zi_iald (pc := 204) h 27 zq_k27 rfl zq_in_25_48 zd_MO_changeOther_204 ?_
      refine zi_isub (pc := 205) h zd_MO_changeOther_205 ?_
      refine zi_iload (pc := 206) h (i := 7) zd_MO_changeOther_206 2 rfl ?_
      refine zi_iload (pc := 208) h (i := 4) zd_MO_changeOther_208 9 rfl ?_
      refine zi_callS (pc := 210) h (st := [_, _, _]) (zc_MO_adjusted) zm_MO_adjusted zw_737 ⟨by decide, by decide⟩ zd_MO_changeOther_210 (Nat.le_of_ble_eq_true rfl) rfl ?_
      refine zi_callS (pc := 213) h (st := [_, _, _]) (zc_MO_foldI f3) zm_MO_fold zw_666 ⟨by decide, by decide⟩ zd_MO_changeOther_213 (Nat.le_of_ble_eq_true rfl) rfl ?_
      refine zi_isub (pc := 216) h zd_MO_changeOther_216 ?_
      refine zi_iast (pc := 217) h 27 zq_k27 rfl zq_in_25_48 zd_MO_changeOther_217 zn_u_w ?_
      exact zi_vreturn (pc := 218) h hr zd_MO_changeOther_218 rfl (by unfold zv_co zv_c2 zv_c1; (try rw [if_neg b108]); (try rw [if_pos b185]); (try rfl))
  · intro b108
    refine zi_aload_n (pc := 111) h (i := 0) zd_MO_changeOther_111 rfl 5 rfl ?_
    refine zi_get (pc := 112) h zx_MO 26 0 zq_k26 rfl zq_j_0_18 zw_584 rfl zd_MO_changeOther_112 ?_
    refine zi_bipush (pc := 115) h zd_MO_changeOther_115 zq_bi_27 ?_
    refine zi_iald (pc := 117) h 27 zq_k27 rfl zq_in_27_48 zd_MO_changeOther_117 ?_
    refine zi_if_eq (pc := 118) h (tgt := 182) zd_MO_changeOther_118 rfl ?_ ?_
    · intro b118
      refine zi_iload (pc := 182) h (i := 9) zd_MO_changeOther_182 0 rfl ?_
      refine zi_iconst (pc := 184) h zd_MO_changeOther_184 zq_ic_1 ?_
      refine zi_icmp_ne (pc := 185) h (tgt := 218) zd_MO_changeOther_185 rfl ?_ ?_
      · intro b185
        exact zi_vreturn (pc := 218) h hr zd_MO_changeOther_218 rfl (by unfold zv_co zv_c2 zv_c1; (try rw [if_pos b108]); (try rw [if_pos b118]); (try rw [if_neg b185]); (try rfl))
      · intro b185
        refine zi_aload_n (pc := 188) h (i := 0) zd_MO_changeOther_188 rfl 5 rfl ?_
        refine zi_get (pc := 189) h zx_MO 26 0 zq_k26 rfl zq_j_0_18 zw_584 rfl zd_MO_changeOther_189 ?_
        refine zi_bipush (pc := 192) h zd_MO_changeOther_192 zq_bi_25 ?_
        refine zi_ldc (pc := 194) h zw_669 zd_MO_changeOther_194 ?_
        refine zi_ldc (pc := 196) h zw_669 zd_MO_changeOther_196 ?_
        refine zi_aload_n (pc := 198) h (i := 0) zd_MO_changeOther_198 rfl 5 rfl ?_
        refine zi_get (pc := 199) h zx_MO 26 0 zq_k26 rfl zq_j_0_18 zw_584 rfl zd_MO_changeOther_199 ?_
        refine zi_bipush (pc := 202) h zd_MO_changeOther_202 zq_bi_25 ?_
        refine zi_iald (pc := 204) h 27 zq_k27 rfl zq_in_25_48 zd_MO_changeOther_204 ?_
        refine zi_isub (pc := 205) h zd_MO_changeOther_205 ?_
        refine zi_iload (pc := 206) h (i := 7) zd_MO_changeOther_206 2 rfl ?_
        refine zi_iload (pc := 208) h (i := 4) zd_MO_changeOther_208 9 rfl ?_
        refine zi_callS (pc := 210) h (st := [_, _, _]) (zc_MO_adjusted) zm_MO_adjusted zw_737 ⟨by decide, by decide⟩ zd_MO_changeOther_210 (Nat.le_of_ble_eq_true rfl) rfl ?_
        refine zi_callS (pc := 213) h (st := [_, _, _]) (zc_MO_foldI f3) zm_MO_fold zw_666 ⟨by decide, by decide⟩ zd_MO_changeOther_213 (Nat.le_of_ble_eq_true rfl) rfl ?_
        refine zi_isub (pc := 216) h zd_MO_changeOther_216 ?_
        refine zi_iast (pc := 217) h 27 zq_k27 rfl zq_in_25_48 zd_MO_changeOther_217 zn_u_w ?_
        exact zi_vreturn (pc := 218) h hr zd_MO_changeOther_218 rfl (by unfold zv_co zv_c2 zv_c1; (try rw [if_pos b108]); (try rw [if_pos b118]); (try rw [if_pos b185]); (try rfl))
    · intro b118
      refine zi_ldc (pc := 121) h zw_669 zd_MO_changeOther_121 ?_
      refine zi_aload_n (pc := 123) h (i := 0) zd_MO_changeOther_123 rfl 5 rfl ?_
      refine zi_get (pc := 124) h zx_MO 26 0 zq_k26 rfl zq_j_0_18 zw_584 rfl zd_MO_changeOther_124 ?_
      refine zi_bipush (pc := 127) h zd_MO_changeOther_127 zq_bi_27 ?_
      refine zi_iald (pc := 129) h 27 zq_k27 rfl zq_in_27_48 zd_MO_changeOther_129 ?_
      refine zi_isub (pc := 130) h zd_MO_changeOther_130 ?_
      refine zi_iload (pc := 131) h (i := 5) zd_MO_changeOther_131 4 rfl ?_
      refine zi_aload_n (pc := 133) h (i := 0) zd_MO_changeOther_133 rfl 5 rfl ?_
      refine zi_get (pc := 134) h zx_MO 26 0 zq_k26 rfl zq_j_0_18 zw_584 rfl zd_MO_changeOther_134 ?_
      refine zi_iload_n (pc := 137) h (i := 1) zd_MO_changeOther_137 rfl 6 rfl ?_
      refine zi_iald (pc := 138) h 27 zq_k27 rfl h1 zd_MO_changeOther_138 ?_
      refine zi_callS (pc := 139) h (st := []) (zc_MO_adjusted) zm_MO_adjusted zw_737 ⟨by decide, by decide⟩ zd_MO_changeOther_139 (Nat.le_of_ble_eq_true rfl) rfl ?_
      refine zi_iload (pc := 142) h (i := 6) zd_MO_changeOther_142 3 rfl ?_
      refine zi_aload_n (pc := 144) h (i := 0) zd_MO_changeOther_144 rfl 5 rfl ?_
      refine zi_get (pc := 145) h zx_MO 26 0 zq_k26 rfl zq_j_0_18 zw_584 rfl zd_MO_changeOther_145 ?_
      refine zi_iload_n (pc := 148) h (i := 1) zd_MO_changeOther_148 rfl 6 rfl ?_
      refine zi_iconst (pc := 149) h zd_MO_changeOther_149 zq_ic_1 ?_
      refine zi_iadd (pc := 150) h zd_MO_changeOther_150 ?_
      refine zi_iald (pc := 151) h 27 zq_k27 rfl h2 zd_MO_changeOther_151 ?_
      refine zi_callS (pc := 152) h (st := []) (zc_MO_adjusted) zm_MO_adjusted zw_737 ⟨by decide, by decide⟩ zd_MO_changeOther_152 (Nat.le_of_ble_eq_true rfl) rfl ?_
      refine zi_iload (pc := 155) h (i := 7) zd_MO_changeOther_155 2 rfl ?_
      refine zi_iload (pc := 157) h (i := 4) zd_MO_changeOther_157 9 rfl ?_
      refine zi_callS (pc := 159) h (st := []) (zc_MO_adjusted) zm_MO_adjusted zw_737 ⟨by decide, by decide⟩ zd_MO_changeOther_159 (Nat.le_of_ble_eq_true rfl) rfl ?_
      refine zi_istore (pc := 162) h (i := 10) (L' := [(10, _), (9, _), (8, _), (7, _), (6, _), (5, _), (0, _), (1, _), (2, _), (3, _), (4, _)]) zd_MO_changeOther_162 (by decide) rfl ?_
      refine zi_aload_n (pc := 164) h (i := 0) zd_MO_changeOther_164 rfl 6 rfl ?_
      refine zi_get (pc := 165) h zx_MO 26 0 zq_k26 rfl zq_j_0_18 zw_584 rfl zd_MO_changeOther_165 ?_
      refine zi_bipush (pc := 168) h zd_MO_changeOther_168 zq_bi_27 ?_
      refine zi_ldc (pc := 170) h zw_669 zd_MO_changeOther_170 ?_
      refine zi_iload (pc := 172) h (i := 10) zd_MO_changeOther_172 0 rfl ?_
      refine zi_callS (pc := 174) h (st := [_, _, _]) (zc_MO_foldI f2) zm_MO_fold zw_666 ⟨by decide, by decide⟩ zd_MO_changeOther_174 (Nat.le_of_ble_eq_true rfl) rfl ?_
      refine zi_isub (pc := 177) h zd_MO_changeOther_177 ?_
      refine zi_iast (pc := 178) h 27 zq_k27 rfl zq_in_27_48 zd_MO_changeOther_178 zn_u_w ?_
      refine zi_goto (pc := 179) h (tgt := 218) zd_MO_changeOther_179 rfl ?_
      exact zi_vreturn (pc := 218) h hr zd_MO_changeOther_218 rfl (by unfold zv_co zv_c2 zv_c1; (try rw [if_pos b108]); (try rw [if_neg b118]); (try rfl))

set_option maxRecDepth 20000 in
theorem zc_MO_writeSums_6 {l : Launch} {G : zz_G} {F : Nat → va_E} {w : Nat → Int32} {la : Nat → Int32} {lz : Int32} {ra : Nat → Nat → Int32} {fn : Int32} {fa : Nat → Nat → Int32} {cd : Int32} {n : Nat} (h10 : 10 ≤ n) (hn : n ≤ 48) (f0 : ¬ zs_tot (upd w 5 0) 0 10 0 < 0) (f1 : ¬ zv_bt (upd (zv_hc w) 18 0) n 6 < 0) : zz_M l zy_MO_writeSums zb_MO_writeSums 4 none 2 46 G [.ref (G.2.2 26), .int 6] (zz_N G F w (nI n) la lz ra fn fa cd) none (zz_N G F (zv_ws w n 6) (nI n) la lz ra fn fa cd) := by
  refine zz_M.of (by decide) (Nat.le_of_ble_eq_true rfl) ?_
  intro X hX h hr
  subst hX
  have h : zz_C X G (zz_A G.2.2) 4 zb_MO_writeSums "PortTranslatorModel" 2 46 0 0 := h
  refine zi_aload_n (pc := 0) h (i := 0) zd_MO_writeSums_0 rfl 0 rfl ?_
  refine zi_get (pc := 1) h zx_MO 26 0 zq_k26 rfl zq_j_0_18 zw_584 rfl zd_MO_writeSums_1 ?_
  refine zi_iconst (pc := 4) h zd_MO_writeSums_4 zq_ic_5 ?_
  refine zi_iconst (pc := 5) h zd_MO_writeSums_5 zq_ic_0 ?_
  refine zi_iast (pc := 6) h 27 zq_k27 rfl zq_in_5_48 zd_MO_writeSums_6 zn_u_w ?_
  refine zi_aload_n (pc := 7) h (i := 0) zd_MO_writeSums_7 rfl 0 rfl ?_
  refine zi_get (pc := 8) h zx_MO 26 0 zq_k26 rfl zq_j_0_18 zw_584 rfl zd_MO_writeSums_8 ?_
  refine zi_iconst (pc := 11) h zd_MO_writeSums_11 zq_ic_5 ?_
  refine zi_ldc (pc := 12) h zw_669 zd_MO_writeSums_12 ?_
  refine zi_aload_n (pc := 14) h (i := 0) zd_MO_writeSums_14 rfl 0 rfl ?_
  refine zi_iconst (pc := 15) h zd_MO_writeSums_15 zq_ic_0 ?_
  refine zi_bipush (pc := 16) h zd_MO_writeSums_16 zq_bi_10 ?_
  refine zi_callV (pc := 18) h (st := [_, _, _]) (zc_MO_total (a := 0) (b := 10) (by decide) (by decide)) zm_MO_total zw_662 zx_MO zq_k26 rfl ⟨by decide, by decide⟩ zd_MO_writeSums_18 (Nat.le_of_ble_eq_true rfl) rfl ?_
  refine zi_callS (pc := 21) h (st := [_, _, _]) (zc_MO_foldI f0) zm_MO_fold zw_666 ⟨by decide, by decide⟩ zd_MO_writeSums_21 (Nat.le_of_ble_eq_true rfl) rfl ?_
  refine zi_isub (pc := 24) h zd_MO_writeSums_24 ?_
  refine zi_iast (pc := 25) h 27 zq_k27 rfl zq_in_5_48 zd_MO_writeSums_25 zn_u_w ?_
  refine zi_eqF (F' := (zz_N G F (zv_hc w) (nI n) la lz ra fn fa cd)) rfl ?_
  refine zi_iload_n (pc := 26) h (i := 1) zd_MO_writeSums_26 rfl 1 rfl ?_
  refine zi_bipush (pc := 27) h zd_MO_writeSums_27 zq_bi_6 ?_
  refine zi_icmp_ne_f (pc := 29) h (tgt := 37) zd_MO_writeSums_29 rfl (by decide) ?_
  refine zi_bipush (pc := 32) h zd_MO_writeSums_32 zq_bi_18 ?_
  refine zi_goto (pc := 34) h (tgt := 50) zd_MO_writeSums_34 rfl ?_
  refine zi_istore_n (pc := 50) h (i := 2) (L' := [(2, _), (0, _), (1, _)]) zd_MO_writeSums_50 rfl (by decide) rfl ?_
  refine zi_iload_n (pc := 51) h (i := 1) zd_MO_writeSums_51 rfl 2 rfl ?_
  refine zi_bipush (pc := 52) h zd_MO_writeSums_52 zq_bi_17 ?_
  refine zi_icmp_ne_t (pc := 54) h (tgt := 67) zd_MO_writeSums_54 rfl (by decide) ?_
  refine zi_aload_n (pc := 67) h (i := 0) zd_MO_writeSums_67 rfl 1 rfl ?_
  refine zi_get (pc := 68) h zx_MO 26 0 zq_k26 rfl zq_j_0_18 zw_584 rfl zd_MO_writeSums_68 ?_
  refine zi_iload_n (pc := 71) h (i := 2) zd_MO_writeSums_71 rfl 0 rfl ?_
  refine zi_iconst (pc := 72) h zd_MO_writeSums_72 zq_ic_0 ?_
  refine zi_iast (pc := 73) h 27 zq_k27 rfl zq_in_18_48 zd_MO_writeSums_73 zn_u_w ?_
  refine zi_ldc (pc := 74) h zw_669 zd_MO_writeSums_74 ?_
  refine zi_aload_n (pc := 76) h (i := 0) zd_MO_writeSums_76 rfl 1 rfl ?_
  refine zi_iload_n (pc := 77) h (i := 1) zd_MO_writeSums_77 rfl 2 rfl ?_
  refine zi_callV (pc := 78) h (st := [_]) (zc_MO_bodyTotal h10 hn) zm_MO_bodyTotal zw_678 zx_MO zq_k26 rfl ⟨by decide, by decide⟩ zd_MO_writeSums_78 (Nat.le_of_ble_eq_true rfl) rfl ?_
  refine zi_callS (pc := 81) h (st := [_]) (zc_MO_foldI f1) zm_MO_fold zw_666 ⟨by decide, by decide⟩ zd_MO_writeSums_81 (Nat.le_of_ble_eq_true rfl) rfl ?_
  refine zi_isub (pc := 84) h zd_MO_writeSums_84 ?_
  refine zi_istore_n (pc := 85) h (i := 3) (L' := [(3, _), (2, _), (0, _), (1, _)]) zd_MO_writeSums_85 rfl (by decide) rfl ?_
  refine zi_aload_n (pc := 86) h (i := 0) zd_MO_writeSums_86 rfl 2 rfl ?_
  refine zi_get (pc := 87) h zx_MO 26 0 zq_k26 rfl zq_j_0_18 zw_584 rfl zd_MO_writeSums_87 ?_
  refine zi_iload_n (pc := 90) h (i := 2) zd_MO_writeSums_90 rfl 1 rfl ?_
  refine zi_iload_n (pc := 91) h (i := 1) zd_MO_writeSums_91 rfl 3 rfl ?_
  refine zi_bipush (pc := 92) h zd_MO_writeSums_92 zq_bi_17 ?_
  refine zi_icmp_ne_t (pc := 94) h (tgt := 106) zd_MO_writeSums_94 rfl (by decide) ?_
  refine zi_iload_n (pc := 106) h (i := 3) zd_MO_writeSums_106 rfl 0 rfl ?_
  refine zi_iast (pc := 107) h 27 zq_k27 rfl zq_in_18_48 zd_MO_writeSums_107 zn_u_w ?_
  exact zi_vreturn (pc := 108) h hr zd_MO_writeSums_108 rfl rfl

set_option maxRecDepth 20000 in
theorem zc_MO_writeSums_1 {l : Launch} {G : zz_G} {F : Nat → va_E} {w : Nat → Int32} {la : Nat → Int32} {lz : Int32} {ra : Nat → Nat → Int32} {fn : Int32} {fa : Nat → Nat → Int32} {cd : Int32} {n : Nat} (h10 : 10 ≤ n) (hn : n ≤ 48) (f0 : ¬ zs_tot (upd w 5 0) 0 10 0 < 0) (f1 : ¬ zv_bt (upd (zv_hc w) 11 0) n 1 < 0) : zz_M l zy_MO_writeSums zb_MO_writeSums 4 none 2 46 G [.ref (G.2.2 26), .int 1] (zz_N G F w (nI n) la lz ra fn fa cd) none (zz_N G F (zv_ws w n 1) (nI n) la lz ra fn fa cd) := by
  refine zz_M.of (by decide) (Nat.le_of_ble_eq_true rfl) ?_
  intro X hX h hr
  subst hX
  have h : zz_C X G (zz_A G.2.2) 4 zb_MO_writeSums "PortTranslatorModel" 2 46 0 0 := h
  refine zi_aload_n (pc := 0) h (i := 0) zd_MO_writeSums_0 rfl 0 rfl ?_
  refine zi_get (pc := 1) h zx_MO 26 0 zq_k26 rfl zq_j_0_18 zw_584 rfl zd_MO_writeSums_1 ?_
  refine zi_iconst (pc := 4) h zd_MO_writeSums_4 zq_ic_5 ?_
  refine zi_iconst (pc := 5) h zd_MO_writeSums_5 zq_ic_0 ?_
  refine zi_iast (pc := 6) h 27 zq_k27 rfl zq_in_5_48 zd_MO_writeSums_6 zn_u_w ?_
  refine zi_aload_n (pc := 7) h (i := 0) zd_MO_writeSums_7 rfl 0 rfl ?_
  refine zi_get (pc := 8) h zx_MO 26 0 zq_k26 rfl zq_j_0_18 zw_584 rfl zd_MO_writeSums_8 ?_
  refine zi_iconst (pc := 11) h zd_MO_writeSums_11 zq_ic_5 ?_
  refine zi_ldc (pc := 12) h zw_669 zd_MO_writeSums_12 ?_
  refine zi_aload_n (pc := 14) h (i := 0) zd_MO_writeSums_14 rfl 0 rfl ?_
  refine zi_iconst (pc := 15) h zd_MO_writeSums_15 zq_ic_0 ?_
  refine zi_bipush (pc := 16) h zd_MO_writeSums_16 zq_bi_10 ?_
  refine zi_callV (pc := 18) h (st := [_, _, _]) (zc_MO_total (a := 0) (b := 10) (by decide) (by decide)) zm_MO_total zw_662 zx_MO zq_k26 rfl ⟨by decide, by decide⟩ zd_MO_writeSums_18 (Nat.le_of_ble_eq_true rfl) rfl ?_
  refine zi_callS (pc := 21) h (st := [_, _, _]) (zc_MO_foldI f0) zm_MO_fold zw_666 ⟨by decide, by decide⟩ zd_MO_writeSums_21 (Nat.le_of_ble_eq_true rfl) rfl ?_
  refine zi_isub (pc := 24) h zd_MO_writeSums_24 ?_
  refine zi_iast (pc := 25) h 27 zq_k27 rfl zq_in_5_48 zd_MO_writeSums_25 zn_u_w ?_
  refine zi_eqF (F' := (zz_N G F (zv_hc w) (nI n) la lz ra fn fa cd)) rfl ?_
  refine zi_iload_n (pc := 26) h (i := 1) zd_MO_writeSums_26 rfl 1 rfl ?_
  refine zi_bipush (pc := 27) h zd_MO_writeSums_27 zq_bi_6 ?_
  refine zi_icmp_ne_t (pc := 29) h (tgt := 37) zd_MO_writeSums_29 rfl (by decide) ?_
  refine zi_iload_n (pc := 37) h (i := 1) zd_MO_writeSums_37 rfl 1 rfl ?_
  refine zi_bipush (pc := 38) h zd_MO_writeSums_38 zq_bi_17 ?_
  refine zi_icmp_ne_t (pc := 40) h (tgt := 48) zd_MO_writeSums_40 rfl (by decide) ?_
  refine zi_bipush (pc := 48) h zd_MO_writeSums_48 zq_bi_11 ?_
  refine zi_istore_n (pc := 50) h (i := 2) (L' := [(2, _), (0, _), (1, _)]) zd_MO_writeSums_50 rfl (by decide) rfl ?_
  refine zi_iload_n (pc := 51) h (i := 1) zd_MO_writeSums_51 rfl 2 rfl ?_
  refine zi_bipush (pc := 52) h zd_MO_writeSums_52 zq_bi_17 ?_
  refine zi_icmp_ne_t (pc := 54) h (tgt := 67) zd_MO_writeSums_54 rfl (by decide) ?_
  refine zi_aload_n (pc := 67) h (i := 0) zd_MO_writeSums_67 rfl 1 rfl ?_
  refine zi_get (pc := 68) h zx_MO 26 0 zq_k26 rfl zq_j_0_18 zw_584 rfl zd_MO_writeSums_68 ?_
  refine zi_iload_n (pc := 71) h (i := 2) zd_MO_writeSums_71 rfl 0 rfl ?_
  refine zi_iconst (pc := 72) h zd_MO_writeSums_72 zq_ic_0 ?_
  refine zi_iast (pc := 73) h 27 zq_k27 rfl zq_in_11_48 zd_MO_writeSums_73 zn_u_w ?_
  refine zi_ldc (pc := 74) h zw_669 zd_MO_writeSums_74 ?_
  refine zi_aload_n (pc := 76) h (i := 0) zd_MO_writeSums_76 rfl 1 rfl ?_
  refine zi_iload_n (pc := 77) h (i := 1) zd_MO_writeSums_77 rfl 2 rfl ?_
  refine zi_callV (pc := 78) h (st := [_]) (zc_MO_bodyTotal h10 hn) zm_MO_bodyTotal zw_678 zx_MO zq_k26 rfl ⟨by decide, by decide⟩ zd_MO_writeSums_78 (Nat.le_of_ble_eq_true rfl) rfl ?_
  refine zi_callS (pc := 81) h (st := [_]) (zc_MO_foldI f1) zm_MO_fold zw_666 ⟨by decide, by decide⟩ zd_MO_writeSums_81 (Nat.le_of_ble_eq_true rfl) rfl ?_
  refine zi_isub (pc := 84) h zd_MO_writeSums_84 ?_
  refine zi_istore_n (pc := 85) h (i := 3) (L' := [(3, _), (2, _), (0, _), (1, _)]) zd_MO_writeSums_85 rfl (by decide) rfl ?_
  refine zi_aload_n (pc := 86) h (i := 0) zd_MO_writeSums_86 rfl 2 rfl ?_
  refine zi_get (pc := 87) h zx_MO 26 0 zq_k26 rfl zq_j_0_18 zw_584 rfl zd_MO_writeSums_87 ?_
  refine zi_iload_n (pc := 90) h (i := 2) zd_MO_writeSums_90 rfl 1 rfl ?_
  refine zi_iload_n (pc := 91) h (i := 1) zd_MO_writeSums_91 rfl 3 rfl ?_
  refine zi_bipush (pc := 92) h zd_MO_writeSums_92 zq_bi_17 ?_
  refine zi_icmp_ne_t (pc := 94) h (tgt := 106) zd_MO_writeSums_94 rfl (by decide) ?_
  refine zi_iload_n (pc := 106) h (i := 3) zd_MO_writeSums_106 rfl 0 rfl ?_
  refine zi_iast (pc := 107) h 27 zq_k27 rfl zq_in_11_48 zd_MO_writeSums_107 zn_u_w ?_
  exact zi_vreturn (pc := 108) h hr zd_MO_writeSums_108 rfl rfl

set_option maxRecDepth 20000 in
theorem zc_MO_writeSums_17 {l : Launch} {G : zz_G} {F : Nat → va_E} {w : Nat → Int32} {la : Nat → Int32} {lz : Int32} {ra : Nat → Nat → Int32} {fn : Int32} {fa : Nat → Nat → Int32} {cd : Int32} {n : Nat} (h10 : 10 ≤ n) (hn : n ≤ 48) (f0 : ¬ zs_tot (upd w 5 0) 0 10 0 < 0) (f1 : ¬ zv_bt (upd (zv_hc w) 13 0) n 17 < 0) : zz_M l zy_MO_writeSums zb_MO_writeSums 4 none 2 46 G [.ref (G.2.2 26), .int 17] (zz_N G F w (nI n) la lz ra fn fa cd) none (zz_N G F (zv_ws w n 17) (nI n) la lz ra fn fa cd) := by
  refine zz_M.of (by decide) (Nat.le_of_ble_eq_true rfl) ?_
  intro X hX h hr
  subst hX
  have h : zz_C X G (zz_A G.2.2) 4 zb_MO_writeSums "PortTranslatorModel" 2 46 0 0 := h
  refine zi_aload_n (pc := 0) h (i := 0) zd_MO_writeSums_0 rfl 0 rfl ?_
  refine zi_get (pc := 1) h zx_MO 26 0 zq_k26 rfl zq_j_0_18 zw_584 rfl zd_MO_writeSums_1 ?_
  refine zi_iconst (pc := 4) h zd_MO_writeSums_4 zq_ic_5 ?_
  refine zi_iconst (pc := 5) h zd_MO_writeSums_5 zq_ic_0 ?_
  refine zi_iast (pc := 6) h 27 zq_k27 rfl zq_in_5_48 zd_MO_writeSums_6 zn_u_w ?_
  refine zi_aload_n (pc := 7) h (i := 0) zd_MO_writeSums_7 rfl 0 rfl ?_
  refine zi_get (pc := 8) h zx_MO 26 0 zq_k26 rfl zq_j_0_18 zw_584 rfl zd_MO_writeSums_8 ?_
  refine zi_iconst (pc := 11) h zd_MO_writeSums_11 zq_ic_5 ?_
  refine zi_ldc (pc := 12) h zw_669 zd_MO_writeSums_12 ?_
  refine zi_aload_n (pc := 14) h (i := 0) zd_MO_writeSums_14 rfl 0 rfl ?_
  refine zi_iconst (pc := 15) h zd_MO_writeSums_15 zq_ic_0 ?_
  refine zi_bipush (pc := 16) h zd_MO_writeSums_16 zq_bi_10 ?_
  refine zi_callV (pc := 18) h (st := [_, _, _]) (zc_MO_total (a := 0) (b := 10) (by decide) (by decide)) zm_MO_total zw_662 zx_MO zq_k26 rfl ⟨by decide, by decide⟩ zd_MO_writeSums_18 (Nat.le_of_ble_eq_true rfl) rfl ?_
  refine zi_callS (pc := 21) h (st := [_, _, _]) (zc_MO_foldI f0) zm_MO_fold zw_666 ⟨by decide, by decide⟩ zd_MO_writeSums_21 (Nat.le_of_ble_eq_true rfl) rfl ?_
  refine zi_isub (pc := 24) h zd_MO_writeSums_24 ?_
  refine zi_iast (pc := 25) h 27 zq_k27 rfl zq_in_5_48 zd_MO_writeSums_25 zn_u_w ?_
  refine zi_eqF (F' := (zz_N G F (zv_hc w) (nI n) la lz ra fn fa cd)) rfl ?_
  refine zi_iload_n (pc := 26) h (i := 1) zd_MO_writeSums_26 rfl 1 rfl ?_
  refine zi_bipush (pc := 27) h zd_MO_writeSums_27 zq_bi_6 ?_
  refine zi_icmp_ne_t (pc := 29) h (tgt := 37) zd_MO_writeSums_29 rfl (by decide) ?_
  refine zi_iload_n (pc := 37) h (i := 1) zd_MO_writeSums_37 rfl 1 rfl ?_
  refine zi_bipush (pc := 38) h zd_MO_writeSums_38 zq_bi_17 ?_
  refine zi_icmp_ne_f (pc := 40) h (tgt := 48) zd_MO_writeSums_40 rfl (by decide) ?_
  refine zi_bipush (pc := 43) h zd_MO_writeSums_43 zq_bi_13 ?_
  refine zi_goto (pc := 45) h (tgt := 50) zd_MO_writeSums_45 rfl ?_
  refine zi_istore_n (pc := 50) h (i := 2) (L' := [(2, _), (0, _), (1, _)]) zd_MO_writeSums_50 rfl (by decide) rfl ?_
  refine zi_iload_n (pc := 51) h (i := 1) zd_MO_writeSums_51 rfl 2 rfl ?_
  refine zi_bipush (pc := 52) h zd_MO_writeSums_52 zq_bi_17 ?_
  refine zi_icmp_ne_f (pc := 54) h (tgt := 67) zd_MO_writeSums_54 rfl (by decide) ?_
  refine zi_aload_n (pc := 57) h (i := 0) zd_MO_writeSums_57 rfl 1 rfl ?_
  refine zi_get (pc := 58) h zx_MO 26 0 zq_k26 rfl zq_j_0_18 zw_584 rfl zd_MO_writeSums_58 ?_
  refine zi_iload_n (pc := 61) h (i := 2) zd_MO_writeSums_61 rfl 0 rfl ?_
  refine zi_iald (pc := 62) h 27 zq_k27 rfl zq_in_13_48 zd_MO_writeSums_62 ?_
  refine zi_if_ne (pc := 63) h (tgt := 67) zd_MO_writeSums_63 rfl ?_ ?_
  · intro b63
    refine zi_aload_n (pc := 67) h (i := 0) zd_MO_writeSums_67 rfl 1 rfl ?_
    refine zi_get (pc := 68) h zx_MO 26 0 zq_k26 rfl zq_j_0_18 zw_584 rfl zd_MO_writeSums_68 ?_
    refine zi_iload_n (pc := 71) h (i := 2) zd_MO_writeSums_71 rfl 0 rfl ?_
    refine zi_iconst (pc := 72) h zd_MO_writeSums_72 zq_ic_0 ?_
    refine zi_iast (pc := 73) h 27 zq_k27 rfl zq_in_13_48 zd_MO_writeSums_73 zn_u_w ?_
    refine zi_ldc (pc := 74) h zw_669 zd_MO_writeSums_74 ?_
    refine zi_aload_n (pc := 76) h (i := 0) zd_MO_writeSums_76 rfl 1 rfl ?_
    refine zi_iload_n (pc := 77) h (i := 1) zd_MO_writeSums_77 rfl 2 rfl ?_
    refine zi_callV (pc := 78) h (st := [_]) (zc_MO_bodyTotal h10 hn) zm_MO_bodyTotal zw_678 zx_MO zq_k26 rfl ⟨by decide, by decide⟩ zd_MO_writeSums_78 (Nat.le_of_ble_eq_true rfl) rfl ?_
    refine zi_callS (pc := 81) h (st := [_]) (zc_MO_foldI f1) zm_MO_fold zw_666 ⟨by decide, by decide⟩ zd_MO_writeSums_81 (Nat.le_of_ble_eq_true rfl) rfl ?_
    refine zi_isub (pc := 84) h zd_MO_writeSums_84 ?_
    refine zi_istore_n (pc := 85) h (i := 3) (L' := [(3, _), (2, _), (0, _), (1, _)]) zd_MO_writeSums_85 rfl (by decide) rfl ?_
    refine zi_aload_n (pc := 86) h (i := 0) zd_MO_writeSums_86 rfl 2 rfl ?_
    refine zi_get (pc := 87) h zx_MO 26 0 zq_k26 rfl zq_j_0_18 zw_584 rfl zd_MO_writeSums_87 ?_
    refine zi_iload_n (pc := 90) h (i := 2) zd_MO_writeSums_90 rfl 1 rfl ?_
    refine zi_iload_n (pc := 91) h (i := 1) zd_MO_writeSums_91 rfl 3 rfl ?_
    refine zi_bipush (pc := 92) h zd_MO_writeSums_92 zq_bi_17 ?_
    refine zi_icmp_ne_f (pc := 94) h (tgt := 106) zd_MO_writeSums_94 rfl (by decide) ?_
    refine zi_iload_n (pc := 97) h (i := 3) zd_MO_writeSums_97 rfl 0 rfl ?_
    refine zi_if_ne (pc := 98) h (tgt := 106) zd_MO_writeSums_98 rfl ?_ ?_
    · intro b98
      refine zi_iload_n (pc := 106) h (i := 3) zd_MO_writeSums_106 rfl 0 rfl ?_
      refine zi_iast (pc := 107) h 27 zq_k27 rfl zq_in_13_48 zd_MO_writeSums_107 zn_u_w ?_
      exact zi_vreturn (pc := 108) h hr zd_MO_writeSums_108 rfl (by unfold zv_ws; rw [if_neg (show ¬ (17 : Int32) = 6 by decide), if_pos (rfl : (17 : Int32) = 17)]; unfold zv_bs; (try rw [if_neg b63]); (try rw [if_neg b98]); (try rfl))
    · intro b98
      refine zi_ldc (pc := 101) h zw_669 zd_MO_writeSums_101 ?_
      refine zi_goto (pc := 103) h (tgt := 107) zd_MO_writeSums_103 rfl ?_
      refine zi_iast (pc := 107) h 27 zq_k27 rfl zq_in_13_48 zd_MO_writeSums_107 zn_u_w ?_
      exact zi_vreturn (pc := 108) h hr zd_MO_writeSums_108 rfl (by unfold zv_ws; rw [if_neg (show ¬ (17 : Int32) = 6 by decide), if_pos (rfl : (17 : Int32) = 17)]; unfold zv_bs; (try rw [if_neg b63]); (try rw [if_pos b98]); (try rfl))
  · intro b63
    exact zi_vreturn (pc := 66) h hr zd_MO_writeSums_66 rfl (by unfold zv_ws; rw [if_neg (show ¬ (17 : Int32) = 6 by decide), if_pos (rfl : (17 : Int32) = 17)]; unfold zv_bs; (try rw [if_pos b63]); (try rfl))
