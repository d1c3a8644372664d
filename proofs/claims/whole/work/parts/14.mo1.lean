def zv_isk (k : Int32) : Int32 := if k = 6 then 1 else if k = 17 then 1 else if k = 1 then 1 else 0
def zv_err (w : Nat → Int32) : Int32 := if w 4 &&& 255 = 1 then (if w 10 / 256 = 3 then 1 else if w 10 / 256 = 11 then 1 else 0) else 0
def zv_fold (m : Nat) : Nat := if m ≤ 65535 then m else zv_fold (m % 65536 + m / 65536)
termination_by m
decreasing_by omega
def zv_bt (w : Nat → Int32) (n : Nat) (k : Int32) : Int32 := if k = 1 then zs_tot w 10 (n - 10) 0 else zs_tot w 10 (n - 10) 0 + zs_tot w 6 4 0 + k + 2 * (nI n - 10)
def zv_ins (a : Int32) : Int32 := if a < 167772160 then 0 else if 167772415 < a then 0 else 1
def zv_out (a : Int32) : Int32 := if zv_ins a = 0 then (if a = -969710591 then 0 else 1) else 0
def zv_adj (s x y : Int32) : Int32 := s + 65535 - x + y
def zv_lif (k f : Int32) : Int32 := if k = 1 then 6 else if k = 17 then 30 else if f &&& 1 = 1 then (if f = 7 then 12 else 100) else 12
def zv_rc (rk : Nat → Int32) : Nat → Nat → Int32 → Int32
  | _, 0, acc => acc
  | i, n + 1, acc => if rk i < 0 then zv_rc rk (i + 1) n acc else zv_rc rk (i + 1) n (acc + 1)

set_option maxRecDepth 20000 in
theorem zc_MO_isKind {l : Launch} {G : zz_G} {F : Nat → va_E} {k : Int32} : zz_M l zy_MO_isKind zb_MO_isKind 1 (some .boolean) 0 0 G [.int k] F (some (.int (zv_isk k))) F := by
  refine zz_M.of (by decide) (Nat.le_of_ble_eq_true rfl) ?_
  intro X hX h hr
  subst hX
  have h : zz_C X G (zz_A G.2.2) 1 zb_MO_isKind "PortTranslatorModel" 0 0 0 0 := h
  refine zi_iload_n (pc := 0) h (i := 0) zd_MO_isKind_0 rfl 0 rfl ?_
  refine zi_bipush (pc := 1) h zd_MO_isKind_1 zq_bi_6 ?_
  refine zi_icmp_eq (pc := 3) h (tgt := 17) zd_MO_isKind_3 rfl ?_ ?_
  · intro b3
    refine zi_iconst (pc := 17) h zd_MO_isKind_17 zq_ic_1 ?_
    refine zi_goto (pc := 18) h (tgt := 22) zd_MO_isKind_18 rfl ?_
    exact zi_zreturn (pc := 22) h hr rfl zd_MO_isKind_22 (by rw [zv_isk, if_pos b3]) rfl
  · intro b3
    refine zi_iload_n (pc := 6) h (i := 0) zd_MO_isKind_6 rfl 0 rfl ?_
    refine zi_bipush (pc := 7) h zd_MO_isKind_7 zq_bi_17 ?_
    refine zi_icmp_eq (pc := 9) h (tgt := 17) zd_MO_isKind_9 rfl ?_ ?_
    · intro b9
      refine zi_iconst (pc := 17) h zd_MO_isKind_17 zq_ic_1 ?_
      refine zi_goto (pc := 18) h (tgt := 22) zd_MO_isKind_18 rfl ?_
      exact zi_zreturn (pc := 22) h hr rfl zd_MO_isKind_22 (by rw [zv_isk, if_neg b3, if_pos b9]) rfl
    · intro b9
      refine zi_iload_n (pc := 12) h (i := 0) zd_MO_isKind_12 rfl 0 rfl ?_
      refine zi_iconst (pc := 13) h zd_MO_isKind_13 zq_ic_1 ?_
      refine zi_icmp_ne (pc := 14) h (tgt := 21) zd_MO_isKind_14 rfl ?_ ?_
      · intro b14
        refine zi_iconst (pc := 21) h zd_MO_isKind_21 zq_ic_0 ?_
        exact zi_zreturn (pc := 22) h hr rfl zd_MO_isKind_22 (by rw [zv_isk, if_neg b3, if_neg b9, if_neg b14]) rfl
      · intro b14
        refine zi_iconst (pc := 17) h zd_MO_isKind_17 zq_ic_1 ?_
        refine zi_goto (pc := 18) h (tgt := 22) zd_MO_isKind_18 rfl ?_
        exact zi_zreturn (pc := 22) h hr rfl zd_MO_isKind_22 (by rw [zv_isk, if_neg b3, if_neg b9, if_pos b14]) rfl

set_option maxRecDepth 20000 in
theorem zc_MO_isInside {l : Launch} {G : zz_G} {F : Nat → va_E} {a : Int32} : zz_M l zy_MO_isInside zb_MO_isInside 1 (some .boolean) 0 0 G [.int a] F (some (.int (zv_ins a))) F := by
  refine zz_M.of (by decide) (Nat.le_of_ble_eq_true rfl) ?_
  intro X hX h hr
  subst hX
  have h : zz_C X G (zz_A G.2.2) 1 zb_MO_isInside "PortTranslatorModel" 0 0 0 0 := h
  refine zi_iload_n (pc := 0) h (i := 0) zd_MO_isInside_0 rfl 0 rfl ?_
  refine zi_ldc (pc := 1) h zw_697 zd_MO_isInside_1 ?_
  refine zi_icmp_lt (pc := 3) h (tgt := 16) zd_MO_isInside_3 rfl ?_ ?_
  · intro b3
    refine zi_iconst (pc := 16) h zd_MO_isInside_16 zq_ic_0 ?_
    exact zi_zreturn (pc := 17) h hr rfl zd_MO_isInside_17 (by rw [zv_ins, if_pos b3]) rfl
  · intro b3
    refine zi_iload_n (pc := 6) h (i := 0) zd_MO_isInside_6 rfl 0 rfl ?_
    refine zi_ldc (pc := 7) h zw_698 zd_MO_isInside_7 ?_
    refine zi_icmp_gt (pc := 9) h (tgt := 16) zd_MO_isInside_9 rfl ?_ ?_
    · intro b9
      refine zi_iconst (pc := 16) h zd_MO_isInside_16 zq_ic_0 ?_
      exact zi_zreturn (pc := 17) h hr rfl zd_MO_isInside_17 (by rw [zv_ins, if_neg b3, if_pos b9]) rfl
    · intro b9
      refine zi_iconst (pc := 12) h zd_MO_isInside_12 zq_ic_1 ?_
      refine zi_goto (pc := 13) h (tgt := 17) zd_MO_isInside_13 rfl ?_
      exact zi_zreturn (pc := 17) h hr rfl zd_MO_isInside_17 (by rw [zv_ins, if_neg b3, if_neg b9]) rfl

set_option maxRecDepth 20000 in
theorem zc_MO_isOutside {l : Launch} {G : zz_G} {F : Nat → va_E} {a : Int32} : zz_M l zy_MO_isOutside zb_MO_isOutside 1 (some .boolean) 1 20 G [.int a] F (some (.int (zv_out a))) F := by
  refine zz_M.of (by decide) (Nat.le_of_ble_eq_true rfl) ?_
  intro X hX h hr
  subst hX
  have h : zz_C X G (zz_A G.2.2) 1 zb_MO_isOutside "PortTranslatorModel" 1 20 0 0 := h
  refine zi_iload_n (pc := 0) h (i := 0) zd_MO_isOutside_0 rfl 0 rfl ?_
  refine zi_callS (pc := 1) h (st := []) (zc_MO_isInside) zm_MO_isInside zw_694 ⟨by decide, by decide⟩ zd_MO_isOutside_1 (Nat.le_of_ble_eq_true rfl) rfl ?_
  refine zi_if_ne (pc := 4) h (tgt := 17) zd_MO_isOutside_4 rfl ?_ ?_
  · intro b4
    refine zi_iconst (pc := 17) h zd_MO_isOutside_17 zq_ic_0 ?_
    exact zi_zreturn (pc := 18) h hr rfl zd_MO_isOutside_18 (by rw [zv_out, if_neg b4]) rfl
  · intro b4
    refine zi_iload_n (pc := 7) h (i := 0) zd_MO_isOutside_7 rfl 0 rfl ?_
    refine zi_ldc (pc := 8) h zw_702 zd_MO_isOutside_8 ?_
    refine zi_icmp_eq (pc := 10) h (tgt := 17) zd_MO_isOutside_10 rfl ?_ ?_
    · intro b10
      refine zi_iconst (pc := 17) h zd_MO_isOutside_17 zq_ic_0 ?_
      exact zi_zreturn (pc := 18) h hr rfl zd_MO_isOutside_18 (by rw [zv_out, if_pos b4, if_pos b10]) rfl
    · intro b10
      refine zi_iconst (pc := 13) h zd_MO_isOutside_13 zq_ic_1 ?_
      refine zi_goto (pc := 14) h (tgt := 18) zd_MO_isOutside_14 rfl ?_
      exact zi_zreturn (pc := 18) h hr rfl zd_MO_isOutside_18 (by rw [zv_out, if_pos b4, if_neg b10]) rfl

set_option maxRecDepth 20000 in
theorem zc_PT_isInside {l : Launch} {G : zz_G} {F : Nat → va_E} {a : Int32} : zz_M l zy_PT_isInside zb_PT_isInside 1 (some .boolean) 0 0 G [.int a] F (some (.int (zv_ins a))) F := by
  refine zz_M.of (by decide) (Nat.le_of_ble_eq_true rfl) ?_
  intro X hX h hr
  subst hX
  have h : zz_C X G (zz_A G.2.2) 1 zb_PT_isInside "PortTranslator" 0 0 0 0 := h
  refine zi_iload_n (pc := 0) h (i := 0) zd_PT_isInside_0 rfl 0 rfl ?_
  refine zi_ldc (pc := 1) h zw_285 zd_PT_isInside_1 ?_
  refine zi_icmp_lt (pc := 3) h (tgt := 16) zd_PT_isInside_3 rfl ?_ ?_
  · intro b3
    refine zi_iconst (pc := 16) h zd_PT_isInside_16 zq_ic_0 ?_
    exact zi_zreturn (pc := 17) h hr rfl zd_PT_isInside_17 (by rw [zv_ins, if_pos b3]) rfl
  · intro b3
    refine zi_iload_n (pc := 6) h (i := 0) zd_PT_isInside_6 rfl 0 rfl ?_
    refine zi_ldc (pc := 7) h zw_286 zd_PT_isInside_7 ?_
    refine zi_icmp_gt (pc := 9) h (tgt := 16) zd_PT_isInside_9 rfl ?_ ?_
    · intro b9
      refine zi_iconst (pc := 16) h zd_PT_isInside_16 zq_ic_0 ?_
      exact zi_zreturn (pc := 17) h hr rfl zd_PT_isInside_17 (by rw [zv_ins, if_neg b3, if_pos b9]) rfl
    · intro b9
      refine zi_iconst (pc := 12) h zd_PT_isInside_12 zq_ic_1 ?_
      refine zi_goto (pc := 13) h (tgt := 17) zd_PT_isInside_13 rfl ?_
      exact zi_zreturn (pc := 17) h hr rfl zd_PT_isInside_17 (by rw [zv_ins, if_neg b3, if_neg b9]) rfl

set_option maxRecDepth 20000 in
theorem zc_PT_isOutside {l : Launch} {G : zz_G} {F : Nat → va_E} {a : Int32} : zz_M l zy_PT_isOutside zb_PT_isOutside 1 (some .boolean) 1 20 G [.int a] F (some (.int (zv_out a))) F := by
  refine zz_M.of (by decide) (Nat.le_of_ble_eq_true rfl) ?_
  intro X hX h hr
  subst hX
  have h : zz_C X G (zz_A G.2.2) 1 zb_PT_isOutside "PortTranslator" 1 20 0 0 := h
  refine zi_iload_n (pc := 0) h (i := 0) zd_PT_isOutside_0 rfl 0 rfl ?_
  refine zi_callS (pc := 1) h (st := []) (zc_PT_isInside) zm_PT_isInside zw_282 ⟨by decide, by decide⟩ zd_PT_isOutside_1 (Nat.le_of_ble_eq_true rfl) rfl ?_
  refine zi_if_ne (pc := 4) h (tgt := 17) zd_PT_isOutside_4 rfl ?_ ?_
  · intro b4
    refine zi_iconst (pc := 17) h zd_PT_isOutside_17 zq_ic_0 ?_
    exact zi_zreturn (pc := 18) h hr rfl zd_PT_isOutside_18 (by rw [zv_out, if_neg b4]) rfl
  · intro b4
    refine zi_iload_n (pc := 7) h (i := 0) zd_PT_isOutside_7 rfl 0 rfl ?_
    refine zi_ldc (pc := 8) h zw_290 zd_PT_isOutside_8 ?_
    refine zi_icmp_eq (pc := 10) h (tgt := 17) zd_PT_isOutside_10 rfl ?_ ?_
    · intro b10
      refine zi_iconst (pc := 17) h zd_PT_isOutside_17 zq_ic_0 ?_
      exact zi_zreturn (pc := 18) h hr rfl zd_PT_isOutside_18 (by rw [zv_out, if_pos b4, if_pos b10]) rfl
    · intro b10
      refine zi_iconst (pc := 13) h zd_PT_isOutside_13 zq_ic_1 ?_
      refine zi_goto (pc := 14) h (tgt := 18) zd_PT_isOutside_14 rfl ?_
      exact zi_zreturn (pc := 18) h hr rfl zd_PT_isOutside_18 (by rw [zv_out, if_pos b4, if_neg b10]) rfl

set_option maxRecDepth 20000 in
theorem zc_MO_adjusted {l : Launch} {G : zz_G} {F : Nat → va_E} {s x y : Int32} : zz_M l zy_MO_adjusted zb_MO_adjusted 3 (some .int) 0 0 G [.int s, .int x, .int y] F (some (.int (zv_adj s x y))) F := by
  refine zz_M.of (by decide) (Nat.le_of_ble_eq_true rfl) ?_
  intro X hX h hr
  subst hX
  have h : zz_C X G (zz_A G.2.2) 3 zb_MO_adjusted "PortTranslatorModel" 0 0 0 0 := h
  refine zi_iload_n (pc := 0) h (i := 0) zd_MO_adjusted_0 rfl 0 rfl ?_
  refine zi_ldc (pc := 1) h zw_669 zd_MO_adjusted_1 ?_
  refine zi_iadd (pc := 3) h zd_MO_adjusted_3 ?_
  refine zi_iload_n (pc := 4) h (i := 1) zd_MO_adjusted_4 rfl 1 rfl ?_
  refine zi_isub (pc := 5) h zd_MO_adjusted_5 ?_
  refine zi_iload_n (pc := 6) h (i := 2) zd_MO_adjusted_6 rfl 2 rfl ?_
  refine zi_iadd (pc := 7) h zd_MO_adjusted_7 ?_
  exact zi_ireturn (pc := 8) h hr zd_MO_adjusted_8 rfl rfl

set_option maxRecDepth 20000 in
theorem zl_MO_fold {X : zz_X} {r : Option Value} {F F' : Nat → va_E} {G : zz_G} {x : Int32} (h : zz_C X G (zz_A G.2.2) 2 zb_MO_fold "PortTranslatorModel" 0 0 0 0) (hr : X.2.2.2.2.2.2.2.2.1.sig.returnType = (some .int)) : ∀ (b m : Nat), m ≤ b → m < 2 ^ 31 → r = some (.int (nI (zv_fold m))) → F = F' → zz_W X G (zz_A G.2.2) 2 0 0 (zz_E X G r F') F 2 [(1, .int (nI m)), (0, .int x)] [] := by
  intro b
  induction b with
  | zero =>
    intro m hm h31 he hF
    rw [zv_fold, if_pos (by omega)] at he
    refine zi_iload_n (pc := 2) h (i := 1) zd_MO_fold_2 rfl 0 rfl ?_
    refine zi_ldc (pc := 3) h zw_669 zd_MO_fold_3 ?_
    refine zi_icmp_le_t (pc := 5) h (tgt := 21) zd_MO_fold_5 rfl (nI_le (b := 65535) (by omega) (by decide)) ?_
    refine zi_iload_n (pc := 21) h (i := 1) zd_MO_fold_21 rfl 0 rfl ?_
    exact zi_ireturn (pc := 22) h hr zd_MO_fold_22 he.symm hF
  | succ b ih =>
    intro m hm h31 he hF
    by_cases hs : m ≤ 65535
    · rw [zv_fold, if_pos hs] at he
      refine zi_iload_n (pc := 2) h (i := 1) zd_MO_fold_2 rfl 0 rfl ?_
      refine zi_ldc (pc := 3) h zw_669 zd_MO_fold_3 ?_
      refine zi_icmp_le_t (pc := 5) h (tgt := 21) zd_MO_fold_5 rfl (nI_le (b := 65535) (by omega) (by decide)) ?_
      refine zi_iload_n (pc := 21) h (i := 1) zd_MO_fold_21 rfl 0 rfl ?_
      exact zi_ireturn (pc := 22) h hr zd_MO_fold_22 he.symm hF
    · rw [zv_fold, if_neg hs] at he
      refine zi_iload_n (pc := 2) h (i := 1) zd_MO_fold_2 rfl 0 rfl ?_
      refine zi_ldc (pc := 3) h zw_669 zd_MO_fold_3 ?_
      refine zi_icmp_le_f (pc := 5) h (tgt := 21) zd_MO_fold_5 rfl (nI_ge (a := 65535) (by omega) h31) ?_
      refine zi_iload_n (pc := 8) h (i := 1) zd_MO_fold_8 rfl 0 rfl ?_
      refine zi_ldc (pc := 9) h zw_670 zd_MO_fold_9 ?_
      refine zi_irem (pc := 11) h zd_MO_fold_11 (by decide) ?_
      refine zi_topv (nI (m % 65536)) (pk_rem (d := 65536) h31 (by decide) (by decide)) ?_
      refine zi_iload_n (pc := 12) h (i := 1) zd_MO_fold_12 rfl 0 rfl ?_
      refine zi_ldc (pc := 13) h zw_670 zd_MO_fold_13 ?_
      refine zi_idiv (pc := 15) h zd_MO_fold_15 (by decide) ?_
      refine zi_topv (nI (m / 65536)) (pk_div (d := 65536) h31 (by decide) (by decide)) ?_
      refine zi_iadd (pc := 16) h zd_MO_fold_16 ?_
      refine zi_topv (nI (m % 65536 + m / 65536)) (nI_add _ _) ?_
      refine zi_istore_n (pc := 17) h (i := 1) (L' := [(1, _), (0, _)]) zd_MO_fold_17 rfl (by decide) rfl ?_
      refine zi_goto (pc := 18) h (tgt := 2) zd_MO_fold_18 rfl ?_
      exact ih _ (by omega) (by omega) he hF

set_option maxRecDepth 20000 in
theorem zc_MO_fold {l : Launch} {G : zz_G} {F : Nat → va_E} {m : Nat} (h31 : m < 2 ^ 31) : zz_M l zy_MO_fold zb_MO_fold 2 (some .int) 0 0 G [.int (nI m)] F (some (.int (nI (zv_fold m)))) F := by
  refine zz_M.of (by decide) (Nat.le_of_ble_eq_true rfl) ?_
  intro X hX h hr
  subst hX
  have h : zz_C X G (zz_A G.2.2) 2 zb_MO_fold "PortTranslatorModel" 0 0 0 0 := h
  refine zi_iload_n (pc := 0) h (i := 0) zd_MO_fold_0 rfl 0 rfl ?_
  refine zi_istore_n (pc := 1) h (i := 1) (L' := [(1, _), (0, _)]) zd_MO_fold_1 rfl (by decide) rfl ?_
  exact zl_MO_fold h hr m m (Nat.le_refl _) h31 rfl rfl

set_option maxRecDepth 20000 in
theorem zl_MO_total {X : zz_X} {r : Option Value} {F' : Nat → va_E} {G : zz_G} {F : Nat → va_E} {w : Nat → Int32} {sz : Int32} {la : Nat → Int32} {lz : Int32} {ra : Nat → Nat → Int32} {fn : Int32} {fa : Nat → Nat → Int32} {cd : Int32} {a b : Nat} (hb : b ≤ 48) (h : zz_C X G (zz_A G.2.2) 5 zb_MO_total "PortTranslatorModel" 0 0 0 0) (hr : X.2.2.2.2.2.2.2.2.1.sig.returnType = (some .int)) : ∀ (n i : Nat) (acc : Int32), i + n = b → r = some (.int (zs_tot w i n acc)) → (zz_N G F w sz la lz ra fn fa cd) = F' → zz_W X G (zz_A G.2.2) 5 0 0 (zz_E X G r F') (zz_N G F w sz la lz ra fn fa cd) 5 [(4, .int (nI i)), (3, .int acc), (0, .ref (G.2.2 26)), (1, .int (nI a)), (2, .int (nI b))] [] := by
  intro n
  induction n with
  | zero =>
    intro i acc hi he hF
    refine zi_iload (pc := 5) h (i := 4) zd_MO_total_5 0 rfl ?_
    refine zi_iload_n (pc := 7) h (i := 2) zd_MO_total_7 rfl 4 rfl ?_
    refine zi_icmp_ge_t (pc := 8) h (tgt := 27) zd_MO_total_8 rfl (nI_le (by omega) (by omega)) ?_
    refine zi_iload_n (pc := 27) h (i := 3) zd_MO_total_27 rfl 1 rfl ?_
    exact zi_ireturn (pc := 28) h hr zd_MO_total_28 he.symm hF
  | succ n ih =>
    intro i acc hi he hF
    refine zi_iload (pc := 5) h (i := 4) zd_MO_total_5 0 rfl ?_
    refine zi_iload_n (pc := 7) h (i := 2) zd_MO_total_7 rfl 4 rfl ?_
    refine zi_icmp_ge_f (pc := 8) h (tgt := 27) zd_MO_total_8 rfl (nI_ge (by omega) (by omega)) ?_
    refine zi_iload_n (pc := 11) h (i := 3) zd_MO_total_11 rfl 1 rfl ?_
    refine zi_aload_n (pc := 12) h (i := 0) zd_MO_total_12 rfl 2 rfl ?_
    refine zi_get (pc := 13) h zx_MO 26 0 zq_k26 rfl zq_j_0_18 zw_584 rfl zd_MO_total_13 ?_
    refine zi_iload (pc := 16) h (i := 4) zd_MO_total_16 0 rfl ?_
    refine zi_iald (pc := 18) h 27 zq_k27 rfl (zz_ixN (by omega)) zd_MO_total_18 ?_
    refine zi_iadd (pc := 19) h zd_MO_total_19 ?_
    refine zi_istore_n (pc := 20) h (i := 3) (L' := [(3, _), (4, _), (0, _), (1, _), (2, _)]) zd_MO_total_20 rfl (by decide) rfl ?_
    refine zi_iinc (pc := 21) h (i := 4) (L' := [(4, _), (3, _), (0, _), (1, _), (2, _)]) zd_MO_total_21 1 rfl (zq_incN i) (by decide) rfl ?_
    refine zi_goto (pc := 24) h (tgt := 5) zd_MO_total_24 rfl ?_
    exact ih (i + 1) _ (by omega) he hF

set_option maxRecDepth 20000 in
theorem zc_MO_total {l : Launch} {G : zz_G} {F : Nat → va_E} {w : Nat → Int32} {sz : Int32} {la : Nat → Int32} {lz : Int32} {ra : Nat → Nat → Int32} {fn : Int32} {fa : Nat → Nat → Int32} {cd : Int32} {a b : Nat} (ha : a ≤ b) (hb : b ≤ 48) : zz_M l zy_MO_total zb_MO_total 5 (some .int) 0 0 G [.ref (G.2.2 26), .int (nI a), .int (nI b)] (zz_N G F w sz la lz ra fn fa cd) (some (.int (zs_tot w a (b - a) 0))) (zz_N G F w sz la lz ra fn fa cd) := by
  refine zz_M.of (by decide) (Nat.le_of_ble_eq_true rfl) ?_
  intro X hX h hr
  subst hX
  have h : zz_C X G (zz_A G.2.2) 5 zb_MO_total "PortTranslatorModel" 0 0 0 0 := h
  refine zi_iconst (pc := 0) h zd_MO_total_0 zq_ic_0 ?_
  refine zi_istore_n (pc := 1) h (i := 3) (L' := [(3, _), (0, _), (1, _), (2, _)]) zd_MO_total_1 rfl (by decide) rfl ?_
  refine zi_iload_n (pc := 2) h (i := 1) zd_MO_total_2 rfl 2 rfl ?_
  refine zi_istore (pc := 3) h (i := 4) (L' := [(4, _), (3, _), (0, _), (1, _), (2, _)]) zd_MO_total_3 (by decide) rfl ?_
  exact zl_MO_total hb h hr (b - a) a 0 (by omega) rfl rfl

set_option maxRecDepth 20000 in
theorem zc_MO_bodyTotal {l : Launch} {G : zz_G} {F : Nat → va_E} {w : Nat → Int32} {la : Nat → Int32} {lz : Int32} {ra : Nat → Nat → Int32} {fn : Int32} {fa : Nat → Nat → Int32} {cd : Int32} {n : Nat} {k : Int32} (h10 : 10 ≤ n) (hn : n ≤ 48) : zz_M l zy_MO_bodyTotal zb_MO_bodyTotal 3 (some .int) 1 24 G [.ref (G.2.2 26), .int k] (zz_N G F w (nI n) la lz ra fn fa cd) (some (.int (zv_bt w n k))) (zz_N G F w (nI n) la lz ra fn fa cd) := by
  refine zz_M.of (by decide) (Nat.le_of_ble_eq_true rfl) ?_
  intro X hX h hr
  subst hX
  have h : zz_C X G (zz_A G.2.2) 3 zb_MO_bodyTotal "PortTranslatorModel" 1 24 0 0 := h
  refine zi_aload_n (pc := 0) h (i := 0) zd_MO_bodyTotal_0 rfl 0 rfl ?_
  refine zi_bipush (pc := 1) h zd_MO_bodyTotal_1 zq_bi_10 ?_
  refine zi_aload_n (pc := 3) h (i := 0) zd_MO_bodyTotal_3 rfl 0 rfl ?_
  refine zi_get (pc := 4) h zx_MO 26 1 zq_k26 rfl zq_j_1_18 zw_585 rfl zd_MO_bodyTotal_4 ?_
  refine zi_callV (pc := 7) h (st := []) (zc_MO_total (a := 10) (b := n) h10 hn) zm_MO_total zw_662 zx_MO zq_k26 rfl ⟨by decide, by decide⟩ zd_MO_bodyTotal_7 (Nat.le_of_ble_eq_true rfl) rfl ?_
  refine zi_istore_n (pc := 10) h (i := 2) (L' := [(2, _), (0, _), (1, _)]) zd_MO_bodyTotal_10 rfl (by decide) rfl ?_
  refine zi_iload_n (pc := 11) h (i := 1) zd_MO_bodyTotal_11 rfl 2 rfl ?_
  refine zi_iconst (pc := 12) h zd_MO_bodyTotal_12 zq_ic_1 ?_
  refine zi_icmp_ne (pc := 13) h (tgt := 20) zd_MO_bodyTotal_13 rfl ?_ ?_
  · intro b13
    refine zi_iload_n (pc := 20) h (i := 2) zd_MO_bodyTotal_20 rfl 0 rfl ?_
    refine zi_aload_n (pc := 21) h (i := 0) zd_MO_bodyTotal_21 rfl 1 rfl ?_
    refine zi_bipush (pc := 22) h zd_MO_bodyTotal_22 zq_bi_6 ?_
    refine zi_bipush (pc := 24) h zd_MO_bodyTotal_24 zq_bi_10 ?_
    refine zi_callV (pc := 26) h (st := [_]) (zc_MO_total (a := 6) (b := 10) (by decide) (by decide)) zm_MO_total zw_662 zx_MO zq_k26 rfl ⟨by decide, by decide⟩ zd_MO_bodyTotal_26 (Nat.le_of_ble_eq_true rfl) rfl ?_
    refine zi_iadd (pc := 29) h zd_MO_bodyTotal_29 ?_
    refine zi_iload_n (pc := 30) h (i := 1) zd_MO_bodyTotal_30 rfl 2 rfl ?_
    refine zi_iadd (pc := 31) h zd_MO_bodyTotal_31 ?_
    refine zi_iconst (pc := 32) h zd_MO_bodyTotal_32 zq_ic_2 ?_
    refine zi_aload_n (pc := 33) h (i := 0) zd_MO_bodyTotal_33 rfl 1 rfl ?_
    refine zi_get (pc := 34) h zx_MO 26 1 zq_k26 rfl zq_j_1_18 zw_585 rfl zd_MO_bodyTotal_34 ?_
    refine zi_bipush (pc := 37) h zd_MO_bodyTotal_37 zq_bi_10 ?_
    refine zi_isub (pc := 39) h zd_MO_bodyTotal_39 ?_
    refine zi_imul (pc := 40) h zd_MO_bodyTotal_40 ?_
    refine zi_iadd (pc := 41) h zd_MO_bodyTotal_41 ?_
    exact zi_ireturn (pc := 42) h hr zd_MO_bodyTotal_42 (by rw [zv_bt, if_neg b13]) rfl
  · intro b13
    refine zi_iload_n (pc := 16) h (i := 2) zd_MO_bodyTotal_16 rfl 0 rfl ?_
    refine zi_goto (pc := 17) h (tgt := 42) zd_MO_bodyTotal_17 rfl ?_
    exact zi_ireturn (pc := 42) h hr zd_MO_bodyTotal_42 (by rw [zv_bt, if_pos b13]) rfl

set_option maxRecDepth 20000 in
theorem zc_MO_isError {l : Launch} {G : zz_G} {F : Nat → va_E} {w : Nat → Int32} {sz : Int32} {la : Nat → Int32} {lz : Int32} {ra : Nat → Nat → Int32} {fn : Int32} {fa : Nat → Nat → Int32} {cd : Int32} : zz_M l zy_MO_isError zb_MO_isError 1 (some .boolean) 0 0 G [.ref (G.2.2 26)] (zz_N G F w sz la lz ra fn fa cd) (some (.int (zv_err w))) (zz_N G F w sz la lz ra fn fa cd) := by
  refine zz_M.of (by decide) (Nat.le_of_ble_eq_true rfl) ?_
  intro X hX h hr
  subst hX
  have h : zz_C X G (zz_A G.2.2) 1 zb_MO_isError "PortTranslatorModel" 0 0 0 0 := h
  refine zi_aload_n (pc := 0) h (i := 0) zd_MO_isError_0 rfl 0 rfl ?_
  refine zi_get (pc := 1) h zx_MO 26 0 zq_k26 rfl zq_j_0_18 zw_584 rfl zd_MO_isError_1 ?_
  refine zi_iconst (pc := 4) h zd_MO_isError_4 zq_ic_4 ?_
  refine zi_iald (pc := 5) h 27 zq_k27 rfl zq_in_4_48 zd_MO_isError_5 ?_
  refine zi_sipush (pc := 6) h zd_MO_isError_6 zq_si_255 ?_
  refine zi_iand (pc := 9) h zd_MO_isError_9 ?_
  refine zi_iconst (pc := 10) h zd_MO_isError_10 zq_ic_1 ?_
  refine zi_icmp_ne (pc := 11) h (tgt := 49) zd_MO_isError_11 rfl ?_ ?_
  · intro b11
    refine zi_iconst (pc := 49) h zd_MO_isError_49 zq_ic_0 ?_
    exact zi_zreturn (pc := 50) h hr rfl zd_MO_isError_50 (by rw [zv_err, if_neg b11]) rfl
  · intro b11
    refine zi_aload_n (pc := 14) h (i := 0) zd_MO_isError_14 rfl 0 rfl ?_
    refine zi_get (pc := 15) h zx_MO 26 0 zq_k26 rfl zq_j_0_18 zw_584 rfl zd_MO_isError_15 ?_
    refine zi_bipush (pc := 18) h zd_MO_isError_18 zq_bi_10 ?_
    refine zi_iald (pc := 20) h 27 zq_k27 rfl zq_in_10_48 zd_MO_isError_20 ?_
    refine zi_sipush (pc := 21) h zd_MO_isError_21 zq_si_256 ?_
    refine zi_idiv (pc := 24) h zd_MO_isError_24 (by decide) ?_
    refine zi_iconst (pc := 25) h zd_MO_isError_25 zq_ic_3 ?_
    refine zi_icmp_eq (pc := 26) h (tgt := 45) zd_MO_isError_26 rfl ?_ ?_
    · intro b26
      refine zi_iconst (pc := 45) h zd_MO_isError_45 zq_ic_1 ?_
      refine zi_goto (pc := 46) h (tgt := 50) zd_MO_isError_46 rfl ?_
      exact zi_zreturn (pc := 50) h hr rfl zd_MO_isError_50 (by rw [zv_err, if_pos b11, if_pos b26]) rfl
    · intro b26
      refine zi_aload_n (pc := 29) h (i := 0) zd_MO_isError_29 rfl 0 rfl ?_
      refine zi_get (pc := 30) h zx_MO 26 0 zq_k26 rfl zq_j_0_18 zw_584 rfl zd_MO_isError_30 ?_
      refine zi_bipush (pc := 33) h zd_MO_isError_33 zq_bi_10 ?_
      refine zi_iald (pc := 35) h 27 zq_k27 rfl zq_in_10_48 zd_MO_isError_35 ?_
      refine zi_sipush (pc := 36) h zd_MO_isError_36 zq_si_256 ?_
      refine zi_idiv (pc := 39) h zd_MO_isError_39 (by decide) ?_
      refine zi_bipush (pc := 40) h zd_MO_isError_40 zq_bi_11 ?_
      refine zi_icmp_ne (pc := 42) h (tgt := 49) zd_MO_isError_42 rfl ?_ ?_
      · intro b42
        refine zi_iconst (pc := 49) h zd_MO_isError_49 zq_ic_0 ?_
        exact zi_zreturn (pc := 50) h hr rfl zd_MO_isError_50 (by rw [zv_err, if_pos b11, if_neg b26, if_neg b42]) rfl
      · intro b42
        refine zi_iconst (pc := 45) h zd_MO_isError_45 zq_ic_1 ?_
        refine zi_goto (pc := 46) h (tgt := 50) zd_MO_isError_46 rfl ?_
        exact zi_zreturn (pc := 50) h hr rfl zd_MO_isError_50 (by rw [zv_err, if_pos b11, if_neg b26, if_pos b42]) rfl

set_option maxRecDepth 20000 in
theorem zc_MO_address {l : Launch} {G : zz_G} {F : Nat → va_E} {w : Nat → Int32} {sz : Int32} {la : Nat → Int32} {lz : Int32} {ra : Nat → Nat → Int32} {fn : Int32} {fa : Nat → Nat → Int32} {cd : Int32} {i : Int32} {a b : Nat} (h1 : zz_ix i a 48) (h2 : zz_ix (i + 1) b 48) : zz_M l zy_MO_address zb_MO_address 2 (some .int) 0 0 G [.ref (G.2.2 26), .int i] (zz_N G F w sz la lz ra fn fa cd) (some (.int (zs_adr w a b))) (zz_N G F w sz la lz ra fn fa cd) := by
  refine zz_M.of (by decide) (Nat.le_of_ble_eq_true rfl) ?_
  intro X hX h hr
  subst hX
  have h : zz_C X G (zz_A G.2.2) 2 zb_MO_address "PortTranslatorModel" 0 0 0 0 := h
  refine zi_aload_n (pc := 0) h (i := 0) zd_MO_address_0 rfl 0 rfl ?_
  refine zi_get (pc := 1) h zx_MO 26 0 zq_k26 rfl zq_j_0_18 zw_584 rfl zd_MO_address_1 ?_
  refine zi_iload_n (pc := 4) h (i := 1) zd_MO_address_4 rfl 1 rfl ?_
  refine zi_iald (pc := 5) h 27 zq_k27 rfl h1 zd_MO_address_5 ?_
  refine zi_bipush (pc := 6) h zd_MO_address_6 zq_bi_16 ?_
  refine zi_ishl (pc := 8) h zd_MO_address_8 ?_
  refine zi_aload_n (pc := 9) h (i := 0) zd_MO_address_9 rfl 0 rfl ?_
  refine zi_get (pc := 10) h zx_MO 26 0 zq_k26 rfl zq_j_0_18 zw_584 rfl zd_MO_address_10 ?_
  refine zi_iload_n (pc := 13) h (i := 1) zd_MO_address_13 rfl 1 rfl ?_
  refine zi_iconst (pc := 14) h zd_MO_address_14 zq_ic_1 ?_
  refine zi_iadd (pc := 15) h zd_MO_address_15 ?_
  refine zi_iald (pc := 16) h 27 zq_k27 rfl h2 zd_MO_address_16 ?_
  refine zi_ior (pc := 17) h zd_MO_address_17 ?_
  exact zi_ireturn (pc := 18) h hr zd_MO_address_18 rfl rfl

set_option maxRecDepth 20000 in
theorem zc_MO_setAddress {l : Launch} {G : zz_G} {F : Nat → va_E} {w : Nat → Int32} {sz : Int32} {la : Nat → Int32} {lz : Int32} {ra : Nat → Nat → Int32} {fn : Int32} {fa : Nat → Nat → Int32} {cd : Int32} {i x : Int32} {a b : Nat} (h1 : zz_ix i a 48) (h2 : zz_ix (i + 1) b 48) : zz_M l zy_MO_setAddress zb_MO_setAddress 3 none 0 0 G [.ref (G.2.2 26), .int i, .int x] (zz_N G F w sz la lz ra fn fa cd) none (zz_N G F (zs_set w a b x) sz la lz ra fn fa cd) := by
  refine zz_M.of (by decide) (Nat.le_of_ble_eq_true rfl) ?_
  intro X hX h hr
  subst hX
  have h : zz_C X G (zz_A G.2.2) 3 zb_MO_setAddress "PortTranslatorModel" 0 0 0 0 := h
  refine zi_aload_n (pc := 0) h (i := 0) zd_MO_setAddress_0 rfl 0 rfl ?_
  refine zi_get (pc := 1) h zx_MO 26 0 zq_k26 rfl zq_j_0_18 zw_584 rfl zd_MO_setAddress_1 ?_
  refine zi_iload_n (pc := 4) h (i := 1) zd_MO_setAddress_4 rfl 1 rfl ?_
  refine zi_iload_n (pc := 5) h (i := 2) zd_MO_setAddress_5 rfl 2 rfl ?_
  refine zi_bipush (pc := 6) h zd_MO_setAddress_6 zq_bi_16 ?_
  refine zi_iushr (pc := 8) h zd_MO_setAddress_8 rfl ?_
  refine zi_iast (pc := 9) h 27 zq_k27 rfl h1 zd_MO_setAddress_9 zn_u_w ?_
  refine zi_aload_n (pc := 10) h (i := 0) zd_MO_setAddress_10 rfl 0 rfl ?_
  refine zi_get (pc := 11) h zx_MO 26 0 zq_k26 rfl zq_j_0_18 zw_584 rfl zd_MO_setAddress_11 ?_
  refine zi_iload_n (pc := 14) h (i := 1) zd_MO_setAddress_14 rfl 1 rfl ?_
  refine zi_iconst (pc := 15) h zd_MO_setAddress_15 zq_ic_1 ?_
  refine zi_iadd (pc := 16) h zd_MO_setAddress_16 ?_
  refine zi_iload_n (pc := 17) h (i := 2) zd_MO_setAddress_17 rfl 2 rfl ?_
  refine zi_ldc (pc := 18) h zw_669 zd_MO_setAddress_18 ?_
  refine zi_iand (pc := 20) h zd_MO_setAddress_20 ?_
  refine zi_iast (pc := 21) h 27 zq_k27 rfl h2 zd_MO_setAddress_21 zn_u_w ?_
  exact zi_vreturn (pc := 22) h hr zd_MO_setAddress_22 rfl rfl

set_option maxRecDepth 20000 in
theorem zc_MO_thrown {l : Launch} {G : zz_G} {F : Nat → va_E} {w : Nat → Int32} {sz : Int32} {la : Nat → Int32} {lz : Int32} {ra : Nat → Nat → Int32} {fn : Int32} {fa : Nat → Nat → Int32} {cd : Int32} : zz_M l zy_MO_thrown zb_MO_thrown 1 (some .int) 0 0 G [.ref (G.2.2 26)] (zz_N G F w sz la lz ra fn fa cd) (some (.int cd)) (zz_N G F w sz la lz ra fn fa cd) := by
  refine zz_M.of (by decide) (Nat.le_of_ble_eq_true rfl) ?_
  intro X hX h hr
  subst hX
  have h : zz_C X G (zz_A G.2.2) 1 zb_MO_thrown "PortTranslatorModel" 0 0 0 0 := h
  refine zi_aload_n (pc := 0) h (i := 0) zd_MO_thrown_0 rfl 0 rfl ?_
  refine zi_get (pc := 1) h zx_MO 26 17 zq_k26 rfl zq_j_17_18 zw_601 rfl zd_MO_thrown_1 ?_
  exact zi_ireturn (pc := 4) h hr zd_MO_thrown_4 rfl rfl

set_option maxRecDepth 20000 in
theorem zc_MO_scrap {l : Launch} {G : zz_G} {F : Nat → va_E} {w : Nat → Int32} {sz : Int32} {la : Nat → Int32} {lz : Int32} {ra : Nat → Nat → Int32} {fn : Int32} {fa : Nat → Nat → Int32} {cd : Int32} : zz_M l zy_MO_scrap zb_MO_scrap 1 none 0 0 G [.ref (G.2.2 26)] (zz_N G F w sz la lz ra fn fa cd) none (zz_N G F w 0 la lz ra fn fa 0) := by
  refine zz_M.of (by decide) (Nat.le_of_ble_eq_true rfl) ?_
  intro X hX h hr
  subst hX
  have h : zz_C X G (zz_A G.2.2) 1 zb_MO_scrap "PortTranslatorModel" 0 0 0 0 := h
  refine zi_aload_n (pc := 0) h (i := 0) zd_MO_scrap_0 rfl 0 rfl ?_
  refine zi_iconst (pc := 1) h zd_MO_scrap_1 zq_ic_0 ?_
  refine zi_put (pc := 2) h zx_MO 26 17 zq_k26 rfl zq_j_17_18 zw_601 rfl rfl rfl (Nat.le_of_ble_eq_true rfl) zd_MO_scrap_2 zn_u_cd ?_
  refine zi_aload_n (pc := 5) h (i := 0) zd_MO_scrap_5 rfl 0 rfl ?_
  refine zi_iconst (pc := 6) h zd_MO_scrap_6 zq_ic_0 ?_
  refine zi_put (pc := 7) h zx_MO 26 1 zq_k26 rfl zq_j_1_18 zw_585 rfl rfl rfl (Nat.le_of_ble_eq_true rfl) zd_MO_scrap_7 zn_u_sz ?_
  exact zi_vreturn (pc := 10) h hr zd_MO_scrap_10 rfl rfl

set_option maxRecDepth 20000 in
theorem zc_MO_length {l : Launch} {G : zz_G} {F : Nat → va_E} {w : Nat → Int32} {sz : Int32} {la : Nat → Int32} {lz : Int32} {ra : Nat → Nat → Int32} {fn : Int32} {fa : Nat → Nat → Int32} {cd : Int32} : zz_M l zy_MO_length zb_MO_length 1 (some .int) 0 0 G [.ref (G.2.2 26)] (zz_N G F w sz la lz ra fn fa cd) (some (.int lz)) (zz_N G F w sz la lz ra fn fa 0) := by
  refine zz_M.of (by decide) (Nat.le_of_ble_eq_true rfl) ?_
  intro X hX h hr
  subst hX
  have h : zz_C X G (zz_A G.2.2) 1 zb_MO_length "PortTranslatorModel" 0 0 0 0 := h
  refine zi_aload_n (pc := 0) h (i := 0) zd_MO_length_0 rfl 0 rfl ?_
  refine zi_iconst (pc := 1) h zd_MO_length_1 zq_ic_0 ?_
  refine zi_put (pc := 2) h zx_MO 26 17 zq_k26 rfl zq_j_17_18 zw_601 rfl rfl rfl (Nat.le_of_ble_eq_true rfl) zd_MO_length_2 zn_u_cd ?_
  refine zi_aload_n (pc := 5) h (i := 0) zd_MO_length_5 rfl 0 rfl ?_
  refine zi_get (pc := 6) h zx_MO 26 3 zq_k26 rfl zq_j_3_18 zw_587 rfl zd_MO_length_6 ?_
  exact zi_ireturn (pc := 9) h hr zd_MO_length_9 rfl rfl

set_option maxRecDepth 20000 in
theorem zc_MO_flows {l : Launch} {G : zz_G} {F : Nat → va_E} {w : Nat → Int32} {sz : Int32} {la : Nat → Int32} {lz : Int32} {ra : Nat → Nat → Int32} {fn : Int32} {fa : Nat → Nat → Int32} {cd : Int32} : zz_M l zy_MO_flows zb_MO_flows 1 (some .int) 0 0 G [.ref (G.2.2 26)] (zz_N G F w sz la lz ra fn fa cd) (some (.int fn)) (zz_N G F w sz la lz ra fn fa 0) := by
  refine zz_M.of (by decide) (Nat.le_of_ble_eq_true rfl) ?_
  intro X hX h hr
  subst hX
  have h : zz_C X G (zz_A G.2.2) 1 zb_MO_flows "PortTranslatorModel" 0 0 0 0 := h
  refine zi_aload_n (pc := 0) h (i := 0) zd_MO_flows_0 rfl 0 rfl ?_
  refine zi_iconst (pc := 1) h zd_MO_flows_1 zq_ic_0 ?_
  refine zi_put (pc := 2) h zx_MO 26 17 zq_k26 rfl zq_j_17_18 zw_601 rfl rfl rfl (Nat.le_of_ble_eq_true rfl) zd_MO_flows_2 zn_u_cd ?_
  refine zi_aload_n (pc := 5) h (i := 0) zd_MO_flows_5 rfl 0 rfl ?_
  refine zi_get (pc := 6) h zx_MO 26 8 zq_k26 rfl zq_j_8_18 zw_592 rfl zd_MO_flows_6 ?_
  exact zi_ireturn (pc := 9) h hr zd_MO_flows_9 rfl rfl

set_option maxRecDepth 20000 in
theorem zc_MO_life {l : Launch} {G : zz_G} {F : Nat → va_E} {w : Nat → Int32} {sz : Int32} {la : Nat → Int32} {lz : Int32} {ra : Nat → Nat → Int32} {fn : Int32} {fa : Nat → Nat → Int32} {cd : Int32} {i : Int32} {a : Nat} (h1 : zz_ix i a 12) : zz_M l zy_MO_life zb_MO_life 2 (some .int) 0 0 G [.ref (G.2.2 26), .int i] (zz_N G F w sz la lz ra fn fa cd) (some (.int (zv_lif (fa 0 a) (fa 7 a)))) (zz_N G F w sz la lz ra fn fa cd) := by
  refine zz_M.of (by decide) (Nat.le_of_ble_eq_true rfl) ?_
  intro X hX h hr
  subst hX
  have h : zz_C X G (zz_A G.2.2) 2 zb_MO_life "PortTranslatorModel" 0 0 0 0 := h
  refine zi_aload_n (pc := 0) h (i := 0) zd_MO_life_0 rfl 0 rfl ?_
  refine zi_get (pc := 1) h zx_MO 26 9 zq_k26 rfl zq_j_9_18 zw_593 rfl zd_MO_life_1 ?_
  refine zi_iload_n (pc := 4) h (i := 1) zd_MO_life_4 rfl 1 rfl ?_
  refine zi_iald (pc := 5) h 33 zq_k33 rfl h1 zd_MO_life_5 ?_
  refine zi_iconst (pc := 6) h zd_MO_life_6 zq_ic_1 ?_
  refine zi_icmp_ne (pc := 7) h (tgt := 13) zd_MO_life_7 rfl ?_ ?_
  · intro b7
    refine zi_aload_n (pc := 13) h (i := 0) zd_MO_life_13 rfl 0 rfl ?_
    refine zi_get (pc := 14) h zx_MO 26 9 zq_k26 rfl zq_j_9_18 zw_593 rfl zd_MO_life_14 ?_
    refine zi_iload_n (pc := 17) h (i := 1) zd_MO_life_17 rfl 1 rfl ?_
    refine zi_iald (pc := 18) h 33 zq_k33 rfl h1 zd_MO_life_18 ?_
    refine zi_bipush (pc := 19) h zd_MO_life_19 zq_bi_17 ?_
    refine zi_icmp_ne (pc := 21) h (tgt := 27) zd_MO_life_21 rfl ?_ ?_
    · intro b21
      refine zi_aload_n (pc := 27) h (i := 0) zd_MO_life_27 rfl 0 rfl ?_
      refine zi_get (pc := 28) h zx_MO 26 16 zq_k26 rfl zq_j_16_18 zw_600 rfl zd_MO_life_28 ?_
      refine zi_iload_n (pc := 31) h (i := 1) zd_MO_life_31 rfl 1 rfl ?_
      refine zi_iald (pc := 32) h 40 zq_k40 rfl h1 zd_MO_life_32 ?_
      refine zi_iconst (pc := 33) h zd_MO_life_33 zq_ic_1 ?_
      refine zi_iand (pc := 34) h zd_MO_life_34 ?_
      refine zi_iconst (pc := 35) h zd_MO_life_35 zq_ic_1 ?_
      refine zi_icmp_ne (pc := 36) h (tgt := 55) zd_MO_life_36 rfl ?_ ?_
      · intro b36
        refine zi_bipush (pc := 55) h zd_MO_life_55 zq_bi_12 ?_
        exact zi_ireturn (pc := 57) h hr zd_MO_life_57 (by rw [zv_lif, if_neg b7, if_neg b21, if_neg b36]) rfl
      · intro b36
        refine zi_aload_n (pc := 39) h (i := 0) zd_MO_life_39 rfl 0 rfl ?_
        refine zi_get (pc := 40) h zx_MO 26 16 zq_k26 rfl zq_j_16_18 zw_600 rfl zd_MO_life_40 ?_
        refine zi_iload_n (pc := 43) h (i := 1) zd_MO_life_43 rfl 1 rfl ?_
        refine zi_iald (pc := 44) h 40 zq_k40 rfl h1 zd_MO_life_44 ?_
        refine zi_bipush (pc := 45) h zd_MO_life_45 zq_bi_7 ?_
        refine zi_icmp_eq (pc := 47) h (tgt := 55) zd_MO_life_47 rfl ?_ ?_
        · intro b47
          refine zi_bipush (pc := 55) h zd_MO_life_55 zq_bi_12 ?_
          exact zi_ireturn (pc := 57) h hr zd_MO_life_57 (by rw [zv_lif, if_neg b7, if_neg b21, if_pos b36, if_pos b47]) rfl
        · intro b47
          refine zi_bipush (pc := 50) h zd_MO_life_50 zq_bi_100 ?_
          refine zi_goto (pc := 52) h (tgt := 57) zd_MO_life_52 rfl ?_
          exact zi_ireturn (pc := 57) h hr zd_MO_life_57 (by rw [zv_lif, if_neg b7, if_neg b21, if_pos b36, if_neg b47]) rfl
    · intro b21
      refine zi_bipush (pc := 24) h zd_MO_life_24 zq_bi_30 ?_
      exact zi_ireturn (pc := 26) h hr zd_MO_life_26 (by rw [zv_lif, if_neg b7, if_pos b21]) rfl
  · intro b7
    refine zi_bipush (pc := 10) h zd_MO_life_10 zq_bi_6 ?_
    exact zi_ireturn (pc := 12) h hr zd_MO_life_12 (by rw [zv_lif, if_pos b7]) rfl

set_option maxRecDepth 20000 in
theorem zl_MO_rules {X : zz_X} {r : Option Value} {F' : Nat → va_E} {G : zz_G} {F : Nat → va_E} {w : Nat → Int32} {sz : Int32} {la : Nat → Int32} {lz : Int32} {ra : Nat → Nat → Int32} {fn : Int32} {fa : Nat → Nat → Int32} {cd : Int32}  (h : zz_C X G (zz_A G.2.2) 3 zb_MO_rules "PortTranslatorModel" 0 0 0 0) (hr : X.2.2.2.2.2.2.2.2.1.sig.returnType = (some .int)) : ∀ (n i : Nat) (acc : Int32), i + n = 4 → r = some (.int (zv_rc (ra 0) i n acc)) → (zz_N G F w sz la lz ra fn fa cd) = F' → zz_W X G (zz_A G.2.2) 3 0 0 (zz_E X G r F') (zz_N G F w sz la lz ra fn fa cd) 4 [(2, .int (nI i)), (1, .int acc), (0, .ref (G.2.2 26))] [] := by
  intro n
  induction n with
  | zero =>
    intro i acc hi he hF
    refine zi_iload_n (pc := 4) h (i := 2) zd_MO_rules_4 rfl 0 rfl ?_
    refine zi_iconst (pc := 5) h zd_MO_rules_5 zq_ic_4 ?_
    refine zi_icmp_ge_t (pc := 6) h (tgt := 32) zd_MO_rules_6 rfl (nI_le (a := 4) (by omega) (by omega)) ?_
    refine zi_iload_n (pc := 32) h (i := 1) zd_MO_rules_32 rfl 1 rfl ?_
    exact zi_ireturn (pc := 33) h hr zd_MO_rules_33 he.symm hF
  | succ n ih =>
    intro i acc hi he hF
    refine zi_iload_n (pc := 4) h (i := 2) zd_MO_rules_4 rfl 0 rfl ?_
    refine zi_iconst (pc := 5) h zd_MO_rules_5 zq_ic_4 ?_
    refine zi_icmp_ge_f (pc := 6) h (tgt := 32) zd_MO_rules_6 rfl (nI_ge (b := 4) (by omega) (by decide)) ?_
    refine zi_aload_n (pc := 9) h (i := 0) zd_MO_rules_9 rfl 2 rfl ?_
    refine zi_get (pc := 10) h zx_MO 26 4 zq_k26 rfl zq_j_4_18 zw_588 rfl zd_MO_rules_10 ?_
    refine zi_iload_n (pc := 13) h (i := 2) zd_MO_rules_13 rfl 0 rfl ?_
    refine zi_iald (pc := 14) h 29 zq_k29 rfl (zz_ixN (j := i) (by omega)) zd_MO_rules_14 ?_
    refine zi_if_lt (pc := 15) h (tgt := 24) zd_MO_rules_15 rfl ?_ ?_
    · intro b15
      refine zi_iload_n (pc := 24) h (i := 1) zd_MO_rules_24 rfl 1 rfl ?_
      refine zi_istore_n (pc := 25) h (i := 1) (L' := [(1, _), (2, _), (0, _)]) zd_MO_rules_25 rfl (by decide) rfl ?_
      refine zi_iinc (pc := 26) h (i := 2) (L' := [(2, _), (1, _), (0, _)]) zd_MO_rules_26 1 rfl (zq_incN i) (by decide) rfl ?_
      refine zi_goto (pc := 29) h (tgt := 4) zd_MO_rules_29 rfl ?_
      exact ih (i + 1) _ (by omega) (by rw [he, zv_rc, if_pos b15]) hF
    · intro b15
      refine zi_iload_n (pc := 18) h (i := 1) zd_MO_rules_18 rfl 1 rfl ?_
      refine zi_iconst (pc := 19) h zd_MO_rules_19 zq_ic_1 ?_
      refine zi_iadd (pc := 20) h zd_MO_rules_20 ?_
      refine zi_goto (pc := 21) h (tgt := 25) zd_MO_rules_21 rfl ?_
      refine zi_istore_n (pc := 25) h (i := 1) (L' := [(1, _), (2, _), (0, _)]) zd_MO_rules_25 rfl (by decide) rfl ?_
      refine zi_iinc (pc := 26) h (i := 2) (L' := [(2, _), (1, _), (0, _)]) zd_MO_rules_26 1 rfl (zq_incN i) (by decide) rfl ?_
      refine zi_goto (pc := 29) h (tgt := 4) zd_MO_rules_29 rfl ?_
      exact ih (i + 1) _ (by omega) (by rw [he, zv_rc, if_neg b15]) hF

set_option maxRecDepth 20000 in
theorem zc_MO_rules {l : Launch} {G : zz_G} {F : Nat → va_E} {w : Nat → Int32} {sz : Int32} {la : Nat → Int32} {lz : Int32} {ra : Nat → Nat → Int32} {fn : Int32} {fa : Nat → Nat → Int32} {cd : Int32} : zz_M l zy_MO_rules zb_MO_rules 3 (some .int) 0 0 G [.ref (G.2.2 26)] (zz_N G F w sz la lz ra fn fa cd) (some (.int (zv_rc (ra 0) 0 4 0))) (zz_N G F w sz la lz ra fn fa cd) := by
  refine zz_M.of (by decide) (Nat.le_of_ble_eq_true rfl) ?_
  intro X hX h hr
  subst hX
  have h : zz_C X G (zz_A G.2.2) 3 zb_MO_rules "PortTranslatorModel" 0 0 0 0 := h
  refine zi_iconst (pc := 0) h zd_MO_rules_0 zq_ic_0 ?_
  refine zi_istore_n (pc := 1) h (i := 1) (L' := [(1, _), (0, _)]) zd_MO_rules_1 rfl (by decide) rfl ?_
  refine zi_iconst (pc := 2) h zd_MO_rules_2 zq_ic_0 ?_
  refine zi_istore_n (pc := 3) h (i := 2) (L' := [(2, _), (1, _), (0, _)]) zd_MO_rules_3 rfl (by decide) rfl ?_
  exact zl_MO_rules h hr 4 0 0 rfl rfl rfl
