def zv_ix (q : Option Nat) : Int32 := match q with
  | none => -1
  | some i => nI i
def zv_m3 (fa : Nat → Nat → Int32) (k o q : Int32) (i : Nat) : Int32 := if fa 0 i = k then (if fa 3 i = o then (if fa 4 i = q then 1 else 0) else 0) else 0
def zv_mr (fa : Nat → Nat → Int32) (k o q a p : Int32) (i : Nat) : Int32 := if fa 1 i = a then (if fa 2 i = p then zv_m3 fa k o q i else 0) else 0
def zv_mw (fa : Nat → Nat → Int32) (k o q p : Int32) (i : Nat) : Int32 := if fa 5 i = p then zv_m3 fa k o q i else 0
def zv_hi2 (ra : Nat → Nat → Int32) (a : Int32) (i : Nat) : Int32 := if ra 2 i = 0 then 1 else if zs_ush (a ^^^ ra 1 i) (32 - ra 2 i) = 0 then 1 else 0
def zv_hit (ra : Nat → Nat → Int32) (k a : Int32) (i : Nat) : Int32 := if ra 0 i = 0 then zv_hi2 ra a i else if ra 0 i = k then zv_hi2 ra a i else 0
def zv_per (ra : Nat → Nat → Int32) (k a : Int32) : Nat → Nat → Int32
  | _, 0 => 1
  | i, n + 1 => if zv_hit ra k a i = 0 then zv_per ra k a (i + 1) n else ra 3 i
def zv_t1 (fa : Nat → Nat → Int32) (k p t : Int32) (i : Nat) : Int32 := if t = 0 then (if fa 0 i = k then (if fa 5 i = p then 1 else 0) else 0) else 1
def zv_tk (fa : Nat → Nat → Int32) (k p : Int32) : Nat → Nat → Int32 → Int32
  | _, 0, t => t
  | i, n + 1, t => zv_tk fa k p (i + 1) n (zv_t1 fa k p t i)
def zv_fr (fa : Nat → Nat → Int32) (c : Nat) (k : Int32) : Nat → Int32 → Int32
  | 0, b => b
  | j + 1, b => zv_fr fa c k j (if zv_tk fa k (nI (40000 + j)) 0 c 0 = 0 then nI (40000 + j) else b)
def zv_b1 (fa : Nat → Nat → Int32) (k a p b : Int32) (i : Nat) : Int32 := if fa 0 i = k then (if fa 1 i = a then (if fa 2 i = p then fa 5 i else b) else b) else b
def zv_bd (fa : Nat → Nat → Int32) (k a p : Int32) : Nat → Nat → Int32 → Int32
  | _, 0, b => b
  | i, n + 1, b => zv_bd fa k a p (i + 1) n (zv_b1 fa k a p b i)
def zv_pf (fa : Nat → Nat → Int32) (c : Nat) (k a p : Int32) : Int32 := zv_bd fa k a p 0 c (zv_fr fa c k 6 (-1))
def zv_sh1 (fa : Nat → Nat → Int32) (i : Nat) : Nat → Nat → Int32 := (va_up (va_up (va_up (va_up (va_up (va_up (va_up (va_up fa 0 (upd (fa 0) i (fa 0 (i + 1)))) 1 (upd (fa 1) i (fa 1 (i + 1)))) 2 (upd (fa 2) i (fa 2 (i + 1)))) 3 (upd (fa 3) i (fa 3 (i + 1)))) 4 (upd (fa 4) i (fa 4 (i + 1)))) 5 (upd (fa 5) i (fa 5 (i + 1)))) 6 (upd (fa 6) i (fa 6 (i + 1)))) 7 (upd (fa 7) i (fa 7 (i + 1))))
def zv_shf : (Nat → Nat → Int32) → Nat → Nat → (Nat → Nat → Int32)
  | fa, _, 0 => fa
  | fa, i, n + 1 => zv_shf (zv_sh1 fa i) (i + 1) n
def zv_add (fa : Nat → Nat → Int32) (c : Nat) (k a p o q w : Int32) : Nat → Nat → Int32 := (va_up (va_up (va_up (va_up (va_up (va_up (va_up (va_up fa 0 (upd (fa 0) c k)) 1 (upd (fa 1) c a)) 2 (upd (fa 2) c p)) 3 (upd (fa 3) c o)) 4 (upd (fa 4) c q)) 5 (upd (fa 5) c w)) 6 (upd (fa 6) c 0)) 7 (upd (fa 7) c 0))
def zv_fl7 (fa : Nat → Nat → Int32) (i : Nat) (x : Int32) : Nat → Nat → Int32 := va_up fa 7 (upd (fa 7) i x)
def zv_age (fa : Nat → Nat → Int32) (i : Nat) (x : Int32) : Nat → Nat → Int32 := va_up fa 6 (upd (fa 6) i x)
def zv_tco (w : Nat → Int32) (fa : Nat → Nat → Int32) (c i : Nat) : (Nat → Nat → Int32) × Nat := if zv_age fa i 0 0 i = 6 then (if w 16 &&& 1 = 1 then (if w 16 &&& 4 = 4 then (zv_shf (zv_fl7 (zv_age fa i 0) i (zv_age fa i 0 7 i ||| 2)) i (c - 1 - i), c - 1) else (zv_fl7 (zv_age fa i 0) i (zv_age fa i 0 7 i ||| 2), c)) else (if w 16 &&& 4 = 4 then (zv_shf (zv_age fa i 0) i (c - 1 - i), c - 1) else (zv_age fa i 0, c))) else (zv_age fa i 0, c)
def zv_tc1 (w : Nat → Int32) (fa : Nat → Nat → Int32) (c i : Nat) : (Nat → Nat → Int32) × Nat := if w 16 &&& 1 = 1 then (if w 16 &&& 4 = 4 then (zv_shf (zv_fl7 fa i (fa 7 i ||| 4)) i (c - 1 - i), c - 1) else (zv_fl7 fa i (fa 7 i ||| 4), c)) else (if w 16 &&& 4 = 4 then (zv_shf fa i (c - 1 - i), c - 1) else (fa, c))
def zv_tci (w : Nat → Int32) (fa : Nat → Nat → Int32) (c i : Nat) : (Nat → Nat → Int32) × Nat := if zv_age fa i 0 0 i = 6 then (if w 16 &&& 18 = 18 then zv_tc1 w (zv_fl7 (zv_age fa i 0) i (zv_age fa i 0 7 i ||| 1)) c i else zv_tc1 w (zv_age fa i 0) c i) else (zv_age fa i 0, c)
def zv_tic (t : Int32) : Nat → (Nat → Nat → Int32) → Nat → Int32 → (Nat → Nat → Int32) × Nat × Int32
  | 0, fa, c, e => (fa, c, e)
  | n + 1, fa, c, e => if va_up fa 6 (upd (fa 6) n (fa 6 n + t)) 6 n ≤ zv_lif (va_up fa 6 (upd (fa 6) n (fa 6 n + t)) 0 n) (va_up fa 6 (upd (fa 6) n (fa 6 n + t)) 7 n) then zv_tic t n (va_up fa 6 (upd (fa 6) n (fa 6 n + t))) c e else zv_tic t n (zv_shf (va_up fa 6 (upd (fa 6) n (fa 6 n + t))) n (c - 1 - n)) (c - 1) (e + 1)
theorem zv_per01 {ra : Nat → Nat → Int32} {k a : Int32} (hb : ∀ i, ra 3 i = 0 ∨ ra 3 i = 1) : ∀ n i, zv_per ra k a i n = 0 ∨ zv_per ra k a i n = 1 := by
  intro n
  induction n with
  | zero => intro i; exact Or.inr rfl
  | succ n ih =>
    intro i
    rw [zv_per]
    split
    · exact ih _
    · exact hb i

set_option maxRecDepth 20000 in
theorem zl_MO_find_r {X : zz_X} {r : Option Value} {F' : Nat → va_E} {G : zz_G} {F : Nat → va_E} {w : Nat → Int32} {sz : Int32} {la : Nat → Int32} {lz : Int32} {ra : Nat → Nat → Int32} {fa : Nat → Nat → Int32} {cd : Int32} {c : Nat} {k o q a p : Int32} (hc : c ≤ 12) (h : zz_C X G (zz_A G.2.2) 9 zb_MO_find "PortTranslatorModel" 0 0 0 0) (hr : X.2.2.2.2.2.2.2.2.1.sig.returnType = (some .int)) : ∀ (n i : Nat), i + n = c → r = some (.int (zv_ix (zs_ff (zv_mr fa k o q a p) i n))) → (zz_N G F w sz la lz ra (nI c) fa cd) = F' → zz_W X G (zz_A G.2.2) 9 0 0 (zz_E X G r F') (zz_N G F w sz la lz ra (nI c) fa cd) 3 [(7, .int (nI i)), (0, .ref (G.2.2 26)), (1, .int k), (2, .int o), (3, .int q), (4, .int 1), (5, .int a), (6, .int p)] [] := by
  intro n
  induction n with
  | zero =>
    intro i hi he hF
    refine zi_iload (pc := 3) h (i := 7) zd_MO_find_3 0 rfl ?_
    refine zi_aload_n (pc := 5) h (i := 0) zd_MO_find_5 rfl 1 rfl ?_
    refine zi_get (pc := 6) h zx_MO 26 8 zq_k26 rfl zq_j_8_18 zw_592 rfl zd_MO_find_6 ?_
    refine zi_icmp_ge_t (pc := 9) h (tgt := 115) zd_MO_find_9 rfl (nI_le (by omega) (by omega)) ?_
    refine zi_iconst (pc := 115) h zd_MO_find_115 zq_ic_m1 ?_
    exact zi_ireturn (pc := 116) h hr zd_MO_find_116 he.symm hF
  | succ n ih =>
    intro i hi he hF
    refine zi_iload (pc := 3) h (i := 7) zd_MO_find_3 0 rfl ?_
    refine zi_aload_n (pc := 5) h (i := 0) zd_MO_find_5 rfl 1 rfl ?_
    refine zi_get (pc := 6) h zx_MO 26 8 zq_k26 rfl zq_j_8_18 zw_592 rfl zd_MO_find_6 ?_
    refine zi_icmp_ge_f (pc := 9) h (tgt := 115) zd_MO_find_9 rfl (nI_ge (by omega) (by omega)) ?_
    refine zi_iload (pc := 12) h (i := 4) zd_MO_find_12 5 rfl ?_
    refine zi_if_eq_f (pc := 14) h (tgt := 49) zd_MO_find_14 rfl (by decide) ?_
    refine zi_aload_n (pc := 17) h (i := 0) zd_MO_find_17 rfl 1 rfl ?_
    refine zi_get (pc := 18) h zx_MO 26 10 zq_k26 rfl zq_j_10_18 zw_594 rfl zd_MO_find_18 ?_
    refine zi_iload (pc := 21) h (i := 7) zd_MO_find_21 0 rfl ?_
    refine zi_iald (pc := 23) h 34 zq_k34 rfl (zz_ixN (j := i) (by omega)) zd_MO_find_23 ?_
    refine zi_iload (pc := 24) h (i := 5) zd_MO_find_24 6 rfl ?_
    refine zi_icmp_ne (pc := 26) h (tgt := 45) zd_MO_find_26 rfl ?_ ?_
    · intro b26
      refine zi_iconst (pc := 45) h zd_MO_find_45 zq_ic_0 ?_
      refine zi_goto (pc := 46) h (tgt := 66) zd_MO_find_46 rfl ?_
      refine zi_istore (pc := 66) h (i := 8) (L' := [(8, _), (7, _), (0, _), (1, _), (2, _), (3, _), (4, _), (5, _), (6, _)]) zd_MO_find_66 (by decide) rfl ?_
      refine zi_aload_n (pc := 68) h (i := 0) zd_MO_find_68 rfl 2 rfl ?_
      refine zi_get (pc := 69) h zx_MO 26 9 zq_k26 rfl zq_j_9_18 zw_593 rfl zd_MO_find_69 ?_
      refine zi_iload (pc := 72) h (i := 7) zd_MO_find_72 1 rfl ?_
      refine zi_iald (pc := 74) h 33 zq_k33 rfl (zz_ixN (j := i) (by omega)) zd_MO_find_74 ?_
      refine zi_iload_n (pc := 75) h (i := 1) zd_MO_find_75 rfl 3 rfl ?_
      refine zi_icmp_ne (pc := 76) h (tgt := 109) zd_MO_find_76 rfl ?_ ?_
      · intro b76
        refine zi_iinc (pc := 109) h (i := 7) (L' := [(7, _), (8, _), (0, _), (1, _), (2, _), (3, _), (4, _), (5, _), (6, _)]) zd_MO_find_109 1 rfl (zq_incN i) (by decide) rfl ?_
        refine zi_goto (pc := 112) h (tgt := 3) zd_MO_find_112 rfl ?_
        refine zi_sub (L' := [(7, _), (0, _), (1, _), (2, _), (3, _), (4, _), (5, _), (6, _)]) [0, 2, 3, 4, 5, 6, 7, 8] rfl ?_
        exact ih (i + 1) (by omega) (by rw [he, zs_ff, if_pos (show zv_mr fa k o q a p i = 0 by unfold zv_mr; (try rw [if_neg b26]); (try rw [if_neg b76]); (try unfold zv_m3); (try rw [if_neg b26]); (try rw [if_neg b76]); (try rfl))]) hF
      · intro b76
        refine zi_aload_n (pc := 79) h (i := 0) zd_MO_find_79 rfl 2 rfl ?_
        refine zi_get (pc := 80) h zx_MO 26 12 zq_k26 rfl zq_j_12_18 zw_596 rfl zd_MO_find_80 ?_
        refine zi_iload (pc := 83) h (i := 7) zd_MO_find_83 1 rfl ?_
        refine zi_iald (pc := 85) h 36 zq_k36 rfl (zz_ixN (j := i) (by omega)) zd_MO_find_85 ?_
        refine zi_iload_n (pc := 86) h (i := 2) zd_MO_find_86 rfl 4 rfl ?_
        refine zi_icmp_ne (pc := 87) h (tgt := 109) zd_MO_find_87 rfl ?_ ?_
        · intro b87
          refine zi_iinc (pc := 109) h (i := 7) (L' := [(7, _), (8, _), (0, _), (1, _), (2, _), (3, _), (4, _), (5, _), (6, _)]) zd_MO_find_109 1 rfl (zq_incN i) (by decide) rfl ?_
          refine zi_goto (pc := 112) h (tgt := 3) zd_MO_find_112 rfl ?_
          refine zi_sub (L' := [(7, _), (0, _), (1, _), (2, _), (3, _), (4, _), (5, _), (6, _)]) [0, 2, 3, 4, 5, 6, 7, 8] rfl ?_
          exact ih (i + 1) (by omega) (by rw [he, zs_ff, if_pos (show zv_mr fa k o q a p i = 0 by unfold zv_mr; (try rw [if_neg b26]); (try rw [if_pos b76]); (try rw [if_neg b87]); (try unfold zv_m3); (try rw [if_neg b26]); (try rw [if_pos b76]); (try rw [if_neg b87]); (try rfl))]) hF
        · intro b87
          refine zi_aload_n (pc := 90) h (i := 0) zd_MO_find_90 rfl 2 rfl ?_
          refine zi_get (pc := 91) h zx_MO 26 13 zq_k26 rfl zq_j_13_18 zw_597 rfl zd_MO_find_91 ?_
          refine zi_iload (pc := 94) h (i := 7) zd_MO_find_94 1 rfl ?_
          refine zi_iald (pc := 96) h 37 zq_k37 rfl (zz_ixN (j := i) (by omega)) zd_MO_find_96 ?_
          refine zi_iload_n (pc := 97) h (i := 3) zd_MO_find_97 rfl 5 rfl ?_
          refine zi_icmp_ne (pc := 98) h (tgt := 109) zd_MO_find_98 rfl ?_ ?_
          · intro b98
            refine zi_iinc (pc := 109) h (i := 7) (L' := [(7, _), (8, _), (0, _), (1, _), (2, _), (3, _), (4, _), (5, _), (6, _)]) zd_MO_find_109 1 rfl (zq_incN i) (by decide) rfl ?_
            refine zi_goto (pc := 112) h (tgt := 3) zd_MO_find_112 rfl ?_
            refine zi_sub (L' := [(7, _), (0, _), (1, _), (2, _), (3, _), (4, _), (5, _), (6, _)]) [0, 2, 3, 4, 5, 6, 7, 8] rfl ?_
            exact ih (i + 1) (by omega) (by rw [he, zs_ff, if_pos (show zv_mr fa k o q a p i = 0 by unfold zv_mr; (try rw [if_neg b26]); (try rw [if_pos b76]); (try rw [if_pos b87]); (try rw [if_neg b98]); (try unfold zv_m3); (try rw [if_neg b26]); (try rw [if_pos b76]); (try rw [if_pos b87]); (try rw [if_neg b98]); (try rfl))]) hF
          · intro b98
            refine zi_iload (pc := 101) h (i := 8) zd_MO_find_101 0 rfl ?_
            refine zi_if_eq_t (pc := 103) h (tgt := 109) zd_MO_find_103 rfl (by decide) ?_
            refine zi_iinc (pc := 109) h (i := 7) (L' := [(7, _), (8, _), (0, _), (1, _), (2, _), (3, _), (4, _), (5, _), (6, _)]) zd_MO_find_109 1 rfl (zq_incN i) (by decide) rfl ?_
            refine zi_goto (pc := 112) h (tgt := 3) zd_MO_find_112 rfl ?_
            refine zi_sub (L' := [(7, _), (0, _), (1, _), (2, _), (3, _), (4, _), (5, _), (6, _)]) [0, 2, 3, 4, 5, 6, 7, 8] rfl ?_
            exact ih (i + 1) (by omega) (by rw [he, zs_ff, if_pos (show zv_mr fa k o q a p i = 0 by unfold zv_mr; (try rw [if_neg b26]); (try rw [if_pos b76]); (try rw [if_pos b87]); (try rw [if_pos b98]); (try unfold zv_m3); (try rw [if_neg b26]); (try rw [if_pos b76]); (try rw [if_pos b87]); (try rw [if_pos b98]); (try rfl))]) hF
    · intro b26
      refine zi_aload_n (pc := 29) h (i := 0) zd_MO_find_29 rfl 1 rfl ?_
      refine zi_get (pc := 30) h zx_MO 26 11 zq_k26 rfl zq_j_11_18 zw_595 rfl zd_MO_find_30 ?_
      refine zi_iload (pc := 33) h (i := 7) zd_MO_find_33 0 rfl ?_
      refine zi_iald (pc := 35) h 35 zq_k35 rfl (zz_ixN (j := i) (by omega)) zd_MO_find_35 ?_
      refine zi_iload (pc := 36) h (i := 6) zd_MO_find_36 7 rfl ?_
      refine zi_icmp_ne (pc := 38) h (tgt := 45) zd_MO_find_38 rfl ?_ ?_
      · intro b38
        refine zi_iconst (pc := 45) h zd_MO_find_45 zq_ic_0 ?_
        refine zi_goto (pc := 46) h (tgt := 66) zd_MO_find_46 rfl ?_
        refine zi_istore (pc := 66) h (i := 8) (L' := [(8, _), (7, _), (0, _), (1, _), (2, _), (3, _), (4, _), (5, _), (6, _)]) zd_MO_find_66 (by decide) rfl ?_
        refine zi_aload_n (pc := 68) h (i := 0) zd_MO_find_68 rfl 2 rfl ?_
        refine zi_get (pc := 69) h zx_MO 26 9 zq_k26 rfl zq_j_9_18 zw_593 rfl zd_MO_find_69 ?_
        refine zi_iload (pc := 72) h (i := 7) zd_MO_find_72 1 rfl ?_
        refine zi_iald (pc := 74) h 33 zq_k33 rfl (zz_ixN (j := i) (by omega)) zd_MO_find_74 ?_
        refine zi_iload_n (pc := 75) h (i := 1) zd_MO_find_75 rfl 3 rfl ?_
        refine zi_icmp_ne (pc := 76) h (tgt := 109) zd_MO_find_76 rfl ?_ ?_
        · intro b76
          refine zi_iinc (pc := 109) h (i := 7) (L' := [(7, _), (8, _), (0, _), (1, _), (2, _), (3, _), (4, _), (5, _), (6, _)]) zd_MO_find_109 1 rfl (zq_incN i) (by decide) rfl ?_
          refine zi_goto (pc := 112) h (tgt := 3) zd_MO_find_112 rfl ?_
          refine zi_sub (L' := [(7, _), (0, _), (1, _), (2, _), (3, _), (4, _), (5, _), (6, _)]) [0, 2, 3, 4, 5, 6, 7, 8] rfl ?_
          exact ih (i + 1) (by omega) (by rw [he, zs_ff, if_pos (show zv_mr fa k o q a p i = 0 by unfold zv_mr; (try rw [if_pos b26]); (try rw [if_neg b38]); (try rw [if_neg b76]); (try unfold zv_m3); (try rw [if_pos b26]); (try rw [if_neg b38]); (try rw [if_neg b76]); (try rfl))]) hF
        · intro b76
          refine zi_aload_n (pc := 79) h (i := 0) zd_MO_find_79 rfl 2 rfl ?_
          refine zi_get (pc := 80) h zx_MO 26 12 zq_k26 rfl zq_j_12_18 zw_596 rfl zd_MO_find_80 ?_
          refine zi_iload (pc := 83) h (i := 7) zd_MO_find_83 1 rfl ?_
          refine zi_iald (pc := 85) h 36 zq_k36 rfl (zz_ixN (j := i) (by omega)) zd_MO_find_85 ?_
          refine zi_iload_n (pc := 86) h (i := 2) zd_MO_find_86 rfl 4 rfl ?_
          refine zi_icmp_ne (pc := 87) h (tgt := 109) zd_MO_find_87 rfl ?_ ?_
          · intro b87
            refine zi_iinc (pc := 109) h (i := 7) (L' := [(7, _), (8, _), (0, _), (1, _), (2, _), (3, _), (4, _), (5, _), (6, _)]) zd_MO_find_109 1 rfl (zq_incN i) (by decide) rfl ?_
            refine zi_goto (pc := 112) h (tgt := 3) zd_MO_find_112 rfl ?_
            refine zi_sub (L' := [(7, _), (0, _), (1, _), (2, _), (3, _), (4, _), (5, _), (6, _)]) [0, 2, 3, 4, 5, 6, 7, 8] rfl ?_
            exact ih (i + 1) (by omega) (by rw [he, zs_ff, if_pos (show zv_mr fa k o q a p i = 0 by unfold zv_mr; (try rw [if_pos b26]); (try rw [if_neg b38]); (try rw [if_pos b76]); (try rw [if_neg b87]); (try unfold zv_m3); (try rw [if_pos b26]); (try rw [if_neg b38]); (try rw [if_pos b76]); (try rw [if_neg b87]); (try rfl))]) hF
          · intro b87
            refine zi_aload_n (pc := 90) h (i := 0) zd_MO_find_90 rfl 2 rfl ?_
            refine zi_get (pc := 91) h zx_MO 26 13 zq_k26 rfl zq_j_13_18 zw_597 rfl zd_MO_find_91 ?_
            refine zi_iload (pc := 94) h (i := 7) zd_MO_find_94 1 rfl ?_
            refine zi_iald (pc := 96) h 37 zq_k37 rfl (zz_ixN (j := i) (by omega)) zd_MO_find_96 ?_
            refine zi_iload_n (pc := 97) h (i := 3) zd_MO_find_97 rfl 5 rfl ?_
            refine zi_icmp_ne (pc := 98) h (tgt := 109) zd_MO_find_98 rfl ?_ ?_
            · intro b98
              refine zi_iinc (pc := 109) h (i := 7) (L' := [(7, _), (8, _), (0, _), (1, _), (2, _), (3, _), (4, _), (5, _), (6, _)]) zd_MO_find_109 1 rfl (zq_incN i) (by decide) rfl ?_
              refine zi_goto (pc := 112) h (tgt := 3) zd_MO_find_112 rfl ?_
              refine zi_sub (L' := [(7, _), (0, _), (1, _), (2, _), (3, _), (4, _), (5, _), (6, _)]) [0, 2, 3, 4, 5, 6, 7, 8] rfl ?_
              exact ih (i + 1) (by omega) (by rw [he, zs_ff, if_pos (show zv_mr fa k o q a p i = 0 by unfold zv_mr; (try rw [if_pos b26]); (try rw [if_neg b38]); (try rw [if_pos b76]); (try rw [if_pos b87]); (try rw [if_neg b98]); (try unfold zv_m3); (try rw [if_pos b26]); (try rw [if_neg b38]); (try rw [if_pos b76]); (try rw [if_pos b87]); (try rw [if_neg b98]); (try rfl))]) hF
            · intro b98
              refine zi_iload (pc := 101) h (i := 8) zd_MO_find_101 0 rfl ?_
              refine zi_if_eq_t (pc := 103) h (tgt := 109) zd_MO_find_103 rfl (by decide) ?_
              refine zi_iinc (pc := 109) h (i := 7) (L' := [(7, _), (8, _), (0, _), (1, _), (2, _), (3, _), (4, _), (5, _), (6, _)]) zd_MO_find_109 1 rfl (zq_incN i) (by decide) rfl ?_
              refine zi_goto (pc := 112) h (tgt := 3) zd_MO_find_112 rfl ?_
              refine zi_sub (L' := [(7, _), (0, _), (1, _), (2, _), (3, _), (4, _), (5, _), (6, _)]) [0, 2, 3, 4, 5, 6, 7, 8] rfl ?_
              exact ih (i + 1) (by omega) (by rw [he, zs_ff, if_pos (show zv_mr fa k o q a p i = 0 by unfold zv_mr; (try rw [if_pos b26]); (try rw [if_neg b38]); (try rw [if_pos b76]); (try rw [if_pos b87]); (try rw [if_pos b98]); (try unfold zv_m3); (try rw [if_pos b26]); (try rw [if_neg b38]); (try rw [if_pos b76]); (try rw [if_pos b87]); (try rw [if_pos b98]); (try rfl))]) hF
      · intro b38
        refine zi_iconst (pc := 41) h zd_MO_find_41 zq_ic_1 ?_
        refine zi_goto (pc := 42) h (tgt := 66) zd_MO_find_42 rfl ?_
        refine zi_istore (pc := 66) h (i := 8) (L' := [(8, _), (7, _), (0, _), (1, _), (2, _), (3, _), (4, _), (5, _), (6, _)]) zd_MO_find_66 (by decide) rfl ?_
        refine zi_aload_n (pc := 68) h (i := 0) zd_MO_find_68 rfl 2 rfl ?_
        refine zi_get (pc := 69) h zx_MO 26 9 zq_k26 rfl zq_j_9_18 zw_593 rfl zd_MO_find_69 ?_
        refine zi_iload (pc := 72) h (i := 7) zd_MO_find_72 1 rfl ?_
        refine zi_iald (pc := 74) h 33 zq_k33 rfl (zz_ixN (j := i) (by omega)) zd_MO_find_74 ?_
        refine zi_iload_n (pc := 75) h (i := 1) zd_MO_find_75 rfl 3 rfl ?_
        refine zi_icmp_ne (pc := 76) h (tgt := 109) zd_MO_find_76 rfl ?_ ?_
        · intro b76
          refine zi_iinc (pc := 109) h (i := 7) (L' := [(7, _), (8, _), (0, _), (1, _), (2, _), (3, _), (4, _), (5, _), (6, _)]) zd_MO_find_109 1 rfl (zq_incN i) (by decide) rfl ?_
          refine zi_goto (pc := 112) h (tgt := 3) zd_MO_find_112 rfl ?_
          refine zi_sub (L' := [(7, _), (0, _), (1, _), (2, _), (3, _), (4, _), (5, _), (6, _)]) [0, 2, 3, 4, 5, 6, 7, 8] rfl ?_
          exact ih (i + 1) (by omega) (by rw [he, zs_ff, if_pos (show zv_mr fa k o q a p i = 0 by unfold zv_mr; (try rw [if_pos b26]); (try rw [if_pos b38]); (try rw [if_neg b76]); (try unfold zv_m3); (try rw [if_pos b26]); (try rw [if_pos b38]); (try rw [if_neg b76]); (try rfl))]) hF
        · intro b76
          refine zi_aload_n (pc := 79) h (i := 0) zd_MO_find_79 rfl 2 rfl ?_
          refine zi_get (pc := 80) h zx_MO 26 12 zq_k26 rfl zq_j_12_18 zw_596 rfl zd_MO_find_80 ?_
          refine zi_iload (pc := 83) h (i := 7) zd_MO_find_83 1 rfl ?_
          refine zi_iald (pc := 85) h 36 zq_k36 rfl (zz_ixN (j := i) (by omega)) zd_MO_find_85 ?_
          refine zi_iload_n (pc := 86) h (i := 2) zd_MO_find_86 rfl 4 rfl ?_
          refine zi_icmp_ne (pc := 87) h (tgt := 109) zd_MO_find_87 rfl ?_ ?_
          · intro b87
            refine zi_iinc (pc := 109) h (i := 7) (L' := [(7, _), (8, _), (0, _), (1, _), (2, _), (3, _), (4, _), (5, _), (6, _)]) zd_MO_find_109 1 rfl (zq_incN i) (by decide) rfl ?_
            refine zi_goto (pc := 112) h (tgt := 3) zd_MO_find_112 rfl ?_
            refine zi_sub (L' := [(7, _), (0, _), (1, _), (2, _), (3, _), (4, _), (5, _), (6, _)]) [0, 2, 3, 4, 5, 6, 7, 8] rfl ?_
            exact ih (i + 1) (by omega) (by rw [he, zs_ff, if_pos (show zv_mr fa k o q a p i = 0 by unfold zv_mr; (try rw [if_pos b26]); (try rw [if_pos b38]); (try rw [if_pos b76]); (try rw [if_neg b87]); (try unfold zv_m3); (try rw [if_pos b26]); (try rw [if_pos b38]); (try rw [if_pos b76]); (try rw [if_neg b87]); (try rfl))]) hF
          · intro b87
            refine zi_aload_n (pc := 90) h (i := 0) zd_MO_find_90 rfl 2 rfl ?_
            refine zi_get (pc := 91) h zx_MO 26 13 zq_k26 rfl zq_j_13_18 zw_597 rfl zd_MO_find_91 ?_
            refine zi_iload (pc := 94) h (i := 7) zd_MO_find_94 1 rfl ?_
            refine zi_iald (pc := 96) h 37 zq_k37 rfl (zz_ixN (j := i) (by omega)) zd_MO_find_96 ?_
            refine zi_iload_n (pc := 97) h (i := 3) zd_MO_find_97 rfl 5 rfl ?_
            refine zi_icmp_ne (pc := 98) h (tgt := 109) zd_MO_find_98 rfl ?_ ?_
            · intro b98
              refine zi_iinc (pc := 109) h (i := 7) (L' := [(7, _), (8, _), (0, _), (1, _), (2, _), (3, _), (4, _), (5, _), (6, _)]) zd_MO_find_109 1 rfl (zq_incN i) (by decide) rfl ?_
              refine zi_goto (pc := 112) h (tgt := 3) zd_MO_find_112 rfl ?_
              refine zi_sub (L' := [(7, _), (0, _), (1, _), (2, _), (3, _), (4, _), (5, _), (6, _)]) [0, 2, 3, 4, 5, 6, 7, 8] rfl ?_
              exact ih (i + 1) (by omega) (by rw [he, zs_ff, if_pos (show zv_mr fa k o q a p i = 0 by unfold zv_mr; (try rw [if_pos b26]); (try rw [if_pos b38]); (try rw [if_pos b76]); (try rw [if_pos b87]); (try rw [if_neg b98]); (try unfold zv_m3); (try rw [if_pos b26]); (try rw [if_pos b38]); (try rw [if_pos b76]); (try rw [if_pos b87]); (try rw [if_neg b98]); (try rfl))]) hF
            · intro b98
              refine zi_iload (pc := 101) h (i := 8) zd_MO_find_101 0 rfl ?_
              refine zi_if_eq_f (pc := 103) h (tgt := 109) zd_MO_find_103 rfl (by decide) ?_
              refine zi_iload (pc := 106) h (i := 7) zd_MO_find_106 1 rfl ?_
              exact zi_ireturn (pc := 108) h hr zd_MO_find_108 (by rw [he, zs_ff, if_neg (show ¬ zv_mr fa k o q a p i = 0 by unfold zv_mr; (try rw [if_pos b26]); (try rw [if_pos b38]); (try rw [if_pos b76]); (try rw [if_pos b87]); (try rw [if_pos b98]); (try unfold zv_m3); (try rw [if_pos b26]); (try rw [if_pos b38]); (try rw [if_pos b76]); (try rw [if_pos b87]); (try rw [if_pos b98]); decide)]; rfl) hF

set_option maxRecDepth 20000 in
theorem zc_MO_find_r {l : Launch} {G : zz_G} {F : Nat → va_E} {w : Nat → Int32} {sz : Int32} {la : Nat → Int32} {lz : Int32} {ra : Nat → Nat → Int32} {fa : Nat → Nat → Int32} {cd : Int32} {c : Nat} {k o q a p : Int32} (hc : c ≤ 12) : zz_M l zy_MO_find zb_MO_find 9 (some .int) 0 0 G [.ref (G.2.2 26), .int k, .int o, .int q, .int 1, .int a, .int p] (zz_N G F w sz la lz ra (nI c) fa cd) (some (.int (zv_ix (zs_ff (zv_mr fa k o q a p) 0 c)))) (zz_N G F w sz la lz ra (nI c) fa cd) := by
  refine zz_M.of (by decide) (Nat.le_of_ble_eq_true rfl) ?_
  intro X hX h hr
  subst hX
  have h : zz_C X G (zz_A G.2.2) 9 zb_MO_find "PortTranslatorModel" 0 0 0 0 := h
  refine zi_iconst (pc := 0) h zd_MO_find_0 zq_ic_0 ?_
  refine zi_istore (pc := 1) h (i := 7) (L' := [(7, _), (0, _), (1, _), (2, _), (3, _), (4, _), (5, _), (6, _)]) zd_MO_find_1 (by decide) rfl ?_
  exact zl_MO_find_r hc h hr c 0 (by omega) rfl rfl

set_option maxRecDepth 20000 in
theorem zl_MO_find_w {X : zz_X} {r : Option Value} {F' : Nat → va_E} {G : zz_G} {F : Nat → va_E} {w : Nat → Int32} {sz : Int32} {la : Nat → Int32} {lz : Int32} {ra : Nat → Nat → Int32} {fa : Nat → Nat → Int32} {cd : Int32} {c : Nat} {k o q a p : Int32} (hc : c ≤ 12) (h : zz_C X G (zz_A G.2.2) 9 zb_MO_find "PortTranslatorModel" 0 0 0 0) (hr : X.2.2.2.2.2.2.2.2.1.sig.returnType = (some .int)) : ∀ (n i : Nat), i + n = c → r = some (.int (zv_ix (zs_ff (zv_mw fa k o q p) i n))) → (zz_N G F w sz la lz ra (nI c) fa cd) = F' → zz_W X G (zz_A G.2.2) 9 0 0 (zz_E X G r F') (zz_N G F w sz la lz ra (nI c) fa cd) 3 [(7, .int (nI i)), (0, .ref (G.2.2 26)), (1, .int k), (2, .int o), (3, .int q), (4, .int 0), (5, .int a), (6, .int p)] [] := by
  intro n
  induction n with
  | zero =>
    intro i hi he hF
    refine zi_iload (pc := 3) h (i := 7) zd_MO_find_3 0 rfl ?_
    refine zi_aload_n (pc := 5) h (i := 0) zd_MO_find_5 rfl 1 rfl ?_
    refine zi_get (pc := 6) h zx_MO 26 8 zq_k26 rfl zq_j_8_18 zw_592 rfl zd_MO_find_6 ?_
    refine zi_icmp_ge_t (pc := 9) h (tgt := 115) zd_MO_find_9 rfl (nI_le (by omega) (by omega)) ?_
    refine zi_iconst (pc := 115) h zd_MO_find_115 zq_ic_m1 ?_
    exact zi_ireturn (pc := 116) h hr zd_MO_find_116 he.symm hF
  | succ n ih =>
    intro i hi he hF
    refine zi_iload (pc := 3) h (i := 7) zd_MO_find_3 0 rfl ?_
    refine zi_aload_n (pc := 5) h (i := 0) zd_MO_find_5 rfl 1 rfl ?_
    refine zi_get (pc := 6) h zx_MO 26 8 zq_k26 rfl zq_j_8_18 zw_592 rfl zd_MO_find_6 ?_
    refine zi_icmp_ge_f (pc := 9) h (tgt := 115) zd_MO_find_9 rfl (nI_ge (by omega) (by omega)) ?_
    refine zi_iload (pc := 12) h (i := 4) zd_MO_find_12 5 rfl ?_
    refine zi_if_eq_t (pc := 14) h (tgt := 49) zd_MO_find_14 rfl (by decide) ?_
    refine zi_aload_n (pc := 49) h (i := 0) zd_MO_find_49 rfl 1 rfl ?_
    refine zi_get (pc := 50) h zx_MO 26 14 zq_k26 rfl zq_j_14_18 zw_598 rfl zd_MO_find_50 ?_
    refine zi_iload (pc := 53) h (i := 7) zd_MO_find_53 0 rfl ?_
    refine zi_iald (pc := 55) h 38 zq_k38 rfl (zz_ixN (j := i) (by omega)) zd_MO_find_55 ?_
    refine zi_iload (pc := 56) h (i := 6) zd_MO_find_56 7 rfl ?_
    refine zi_icmp_ne (pc := 58) h (tgt := 65) zd_MO_find_58 rfl ?_ ?_
    · intro b58
      refine zi_iconst (pc := 65) h zd_MO_find_65 zq_ic_0 ?_
      refine zi_istore (pc := 66) h (i := 8) (L' := [(8, _), (7, _), (0, _), (1, _), (2, _), (3, _), (4, _), (5, _), (6, _)]) zd_MO_find_66 (by decide) rfl ?_
      refine zi_aload_n (pc := 68) h (i := 0) zd_MO_find_68 rfl 2 rfl ?_
      refine zi_get (pc := 69) h zx_MO 26 9 zq_k26 rfl zq_j_9_18 zw_593 rfl zd_MO_find_69 ?_
      refine zi_iload (pc := 72) h (i := 7) zd_MO_find_72 1 rfl ?_
      refine zi_iald (pc := 74) h 33 zq_k33 rfl (zz_ixN (j := i) (by omega)) zd_MO_find_74 ?_
      refine zi_iload_n (pc := 75) h (i := 1) zd_MO_find_75 rfl 3 rfl ?_
      refine zi_icmp_ne (pc := 76) h (tgt := 109) zd_MO_find_76 rfl ?_ ?_
      · intro b76
        refine zi_iinc (pc := 109) h (i := 7) (L' := [(7, _), (8, _), (0, _), (1, _), (2, _), (3, _), (4, _), (5, _), (6, _)]) zd_MO_find_109 1 rfl (zq_incN i) (by decide) rfl ?_
        refine zi_goto (pc := 112) h (tgt := 3) zd_MO_find_112 rfl ?_
        refine zi_sub (L' := [(7, _), (0, _), (1, _), (2, _), (3, _), (4, _), (5, _), (6, _)]) [0, 2, 3, 4, 5, 6, 7, 8] rfl ?_
        exact ih (i + 1) (by omega) (by rw [he, zs_ff, if_pos (show zv_mw fa k o q p i = 0 by unfold zv_mw; (try rw [if_neg b58]); (try rw [if_neg b76]); (try unfold zv_m3); (try rw [if_neg b58]); (try rw [if_neg b76]); (try rfl))]) hF
      · intro b76
        refine zi_aload_n (pc := 79) h (i := 0) zd_MO_find_79 rfl 2 rfl ?_
        refine zi_get (pc := 80) h zx_MO 26 12 zq_k26 rfl zq_j_12_18 zw_596 rfl zd_MO_find_80 ?_
        refine zi_iload (pc := 83) h (i := 7) zd_MO_find_83 1 rfl ?_
        refine zi_iald (pc := 85) h 36 zq_k36 rfl (zz_ixN (j := i) (by omega)) zd_MO_find_85 ?_
        refine zi_iload_n (pc := 86) h (i := 2) zd_MO_find_86 rfl 4 rfl ?_
        refine zi_icmp_ne (pc := 87) h (tgt := 109) zd_MO_find_87 rfl ?_ ?_
        · intro b87
          refine zi_iinc (pc := 109) h (i := 7) (L' := [(7, _), (8, _), (0, _), (1, _), (2, _), (3, _), (4, _), (5, _), (6, _)]) zd_MO_find_109 1 rfl (zq_incN i) (by decide) rfl ?_
          refine zi_goto (pc := 112) h (tgt := 3) zd_MO_find_112 rfl ?_
          refine zi_sub (L' := [(7, _), (0, _), (1, _), (2, _), (3, _), (4, _), (5, _), (6, _)]) [0, 2, 3, 4, 5, 6, 7, 8] rfl ?_
          exact ih (i + 1) (by omega) (by rw [he, zs_ff, if_pos (show zv_mw fa k o q p i = 0 by unfold zv_mw; (try rw [if_neg b58]); (try rw [if_pos b76]); (try rw [if_neg b87]); (try unfold zv_m3); (try rw [if_neg b58]); (try rw [if_pos b76]); (try rw [if_neg b87]); (try rfl))]) hF
        · intro b87
          refine zi_aload_n (pc := 90) h (i := 0) zd_MO_find_90 rfl 2 rfl ?_
          refine zi_get (pc := 91) h zx_MO 26 13 zq_k26 rfl zq_j_13_18 zw_597 rfl zd_MO_find_91 ?_
          refine zi_iload (pc := 94) h (i := 7) zd_MO_find_94 1 rfl ?_
          refine zi_iald (pc := 96) h 37 zq_k37 rfl (zz_ixN (j := i) (by omega)) zd_MO_find_96 ?_
          refine zi_iload_n (pc := 97) h (i := 3) zd_MO_find_97 rfl 5 rfl ?_
          refine zi_icmp_ne (pc := 98) h (tgt := 109) zd_MO_find_98 rfl ?_ ?_
          · intro b98
            refine zi_iinc (pc := 109) h (i := 7) (L' := [(7, _), (8, _), (0, _), (1, _), (2, _), (3, _), (4, _), (5, _), (6, _)]) zd_MO_find_109 1 rfl (zq_incN i) (by decide) rfl ?_
            refine zi_goto (pc := 112) h (tgt := 3) zd_MO_find_112 rfl ?_
            refine zi_sub (L' := [(7, _), (0, _), (1, _), (2, _), (3, _), (4, _), (5, _), (6, _)]) [0, 2, 3, 4, 5, 6, 7, 8] rfl ?_
            exact ih (i + 1) (by omega) (by rw [he, zs_ff, if_pos (show zv_mw fa k o q p i = 0 by unfold zv_mw; (try rw [if_neg b58]); (try rw [if_pos b76]); (try rw [if_pos b87]); (try rw [if_neg b98]); (try unfold zv_m3); (try rw [if_neg b58]); (try rw [if_pos b76]); (try rw [if_pos b87]); (try rw [if_neg b98]); (try rfl))]) hF
          · intro b98
            refine zi_iload (pc := 101) h (i := 8) zd_MO_find_101 0 rfl ?_
            refine zi_if_eq_t (pc := 103) h (tgt := 109) zd_MO_find_103 rfl (by decide) ?_
            refine zi_iinc (pc := 109) h (i := 7) (L' := [(7, _), (8, _), (0, _), (1, _), (2, _), (3, _), (4, _), (5, _), (6, _)]) zd_MO_find_109 1 rfl (zq_incN i) (by decide) rfl ?_
            refine zi_goto (pc := 112) h (tgt := 3) zd_MO_find_112 rfl ?_
            refine zi_sub (L' := [(7, _), (0, _), (1, _), (2, _), (3, _), (4, _), (5, _), (6, _)]) [0, 2, 3, 4, 5, 6, 7, 8] rfl ?_
            exact ih (i + 1) (by omega) (by rw [he, zs_ff, if_pos (show zv_mw fa k o q p i = 0 by unfold zv_mw; (try rw [if_neg b58]); (try rw [if_pos b76]); (try rw [if_pos b87]); (try rw [if_pos b98]); (try unfold zv_m3); (try rw [if_neg b58]); (try rw [if_pos b76]); (try rw [if_pos b87]); (try rw [if_pos b98]); (try rfl))]) hF
    · intro b58
      refine zi_iconst (pc := 61) h zd_MO_find_61 zq_ic_1 ?_
      refine zi_goto (pc := 62) h (tgt := 66) zd_MO_find_62 rfl ?_
      refine zi_istore (pc := 66) h (i := 8) (L' := [(8, _), (7, _), (0, _), (1, _), (2, _), (3, _), (4, _), (5, _), (6, _)]) zd_MO_find_66 (by decide) rfl ?_
      refine zi_aload_n (pc := 68) h (i := 0) zd_MO_find_68 rfl 2 rfl ?_
      refine zi_get (pc := 69) h zx_MO 26 9 zq_k26 rfl zq_j_9_18 zw_593 rfl zd_MO_find_69 ?_
      refine zi_iload (pc := 72) h (i := 7) zd_MO_find_72 1 rfl ?_
      refine zi_iald (pc := 74) h 33 zq_k33 rfl (zz_ixN (j := i) (by omega)) zd_MO_find_74 ?_
      refine zi_iload_n (pc := 75) h (i := 1) zd_MO_find_75 rfl 3 rfl ?_
      refine zi_icmp_ne (pc := 76) h (tgt := 109) zd_MO_find_76 rfl ?_ ?_
      · intro b76
        refine zi_iinc (pc := 109) h (i := 7) (L' := [(7, _), (8, _), (0, _), (1, _), (2, _), (3, _), (4, _), (5, _), (6, _)]) zd_MO_find_109 1 rfl (zq_incN i) (by decide) rfl ?_
        refine zi_goto (pc := 112) h (tgt := 3) zd_MO_find_112 rfl ?_
        refine zi_sub (L' := [(7, _), (0, _), (1, _), (2, _), (3, _), (4, _), (5, _), (6, _)]) [0, 2, 3, 4, 5, 6, 7, 8] rfl ?_
        exact ih (i + 1) (by omega) (by rw [he, zs_ff, if_pos (show zv_mw fa k o q p i = 0 by unfold zv_mw; (try rw [if_pos b58]); (try rw [if_neg b76]); (try unfold zv_m3); (try rw [if_pos b58]); (try rw [if_neg b76]); (try rfl))]) hF
      · intro b76
        refine zi_aload_n (pc := 79) h (i := 0) zd_MO_find_79 rfl 2 rfl ?_
        refine zi_get (pc := 80) h zx_MO 26 12 zq_k26 rfl zq_j_12_18 zw_596 rfl zd_MO_find_80 ?_
        refine zi_iload (pc := 83) h (i := 7) zd_MO_find_83 1 rfl ?_
        refine zi_iald (pc := 85) h 36 zq_k36 rfl (zz_ixN (j := i) (by omega)) zd_MO_find_85 ?_
        refine zi_iload_n (pc := 86) h (i := 2) zd_MO_find_86 rfl 4 rfl ?_
        refine zi_icmp_ne (pc := 87) h (tgt := 109) zd_MO_find_87 rfl ?_ ?_
        · intro b87
          refine zi_iinc (pc := 109) h (i := 7) (L' := [(7, _), (8, _), (0, _), (1, _), (2, _), (3, _), (4, _), (5, _), (6, _)]) zd_MO_find_109 1 rfl (zq_incN i) (by decide) rfl ?_
          refine zi_goto (pc := 112) h (tgt := 3) zd_MO_find_112 rfl ?_
          refine zi_sub (L' := [(7, _), (0, _), (1, _), (2, _), (3, _), (4, _), (5, _), (6, _)]) [0, 2, 3, 4, 5, 6, 7, 8] rfl ?_
          exact ih (i + 1) (by omega) (by rw [he, zs_ff, if_pos (show zv_mw fa k o q p i = 0 by unfold zv_mw; (try rw [if_pos b58]); (try rw [if_pos b76]); (try rw [if_neg b87]); (try unfold zv_m3); (try rw [if_pos b58]); (try rw [if_pos b76]); (try rw [if_neg b87]); (try rfl))]) hF
        · intro b87
          refine zi_aload_n (pc := 90) h (i := 0) zd_MO_find_90 rfl 2 rfl ?_
          refine zi_get (pc := 91) h zx_MO 26 13 zq_k26 rfl zq_j_13_18 zw_597 rfl zd_MO_find_91 ?_
          refine zi_iload (pc := 94) h (i := 7) zd_MO_find_94 1 rfl ?_
          refine zi_iald (pc := 96) h 37 zq_k37 rfl (zz_ixN (j := i) (by omega)) zd_MO_find_96 ?_
          refine zi_iload_n (pc := 97) h (i := 3) zd_MO_find_97 rfl 5 rfl ?_
          refine zi_icmp_ne (pc := 98) h (tgt := 109) zd_MO_find_98 rfl ?_ ?_
          · intro b98
            refine zi_iinc (pc := 109) h (i := 7) (L' := [(7, _), (8, _), (0, _), (1, _), (2, _), (3, _), (4, _), (5, _), (6, _)]) zd_MO_find_109 1 rfl (zq_incN i) (by decide) rfl ?_
            refine zi_goto (pc := 112) h (tgt := 3) zd_MO_find_112 rfl ?_
            refine zi_sub (L' := [(7, _), (0, _), (1, _), (2, _), (3, _), (4, _), (5, _), (6, _)]) [0, 2, 3, 4, 5, 6, 7, 8] rfl ?_
            exact ih (i + 1) (by omega) (by rw [he, zs_ff, if_pos (show zv_mw fa k o q p i = 0 by unfold zv_mw; (try rw [if_pos b58]); (try rw [if_pos b76]); (try rw [if_pos b87]); (try rw [if_neg b98]); (try unfold zv_m3); (try rw [if_pos b58]); (try rw [if_pos b76]); (try rw [if_pos b87]); (try rw [if_neg b98]); (try rfl))]) hF
          · intro b98
            refine zi_iload (pc := 101) h (i := 8) zd_MO_find_101 0 rfl ?_
            refine zi_if_eq_f (pc := 103) h (tgt := 109) zd_MO_find_103 rfl (by decide) ?_
            refine zi_iload (pc := 106) h (i := 7) zd_MO_find_106 1 rfl ?_
            exact zi_ireturn (pc := 108) h hr zd_MO_find_108 (by rw [he, zs_ff, if_neg (show ¬ zv_mw fa k o q p i = 0 by unfold zv_mw; (try rw [if_pos b58]); (try rw [if_pos b76]); (try rw [if_pos b87]); (try rw [if_pos b98]); (try unfold zv_m3); (try rw [if_pos b58]); (try rw [if_pos b76]); (try rw [if_pos b87]); (try rw [if_pos b98]); decide)]; rfl) hF

set_option maxRecDepth 20000 in
theorem zc_MO_find_w {l : Launch} {G : zz_G} {F : Nat → va_E} {w : Nat → Int32} {sz : Int32} {la : Nat → Int32} {lz : Int32} {ra : Nat → Nat → Int32} {fa : Nat → Nat → Int32} {cd : Int32} {c : Nat} {k o q a p : Int32} (hc : c ≤ 12) : zz_M l zy_MO_find zb_MO_find 9 (some .int) 0 0 G [.ref (G.2.2 26), .int k, .int o, .int q, .int 0, .int a, .int p] (zz_N G F w sz la lz ra (nI c) fa cd) (some (.int (zv_ix (zs_ff (zv_mw fa k o q p) 0 c)))) (zz_N G F w sz la lz ra (nI c) fa cd) := by
  refine zz_M.of (by decide) (Nat.le_of_ble_eq_true rfl) ?_
  intro X hX h hr
  subst hX
  have h : zz_C X G (zz_A G.2.2) 9 zb_MO_find "PortTranslatorModel" 0 0 0 0 := h
  refine zi_iconst (pc := 0) h zd_MO_find_0 zq_ic_0 ?_
  refine zi_istore (pc := 1) h (i := 7) (L' := [(7, _), (0, _), (1, _), (2, _), (3, _), (4, _), (5, _), (6, _)]) zd_MO_find_1 (by decide) rfl ?_
  exact zl_MO_find_w hc h hr c 0 (by omega) rfl rfl

set_option maxRecDepth 20000 in
theorem zl_MO_permitted {X : zz_X} {r : Option Value} {F' : Nat → va_E} {G : zz_G} {F : Nat → va_E} {w : Nat → Int32} {sz : Int32} {la : Nat → Int32} {lz : Int32} {ra : Nat → Nat → Int32} {fn : Int32} {fa : Nat → Nat → Int32} {cd : Int32} {k a : Int32} (hb : ∀ i, ra 3 i = 0 ∨ ra 3 i = 1) (h : zz_C X G (zz_A G.2.2) 6 zb_MO_permitted "PortTranslatorModel" 0 0 0 0) (hr : X.2.2.2.2.2.2.2.2.1.sig.returnType = (some .boolean)) : ∀ (n i : Nat), i + n = 4 → r = some (.int (zv_per ra k a i n)) → (zz_N G F w sz la lz ra fn fa cd) = F' → zz_W X G (zz_A G.2.2) 6 0 0 (zz_E X G r F') (zz_N G F w sz la lz ra fn fa cd) 2 [(3, .int (nI i)), (0, .ref (G.2.2 26)), (1, .int k), (2, .int a)] [] := by
  intro n
  induction n with
  | zero =>
    intro i hi he hF
    refine zi_iload_n (pc := 2) h (i := 3) zd_MO_permitted_2 rfl 0 rfl ?_
    refine zi_iconst (pc := 3) h zd_MO_permitted_3 zq_ic_4 ?_
    refine zi_icmp_ge_t (pc := 4) h (tgt := 89) zd_MO_permitted_4 rfl (nI_le (a := 4) (by omega) (by omega)) ?_
    refine zi_iconst (pc := 89) h zd_MO_permitted_89 zq_ic_1 ?_
    exact zi_zreturn (pc := 90) h hr rfl zd_MO_permitted_90 he.symm hF
  | succ n ih =>
    intro i hi he hF
    refine zi_iload_n (pc := 2) h (i := 3) zd_MO_permitted_2 rfl 0 rfl ?_
    refine zi_iconst (pc := 3) h zd_MO_permitted_3 zq_ic_4 ?_
    refine zi_icmp_ge_f (pc := 4) h (tgt := 89) zd_MO_permitted_4 rfl (nI_ge (b := 4) (by omega) (by decide)) ?_
    refine zi_aload_n (pc := 7) h (i := 0) zd_MO_permitted_7 rfl 1 rfl ?_
    refine zi_get (pc := 8) h zx_MO 26 4 zq_k26 rfl zq_j_4_18 zw_588 rfl zd_MO_permitted_8 ?_
    refine zi_iload_n (pc := 11) h (i := 3) zd_MO_permitted_11 rfl 0 rfl ?_
    refine zi_iald (pc := 12) h 29 zq_k29 rfl (zz_ixN (j := i) (by omega)) zd_MO_permitted_12 ?_
    refine zi_if_eq (pc := 13) h (tgt := 26) zd_MO_permitted_13 rfl ?_ ?_
    · intro b13
      refine zi_iconst (pc := 26) h zd_MO_permitted_26 zq_ic_1 ?_
      refine zi_goto (pc := 27) h (tgt := 31) zd_MO_permitted_27 rfl ?_
      refine zi_istore (pc := 31) h (i := 4) (L' := [(4, _), (3, _), (0, _), (1, _), (2, _)]) zd_MO_permitted_31 (by decide) rfl ?_
      refine zi_aload_n (pc := 33) h (i := 0) zd_MO_permitted_33 rfl 2 rfl ?_
      refine zi_get (pc := 34) h zx_MO 26 6 zq_k26 rfl zq_j_6_18 zw_590 rfl zd_MO_permitted_34 ?_
      refine zi_iload_n (pc := 37) h (i := 3) zd_MO_permitted_37 rfl 1 rfl ?_
      refine zi_iald (pc := 38) h 31 zq_k31 rfl (zz_ixN (j := i) (by omega)) zd_MO_permitted_38 ?_
      refine zi_if_ne (pc := 39) h (tgt := 46) zd_MO_permitted_39 rfl ?_ ?_
      · intro b39
        refine zi_iload_n (pc := 46) h (i := 2) zd_MO_permitted_46 rfl 4 rfl ?_
        refine zi_aload_n (pc := 47) h (i := 0) zd_MO_permitted_47 rfl 2 rfl ?_
        refine zi_get (pc := 48) h zx_MO 26 5 zq_k26 rfl zq_j_5_18 zw_589 rfl zd_MO_permitted_48 ?_
        refine zi_iload_n (pc := 51) h (i := 3) zd_MO_permitted_51 rfl 1 rfl ?_
        refine zi_iald (pc := 52) h 30 zq_k30 rfl (zz_ixN (j := i) (by omega)) zd_MO_permitted_52 ?_
        refine zi_ixor (pc := 53) h zd_MO_permitted_53 ?_
        refine zi_bipush (pc := 54) h zd_MO_permitted_54 zq_bi_32 ?_
        refine zi_aload_n (pc := 56) h (i := 0) zd_MO_permitted_56 rfl 2 rfl ?_
        refine zi_get (pc := 57) h zx_MO 26 6 zq_k26 rfl zq_j_6_18 zw_590 rfl zd_MO_permitted_57 ?_
        refine zi_iload_n (pc := 60) h (i := 3) zd_MO_permitted_60 rfl 1 rfl ?_
        refine zi_iald (pc := 61) h 31 zq_k31 rfl (zz_ixN (j := i) (by omega)) zd_MO_permitted_61 ?_
        refine zi_isub (pc := 62) h zd_MO_permitted_62 ?_
        refine zi_iushr (pc := 63) h zd_MO_permitted_63 (show _ = zs_ush _ _ from rfl) ?_
        refine zi_istore (pc := 64) h (i := 5) (L' := [(5, _), (4, _), (3, _), (0, _), (1, _), (2, _)]) zd_MO_permitted_64 (by decide) rfl ?_
        refine zi_iload (pc := 66) h (i := 4) zd_MO_permitted_66 1 rfl ?_
        refine zi_if_eq_f (pc := 68) h (tgt := 83) zd_MO_permitted_68 rfl (by decide) ?_
        refine zi_iload (pc := 71) h (i := 5) zd_MO_permitted_71 0 rfl ?_
        refine zi_if_ne (pc := 73) h (tgt := 83) zd_MO_permitted_73 rfl ?_ ?_
        · intro b73
          refine zi_iinc (pc := 83) h (i := 3) (L' := [(3, _), (5, _), (4, _), (0, _), (1, _), (2, _)]) zd_MO_permitted_83 2 rfl (zq_incN i) (by decide) rfl ?_
          refine zi_goto (pc := 86) h (tgt := 2) zd_MO_permitted_86 rfl ?_
          refine zi_sub (L' := [(3, _), (0, _), (1, _), (2, _)]) [0, 3, 4, 5] rfl ?_
          exact ih (i + 1) (by omega) (by rw [he, zv_per, if_pos (show zv_hit ra k a i = 0 by unfold zv_hit; (try rw [if_pos b13]); (try rw [if_neg b39]); (try rw [if_neg b73]); (try unfold zv_hi2); (try rw [if_pos b13]); (try rw [if_neg b39]); (try rw [if_neg b73]); (try rfl))]) hF
        · intro b73
          refine zi_aload_n (pc := 76) h (i := 0) zd_MO_permitted_76 rfl 3 rfl ?_
          refine zi_get (pc := 77) h zx_MO 26 7 zq_k26 rfl zq_j_7_18 zw_591 rfl zd_MO_permitted_77 ?_
          refine zi_iload_n (pc := 80) h (i := 3) zd_MO_permitted_80 rfl 2 rfl ?_
          refine zi_zald (pc := 81) h 32 zq_k32 rfl (zz_ixN (j := i) (by omega)) zd_MO_permitted_81 ?_
          exact zi_zreturn (pc := 82) h hr (zq_nb (hb i)) zd_MO_permitted_82 (by rw [he, zv_per, if_neg (show ¬ zv_hit ra k a i = 0 by unfold zv_hit; (try rw [if_pos b13]); (try rw [if_neg b39]); (try rw [if_pos b73]); (try unfold zv_hi2); (try rw [if_pos b13]); (try rw [if_neg b39]); (try rw [if_pos b73]); decide)]) hF
      · intro b39
        refine zi_iconst (pc := 42) h zd_MO_permitted_42 zq_ic_0 ?_
        refine zi_goto (pc := 43) h (tgt := 64) zd_MO_permitted_43 rfl ?_
        refine zi_istore (pc := 64) h (i := 5) (L' := [(5, _), (4, _), (3, _), (0, _), (1, _), (2, _)]) zd_MO_permitted_64 (by decide) rfl ?_
        refine zi_iload (pc := 66) h (i := 4) zd_MO_permitted_66 1 rfl ?_
        refine zi_if_eq_f (pc := 68) h (tgt := 83) zd_MO_permitted_68 rfl (by decide) ?_
        refine zi_iload (pc := 71) h (i := 5) zd_MO_permitted_71 0 rfl ?_
        refine zi_if_ne_f (pc := 73) h (tgt := 83) zd_MO_permitted_73 rfl (by decide) ?_
        refine zi_aload_n (pc := 76) h (i := 0) zd_MO_permitted_76 rfl 3 rfl ?_
        refine zi_get (pc := 77) h zx_MO 26 7 zq_k26 rfl zq_j_7_18 zw_591 rfl zd_MO_permitted_77 ?_
        refine zi_iload_n (pc := 80) h (i := 3) zd_MO_permitted_80 rfl 2 rfl ?_
        refine zi_zald (pc := 81) h 32 zq_k32 rfl (zz_ixN (j := i) (by omega)) zd_MO_permitted_81 ?_
        exact zi_zreturn (pc := 82) h hr (zq_nb (hb i)) zd_MO_permitted_82 (by rw [he, zv_per, if_neg (show ¬ zv_hit ra k a i = 0 by unfold zv_hit; (try rw [if_pos b13]); (try rw [if_pos b39]); (try unfold zv_hi2); (try rw [if_pos b13]); (try rw [if_pos b39]); decide)]) hF
    · intro b13
      refine zi_aload_n (pc := 16) h (i := 0) zd_MO_permitted_16 rfl 1 rfl ?_
      refine zi_get (pc := 17) h zx_MO 26 4 zq_k26 rfl zq_j_4_18 zw_588 rfl zd_MO_permitted_17 ?_
      refine zi_iload_n (pc := 20) h (i := 3) zd_MO_permitted_20 rfl 0 rfl ?_
      refine zi_iald (pc := 21) h 29 zq_k29 rfl (zz_ixN (j := i) (by omega)) zd_MO_permitted_21 ?_
      refine zi_iload_n (pc := 22) h (i := 1) zd_MO_permitted_22 rfl 2 rfl ?_
      refine zi_icmp_ne (pc := 23) h (tgt := 30) zd_MO_permitted_23 rfl ?_ ?_
      · intro b23
        refine zi_iconst (pc := 30) h zd_MO_permitted_30 zq_ic_0 ?_
        refine zi_istore (pc := 31) h (i := 4) (L' := [(4, _), (3, _), (0, _), (1, _), (2, _)]) zd_MO_permitted_31 (by decide) rfl ?_
        refine zi_aload_n (pc := 33) h (i := 0) zd_MO_permitted_33 rfl 2 rfl ?_
        refine zi_get (pc := 34) h zx_MO 26 6 zq_k26 rfl zq_j_6_18 zw_590 rfl zd_MO_permitted_34 ?_
        refine zi_iload_n (pc := 37) h (i := 3) zd_MO_permitted_37 rfl 1 rfl ?_
        refine zi_iald (pc := 38) h 31 zq_k31 rfl (zz_ixN (j := i) (by omega)) zd_MO_permitted_38 ?_
        refine zi_if_ne (pc := 39) h (tgt := 46) zd_MO_permitted_39 rfl ?_ ?_
        · intro b39
          refine zi_iload_n (pc := 46) h (i := 2) zd_MO_permitted_46 rfl 4 rfl ?_
          refine zi_aload_n (pc := 47) h (i := 0) zd_MO_permitted_47 rfl 2 rfl ?_
          refine zi_get (pc := 48) h zx_MO 26 5 zq_k26 rfl zq_j_5_18 zw_589 rfl zd_MO_permitted_48 ?_
          refine zi_iload_n (pc := 51) h (i := 3) zd_MO_permitted_51 rfl 1 rfl ?_
          refine zi_iald (pc := 52) h 30 zq_k30 rfl (zz_ixN (j := i) (by omega)) zd_MO_permitted_52 ?_
          refine zi_ixor (pc := 53) h zd_MO_permitted_53 ?_
          refine zi_bipush (pc := 54) h zd_MO_permitted_54 zq_bi_32 ?_
          refine zi_aload_n (pc := 56) h (i := 0) zd_MO_permitted_56 rfl 2 rfl ?_
          refine zi_get (pc := 57) h zx_MO 26 6 zq_k26 rfl zq_j_6_18 zw_590 rfl zd_MO_permitted_57 ?_
          refine zi_iload_n (pc := 60) h (i := 3) zd_MO_permitted_60 rfl 1 rfl ?_
          refine zi_iald (pc := 61) h 31 zq_k31 rfl (zz_ixN (j := i) (by omega)) zd_MO_permitted_61 ?_
          refine zi_isub (pc := 62) h zd_MO_permitted_62 ?_
          refine zi_iushr (pc := 63) h zd_MO_permitted_63 (show _ = zs_ush _ _ from rfl) ?_
          refine zi_istore (pc := 64) h (i := 5) (L' := [(5, _), (4, _), (3, _), (0, _), (1, _), (2, _)]) zd_MO_permitted_64 (by decide) rfl ?_
          refine zi_iload (pc := 66) h (i := 4) zd_MO_permitted_66 1 rfl ?_
          refine zi_if_eq_t (pc := 68) h (tgt := 83) zd_MO_permitted_68 rfl (by decide) ?_
          refine zi_iinc (pc := 83) h (i := 3) (L' := [(3, _), (5, _), (4, _), (0, _), (1, _), (2, _)]) zd_MO_permitted_83 2 rfl (zq_incN i) (by decide) rfl ?_
          refine zi_goto (pc := 86) h (tgt := 2) zd_MO_permitted_86 rfl ?_
          refine zi_sub (L' := [(3, _), (0, _), (1, _), (2, _)]) [0, 3, 4, 5] rfl ?_
          exact ih (i + 1) (by omega) (by rw [he, zv_per, if_pos (show zv_hit ra k a i = 0 by unfold zv_hit; (try rw [if_neg b13]); (try rw [if_neg b23]); (try rw [if_neg b39]); (try unfold zv_hi2); (try rw [if_neg b13]); (try rw [if_neg b23]); (try rw [if_neg b39]); (try rfl))]) hF
        · intro b39
          refine zi_iconst (pc := 42) h zd_MO_permitted_42 zq_ic_0 ?_
          refine zi_goto (pc := 43) h (tgt := 64) zd_MO_permitted_43 rfl ?_
          refine zi_istore (pc := 64) h (i := 5) (L' := [(5, _), (4, _), (3, _), (0, _), (1, _), (2, _)]) zd_MO_permitted_64 (by decide) rfl ?_
          refine zi_iload (pc := 66) h (i := 4) zd_MO_permitted_66 1 rfl ?_
          refine zi_if_eq_t (pc := 68) h (tgt := 83) zd_MO_permitted_68 rfl (by decide) ?_
          refine zi_iinc (pc := 83) h (i := 3) (L' := [(3, _), (5, _), (4, _), (0, _), (1, _), (2, _)]) zd_MO_permitted_83 2 rfl (zq_incN i) (by decide) rfl ?_
          refine zi_goto (pc := 86) h (tgt := 2) zd_MO_permitted_86 rfl ?_
          refine zi_sub (L' := [(3, _), (0, _), (1, _), (2, _)]) [0, 3, 4, 5] rfl ?_
          exact ih (i + 1) (by omega) (by rw [he, zv_per, if_pos (show zv_hit ra k a i = 0 by unfold zv_hit; (try rw [if_neg b13]); (try rw [if_neg b23]); (try rw [if_pos b39]); (try unfold zv_hi2); (try rw [if_neg b13]); (try rw [if_neg b23]); (try rw [if_pos b39]); (try rfl))]) hF
      · intro b23
        refine zi_iconst (pc := 26) h zd_MO_permitted_26 zq_ic_1 ?_
        refine zi_goto (pc := 27) h (tgt := 31) zd_MO_permitted_27 rfl ?_
        refine zi_istore (pc := 31) h (i := 4) (L' := [(4, _), (3, _), (0, _), (1, _), (2, _)]) zd_MO_permitted_31 (by decide) rfl ?_
        refine zi_aload_n (pc := 33) h (i := 0) zd_MO_permitted_33 rfl 2 rfl ?_
        refine zi_get (pc := 34) h zx_MO 26 6 zq_k26 rfl zq_j_6_18 zw_590 rfl zd_MO_permitted_34 ?_
        refine zi_iload_n (pc := 37) h (i := 3) zd_MO_permitted_37 rfl 1 rfl ?_
        refine zi_iald (pc := 38) h 31 zq_k31 rfl (zz_ixN (j := i) (by omega)) zd_MO_permitted_38 ?_
        refine zi_if_ne (pc := 39) h (tgt := 46) zd_MO_permitted_39 rfl ?_ ?_
        · intro b39
          refine zi_iload_n (pc := 46) h (i := 2) zd_MO_permitted_46 rfl 4 rfl ?_
          refine zi_aload_n (pc := 47) h (i := 0) zd_MO_permitted_47 rfl 2 rfl ?_
          refine zi_get (pc := 48) h zx_MO 26 5 zq_k26 rfl zq_j_5_18 zw_589 rfl zd_MO_permitted_48 ?_
          refine zi_iload_n (pc := 51) h (i := 3) zd_MO_permitted_51 rfl 1 rfl ?_
          refine zi_iald (pc := 52) h 30 zq_k30 rfl (zz_ixN (j := i) (by omega)) zd_MO_permitted_52 ?_
          refine zi_ixor (pc := 53) h zd_MO_permitted_53 ?_
          refine zi_bipush (pc := 54) h zd_MO_permitted_54 zq_bi_32 ?_
          refine zi_aload_n (pc := 56) h (i := 0) zd_MO_permitted_56 rfl 2 rfl ?_
          refine zi_get (pc := 57) h zx_MO 26 6 zq_k26 rfl zq_j_6_18 zw_590 rfl zd_MO_permitted_57 ?_
          refine zi_iload_n (pc := 60) h (i := 3) zd_MO_permitted_60 rfl 1 rfl ?_
          refine zi_iald (pc := 61) h 31 zq_k31 rfl (zz_ixN (j := i) (by omega)) zd_MO_permitted_61 ?_
          refine zi_isub (pc := 62) h zd_MO_permitted_62 ?_
          refine zi_iushr (pc := 63) h zd_MO_permitted_63 (show _ = zs_ush _ _ from rfl) ?_
          refine zi_istore (pc := 64) h (i := 5) (L' := [(5, _), (4, _), (3, _), (0, _), (1, _), (2, _)]) zd_MO_permitted_64 (by decide) rfl ?_
          refine zi_iload (pc := 66) h (i := 4) zd_MO_permitted_66 1 rfl ?_
          refine zi_if_eq_f (pc := 68) h (tgt := 83) zd_MO_permitted_68 rfl (by decide) ?_
          refine zi_iload (pc := 71) h (i := 5) zd_MO_permitted_71 0 rfl ?_
          refine zi_if_ne (pc := 73) h (tgt := 83) zd_MO_permitted_73 rfl ?_ ?_
          · intro b73
            refine zi_iinc (pc := 83) h (i := 3) (L' := [(3, _), (5, _), (4, _), (0, _), (1, _), (2, _)]) zd_MO_permitted_83 2 rfl (zq_incN i) (by decide) rfl ?_
            refine zi_goto (pc := 86) h (tgt := 2) zd_MO_permitted_86 rfl ?_
            refine zi_sub (L' := [(3, _), (0, _), (1, _), (2, _)]) [0, 3, 4, 5] rfl ?_
            exact ih (i + 1) (by omega) (by rw [he, zv_per, if_pos (show zv_hit ra k a i = 0 by unfold zv_hit; (try rw [if_neg b13]); (try rw [if_pos b23]); (try rw [if_neg b39]); (try rw [if_neg b73]); (try unfold zv_hi2); (try rw [if_neg b13]); (try rw [if_pos b23]); (try rw [if_neg b39]); (try rw [if_neg b73]); (try rfl))]) hF
          · intro b73
            refine zi_aload_n (pc := 76) h (i := 0) zd_MO_permitted_76 rfl 3 rfl ?_
            refine zi_get (pc := 77) h zx_MO 26 7 zq_k26 rfl zq_j_7_18 zw_591 rfl zd_MO_permitted_77 ?_
            refine zi_iload_n (pc := 80) h (i := 3) zd_MO_permitted_80 rfl 2 rfl ?_
            refine zi_zald (pc := 81) h 32 zq_k32 rfl (zz_ixN (j := i) (by omega)) zd_MO_permitted_81 ?_
            exact zi_zreturn (pc := 82) h hr (zq_nb (hb i)) zd_MO_permitted_82 (by rw [he, zv_per, if_neg (show ¬ zv_hit ra k a i = 0 by unfold zv_hit; (try rw [if_neg b13]); (try rw [if_pos b23]); (try rw [if_neg b39]); (try rw [if_pos b73]); (try unfold zv_hi2); (try rw [if_neg b13]); (try rw [if_pos b23]); (try rw [if_neg b39]); (try rw [if_pos b73]); decide)]) hF
        · intro b39
          refine zi_iconst (pc := 42) h zd_MO_permitted_42 zq_ic_0 ?_
          refine zi_goto (pc := 43) h (tgt := 64) zd_MO_permitted_43 rfl ?_
          refine zi_istore (pc := 64) h (i := 5) (L' := [(5, _), (4, _), (3, _), (0, _), (1, _), (2, _)]) zd_MO_permitted_64 (by decide) rfl ?_
          refine zi_iload (pc := 66) h (i := 4) zd_MO_permitted_66 1 rfl ?_
          refine zi_if_eq_f (pc := 68) h (tgt := 83) zd_MO_permitted_68 rfl (by decide) ?_
          refine zi_iload (pc := 71) h (i := 5) zd_MO_permitted_71 0 rfl ?_
          refine zi_if_ne_f (pc := 73) h (tgt := 83) zd_MO_permitted_73 rfl (by decide) ?_
          refine zi_aload_n (pc := 76) h (i := 0) zd_MO_permitted_76 rfl 3 rfl ?_
          refine zi_get (pc := 77) h zx_MO 26 7 zq_k26 rfl zq_j_7_18 zw_591 rfl zd_MO_permitted_77 ?_
          refine zi_iload_n (pc := 80) h (i := 3) zd_MO_permitted_80 rfl 2 rfl ?_
          refine zi_zald (pc := 81) h 32 zq_k32 rfl (zz_ixN (j := i) (by omega)) zd_MO_permitted_81 ?_
          exact zi_zreturn (pc := 82) h hr (zq_nb (hb i)) zd_MO_permitted_82 (by rw [he, zv_per, if_neg (show ¬ zv_hit ra k a i = 0 by unfold zv_hit; (try rw [if_neg b13]); (try rw [if_pos b23]); (try rw [if_pos b39]); (try unfold zv_hi2); (try rw [if_neg b13]); (try rw [if_pos b23]); (try rw [if_pos b39]); decide)]) hF

set_option maxRecDepth 20000 in
theorem zc_MO_permitted {l : Launch} {G : zz_G} {F : Nat → va_E} {w : Nat → Int32} {sz : Int32} {la : Nat → Int32} {lz : Int32} {ra : Nat → Nat → Int32} {fn : Int32} {fa : Nat → Nat → Int32} {cd : Int32} {k a : Int32} (hb : ∀ i, ra 3 i = 0 ∨ ra 3 i = 1) : zz_M l zy_MO_permitted zb_MO_permitted 6 (some .boolean) 0 0 G [.ref (G.2.2 26), .int k, .int a] (zz_N G F w sz la lz ra fn fa cd) (some (.int (zv_per ra k a 0 4))) (zz_N G F w sz la lz ra fn fa cd) := by
  refine zz_M.of (by decide) (Nat.le_of_ble_eq_true rfl) ?_
  intro X hX h hr
  subst hX
  have h : zz_C X G (zz_A G.2.2) 6 zb_MO_permitted "PortTranslatorModel" 0 0 0 0 := h
  refine zi_iconst (pc := 0) h zd_MO_permitted_0 zq_ic_0 ?_
  refine zi_istore_n (pc := 1) h (i := 3) (L' := [(3, _), (0, _), (1, _), (2, _)]) zd_MO_permitted_1 rfl (by decide) rfl ?_
  exact zl_MO_permitted hb h hr 4 0 rfl rfl rfl

set_option maxRecDepth 20000 in
theorem zl_MO_portFor1 {X : zz_X} {r : Option Value} {F' : Nat → va_E} {G : zz_G} {F : Nat → va_E} {w : Nat → Int32} {sz : Int32} {la : Nat → Int32} {lz : Int32} {ra : Nat → Nat → Int32} {fa : Nat → Nat → Int32} {cd : Int32} {c : Nat} {k a p : Int32} {y b : Int32} (hc : c ≤ 12) (h : zz_C X G (zz_A G.2.2) 8 zb_MO_portFor "PortTranslatorModel" 0 0 0 0) : ∀ (n i : Nat) (t : Int32), i + n = c → (zz_W X G (zz_A G.2.2) 8 0 0 (zz_E X G r F') (zz_N G F w sz la lz ra (nI c) fa cd) 70 [(7, .int (nI c)), (6, .int (zv_tk fa k y i n t)), (5, .int y), (4, .int b), (0, .ref (G.2.2 26)), (1, .int k), (2, .int a), (3, .int p)] []) → zz_W X G (zz_A G.2.2) 8 0 0 (zz_E X G r F') (zz_N G F w sz la lz ra (nI c) fa cd) 20 [(7, .int (nI i)), (6, .int t), (5, .int y), (4, .int b), (0, .ref (G.2.2 26)), (1, .int k), (2, .int a), (3, .int p)] [] := by
  intro n
  induction n with
  | zero =>
    intro i t hi kk
    obtain rfl : i = c := hi
    refine zi_iload (pc := 20) h (i := 7) zd_MO_portFor_20 0 rfl ?_
    refine zi_aload_n (pc := 22) h (i := 0) zd_MO_portFor_22 rfl 4 rfl ?_
    refine zi_get (pc := 23) h zx_MO 26 8 zq_k26 rfl zq_j_8_18 zw_592 rfl zd_MO_portFor_23 ?_
    refine zi_icmp_ge_t (pc := 26) h (tgt := 70) zd_MO_portFor_26 rfl (nI_le (by omega) (by omega)) ?_
    exact kk
  | succ n ih =>
    intro i t hi kk
    refine zi_iload (pc := 20) h (i := 7) zd_MO_portFor_20 0 rfl ?_
    refine zi_aload_n (pc := 22) h (i := 0) zd_MO_portFor_22 rfl 4 rfl ?_
    refine zi_get (pc := 23) h zx_MO 26 8 zq_k26 rfl zq_j_8_18 zw_592 rfl zd_MO_portFor_23 ?_
    refine zi_icmp_ge_f (pc := 26) h (tgt := 70) zd_MO_portFor_26 rfl (nI_ge (by omega) (by omega)) ?_
    refine zi_iload (pc := 29) h (i := 6) zd_MO_portFor_29 1 rfl ?_
    refine zi_if_ne (pc := 31) h (tgt := 57) zd_MO_portFor_31 rfl ?_ ?_
    · intro b31
      refine zi_iconst (pc := 57) h zd_MO_portFor_57 zq_ic_1 ?_
      refine zi_goto (pc := 58) h (tgt := 62) zd_MO_portFor_58 rfl ?_
      refine zi_topv (zv_t1 fa k y t i) (by unfold zv_t1; (try rw [if_neg b31]); (try rfl)) ?_
      refine zi_istore (pc := 62) h (i := 6) (L' := [(6, _), (7, _), (5, _), (4, _), (0, _), (1, _), (2, _), (3, _)]) zd_MO_portFor_62 (by decide) rfl ?_
      refine zi_iinc (pc := 64) h (i := 7) (L' := [(7, _), (6, _), (5, _), (4, _), (0, _), (1, _), (2, _), (3, _)]) zd_MO_portFor_64 1 rfl (zq_incN i) (by decide) rfl ?_
      refine zi_goto (pc := 67) h (tgt := 20) zd_MO_portFor_67 rfl ?_
      exact ih (i + 1) _ (by omega) kk
    · intro b31
      refine zi_aload_n (pc := 34) h (i := 0) zd_MO_portFor_34 rfl 4 rfl ?_
      refine zi_get (pc := 35) h zx_MO 26 9 zq_k26 rfl zq_j_9_18 zw_593 rfl zd_MO_portFor_35 ?_
      refine zi_iload (pc := 38) h (i := 7) zd_MO_portFor_38 0 rfl ?_
      refine zi_iald (pc := 40) h 33 zq_k33 rfl (zz_ixN (j := i) (by omega)) zd_MO_portFor_40 ?_
      refine zi_iload_n (pc := 41) h (i := 1) zd_MO_portFor_41 rfl 5 rfl ?_
      refine zi_icmp_ne (pc := 42) h (tgt := 61) zd_MO_portFor_42 rfl ?_ ?_
      · intro b42
        refine zi_iconst (pc := 61) h zd_MO_portFor_61 zq_ic_0 ?_
        refine zi_topv (zv_t1 fa k y t i) (by unfold zv_t1; (try rw [if_pos b31]); (try rw [if_neg b42]); (try rfl)) ?_
        refine zi_istore (pc := 62) h (i := 6) (L' := [(6, _), (7, _), (5, _), (4, _), (0, _), (1, _), (2, _), (3, _)]) zd_MO_portFor_62 (by decide) rfl ?_
        refine zi_iinc (pc := 64) h (i := 7) (L' := [(7, _), (6, _), (5, _), (4, _), (0, _), (1, _), (2, _), (3, _)]) zd_MO_portFor_64 1 rfl (zq_incN i) (by decide) rfl ?_
        refine zi_goto (pc := 67) h (tgt := 20) zd_MO_portFor_67 rfl ?_
        exact ih (i + 1) _ (by omega) kk
      · intro b42
        refine zi_aload_n (pc := 45) h (i := 0) zd_MO_portFor_45 rfl 4 rfl ?_
        refine zi_get (pc := 46) h zx_MO 26 14 zq_k26 rfl zq_j_14_18 zw_598 rfl zd_MO_portFor_46 ?_
        refine zi_iload (pc := 49) h (i := 7) zd_MO_portFor_49 0 rfl ?_
        refine zi_iald (pc := 51) h 38 zq_k38 rfl (zz_ixN (j := i) (by omega)) zd_MO_portFor_51 ?_
        refine zi_iload (pc := 52) h (i := 5) zd_MO_portFor_52 2 rfl ?_
        refine zi_icmp_ne (pc := 54) h (tgt := 61) zd_MO_portFor_54 rfl ?_ ?_
        · intro b54
          refine zi_iconst (pc := 61) h zd_MO_portFor_61 zq_ic_0 ?_
          refine zi_topv (zv_t1 fa k y t i) (by unfold zv_t1; (try rw [if_pos b31]); (try rw [if_pos b42]); (try rw [if_neg b54]); (try rfl)) ?_
          refine zi_istore (pc := 62) h (i := 6) (L' := [(6, _), (7, _), (5, _), (4, _), (0, _), (1, _), (2, _), (3, _)]) zd_MO_portFor_62 (by decide) rfl ?_
          refine zi_iinc (pc := 64) h (i := 7) (L' := [(7, _), (6, _), (5, _), (4, _), (0, _), (1, _), (2, _), (3, _)]) zd_MO_portFor_64 1 rfl (zq_incN i) (by decide) rfl ?_
          refine zi_goto (pc := 67) h (tgt := 20) zd_MO_portFor_67 rfl ?_
          exact ih (i + 1) _ (by omega) kk
        · intro b54
          refine zi_iconst (pc := 57) h zd_MO_portFor_57 zq_ic_1 ?_
          refine zi_goto (pc := 58) h (tgt := 62) zd_MO_portFor_58 rfl ?_
          refine zi_topv (zv_t1 fa k y t i) (by unfold zv_t1; (try rw [if_pos b31]); (try rw [if_pos b42]); (try rw [if_pos b54]); (try rfl)) ?_
          refine zi_istore (pc := 62) h (i := 6) (L' := [(6, _), (7, _), (5, _), (4, _), (0, _), (1, _), (2, _), (3, _)]) zd_MO_portFor_62 (by decide) rfl ?_
          refine zi_iinc (pc := 64) h (i := 7) (L' := [(7, _), (6, _), (5, _), (4, _), (0, _), (1, _), (2, _), (3, _)]) zd_MO_portFor_64 1 rfl (zq_incN i) (by decide) rfl ?_
          refine zi_goto (pc := 67) h (tgt := 20) zd_MO_portFor_67 rfl ?_
          exact ih (i + 1) _ (by omega) kk

set_option maxRecDepth 20000 in
theorem zl_MO_portFor2 {X : zz_X} {r : Option Value} {F' : Nat → va_E} {G : zz_G} {F : Nat → va_E} {w : Nat → Int32} {sz : Int32} {la : Nat → Int32} {lz : Int32} {ra : Nat → Nat → Int32} {fa : Nat → Nat → Int32} {cd : Int32} {c : Nat} {k a p : Int32} (hc : c ≤ 12) (h : zz_C X G (zz_A G.2.2) 8 zb_MO_portFor "PortTranslatorModel" 0 0 0 0) : ∀ (j : Nat) (y b : Int32), j ≤ 6 → y = nI (40000 + j) - 1 → (∀ y : Int32, zz_W X G (zz_A G.2.2) 8 0 0 (zz_E X G r F') (zz_N G F w sz la lz ra (nI c) fa cd) 90 [(5, .int y), (4, .int (zv_fr fa c k j b)), (0, .ref (G.2.2 26)), (1, .int k), (2, .int a), (3, .int p)] []) → zz_W X G (zz_A G.2.2) 8 0 0 (zz_E X G r F') (zz_N G F w sz la lz ra (nI c) fa cd) 7 [(5, .int y), (4, .int b), (0, .ref (G.2.2 26)), (1, .int k), (2, .int a), (3, .int p)] [] := by
  intro j
  induction j with
  | zero =>
    intro y b hj hy kk
    subst hy
    refine zi_iload (pc := 7) h (i := 5) zd_MO_portFor_7 0 rfl ?_
    refine zi_ldc (pc := 9) h zw_724 zd_MO_portFor_9 ?_
    refine zi_icmp_lt_t (pc := 11) h (tgt := 90) zd_MO_portFor_11 rfl (by decide) ?_
    exact kk _
  | succ j ih =>
    intro y b hj hy kk
    obtain rfl : y = nI (40000 + j) := hy.trans (nI_pred (40000 + j))
    refine zi_iload (pc := 7) h (i := 5) zd_MO_portFor_7 0 rfl ?_
    refine zi_ldc (pc := 9) h zw_724 zd_MO_portFor_9 ?_
    refine zi_icmp_lt_f (pc := 11) h (tgt := 90) zd_MO_portFor_11 rfl (nI_nlt (b := 40000) (by omega) (by omega)) ?_
    refine zi_iconst (pc := 14) h zd_MO_portFor_14 zq_ic_0 ?_
    refine zi_istore (pc := 15) h (i := 6) (L' := [(6, _), (5, _), (4, _), (0, _), (1, _), (2, _), (3, _)]) zd_MO_portFor_15 (by decide) rfl ?_
    refine zi_iconst (pc := 17) h zd_MO_portFor_17 zq_ic_0 ?_
    refine zi_istore (pc := 18) h (i := 7) (L' := [(7, _), (6, _), (5, _), (4, _), (0, _), (1, _), (2, _), (3, _)]) zd_MO_portFor_18 (by decide) rfl ?_
    refine zl_MO_portFor1 hc h c 0 0 (by omega) ?_
    refine zi_iload (pc := 70) h (i := 6) zd_MO_portFor_70 1 rfl ?_
    refine zi_if_eq (pc := 72) h (tgt := 80) zd_MO_portFor_72 rfl ?_ ?_
    · intro b72
      refine zi_iload (pc := 80) h (i := 5) zd_MO_portFor_80 2 rfl ?_
      refine zi_istore (pc := 82) h (i := 4) (L' := [(4, _), (7, _), (6, _), (5, _), (0, _), (1, _), (2, _), (3, _)]) zd_MO_portFor_82 (by decide) rfl ?_
      refine zi_iinc (pc := 84) h (i := 5) (L' := [(5, _), (4, _), (7, _), (6, _), (0, _), (1, _), (2, _), (3, _)]) zd_MO_portFor_84 3 rfl (zq_dec (40000 + j)) (by decide) rfl ?_
      refine zi_goto (pc := 87) h (tgt := 7) zd_MO_portFor_87 rfl ?_
      refine zi_sub (L' := [(5, _), (4, _), (0, _), (1, _), (2, _), (3, _)]) [0, 1, 4, 5, 6, 7] rfl ?_
      exact ih _ _ (by omega) rfl (by rw [zv_fr, if_pos b72] at kk; exact kk)
    · intro b72
      refine zi_iload (pc := 75) h (i := 4) zd_MO_portFor_75 3 rfl ?_
      refine zi_goto (pc := 77) h (tgt := 82) zd_MO_portFor_77 rfl ?_
      refine zi_istore (pc := 82) h (i := 4) (L' := [(4, _), (7, _), (6, _), (5, _), (0, _), (1, _), (2, _), (3, _)]) zd_MO_portFor_82 (by decide) rfl ?_
      refine zi_iinc (pc := 84) h (i := 5) (L' := [(5, _), (4, _), (7, _), (6, _), (0, _), (1, _), (2, _), (3, _)]) zd_MO_portFor_84 3 rfl (zq_dec (40000 + j)) (by decide) rfl ?_
      refine zi_goto (pc := 87) h (tgt := 7) zd_MO_portFor_87 rfl ?_
      refine zi_sub (L' := [(5, _), (4, _), (0, _), (1, _), (2, _), (3, _)]) [0, 1, 4, 5, 6, 7] rfl ?_
      exact ih _ _ (by omega) rfl (by rw [zv_fr, if_neg b72] at kk; exact kk)

set_option maxRecDepth 20000 in
theorem zl_MO_portFor3 {X : zz_X} {r : Option Value} {F' : Nat → va_E} {G : zz_G} {F : Nat → va_E} {w : Nat → Int32} {sz : Int32} {la : Nat → Int32} {lz : Int32} {ra : Nat → Nat → Int32} {fa : Nat → Nat → Int32} {cd : Int32} {c : Nat} {k a p : Int32} (hc : c ≤ 12) (h : zz_C X G (zz_A G.2.2) 8 zb_MO_portFor "PortTranslatorModel" 0 0 0 0) (hr : X.2.2.2.2.2.2.2.2.1.sig.returnType = (some .int)) : ∀ (n i : Nat) (b : Int32), i + n = c → r = some (.int (zv_bd fa k a p i n b)) → (zz_N G F w sz la lz ra (nI c) fa cd) = F' → zz_W X G (zz_A G.2.2) 8 0 0 (zz_E X G r F') (zz_N G F w sz la lz ra (nI c) fa cd) 93 [(5, .int (nI i)), (4, .int b), (0, .ref (G.2.2 26)), (1, .int k), (2, .int a), (3, .int p)] [] := by
  intro n
  induction n with
  | zero =>
    intro i b hi he hF
    refine zi_iload (pc := 93) h (i := 5) zd_MO_portFor_93 0 rfl ?_
    refine zi_aload_n (pc := 95) h (i := 0) zd_MO_portFor_95 rfl 2 rfl ?_
    refine zi_get (pc := 96) h zx_MO 26 8 zq_k26 rfl zq_j_8_18 zw_592 rfl zd_MO_portFor_96 ?_
    refine zi_icmp_ge_t (pc := 99) h (tgt := 155) zd_MO_portFor_99 rfl (nI_le (by omega) (by omega)) ?_
    refine zi_iload (pc := 155) h (i := 4) zd_MO_portFor_155 1 rfl ?_
    exact zi_ireturn (pc := 157) h hr zd_MO_portFor_157 he.symm hF
  | succ n ih =>
    intro i b hi he hF
    refine zi_iload (pc := 93) h (i := 5) zd_MO_portFor_93 0 rfl ?_
    refine zi_aload_n (pc := 95) h (i := 0) zd_MO_portFor_95 rfl 2 rfl ?_
    refine zi_get (pc := 96) h zx_MO 26 8 zq_k26 rfl zq_j_8_18 zw_592 rfl zd_MO_portFor_96 ?_
    refine zi_icmp_ge_f (pc := 99) h (tgt := 155) zd_MO_portFor_99 rfl (nI_ge (by omega) (by omega)) ?_
    refine zi_aload_n (pc := 102) h (i := 0) zd_MO_portFor_102 rfl 2 rfl ?_
    refine zi_get (pc := 103) h zx_MO 26 9 zq_k26 rfl zq_j_9_18 zw_593 rfl zd_MO_portFor_103 ?_
    refine zi_iload (pc := 106) h (i := 5) zd_MO_portFor_106 0 rfl ?_
    refine zi_iald (pc := 108) h 33 zq_k33 rfl (zz_ixN (j := i) (by omega)) zd_MO_portFor_108 ?_
    refine zi_iload_n (pc := 109) h (i := 1) zd_MO_portFor_109 rfl 3 rfl ?_
    refine zi_icmp_ne (pc := 110) h (tgt := 145) zd_MO_portFor_110 rfl ?_ ?_
    · intro b110
      refine zi_iload (pc := 145) h (i := 4) zd_MO_portFor_145 1 rfl ?_
      refine zi_topv (zv_b1 fa k a p b i) (by unfold zv_b1; (try rw [if_neg b110]); (try rfl)) ?_
      refine zi_istore (pc := 147) h (i := 4) (L' := [(4, _), (5, _), (0, _), (1, _), (2, _), (3, _)]) zd_MO_portFor_147 (by decide) rfl ?_
      refine zi_iinc (pc := 149) h (i := 5) (L' := [(5, _), (4, _), (0, _), (1, _), (2, _), (3, _)]) zd_MO_portFor_149 1 rfl (zq_incN i) (by decide) rfl ?_
      refine zi_goto (pc := 152) h (tgt := 93) zd_MO_portFor_152 rfl ?_
      exact ih (i + 1) _ (by omega) he hF
    · intro b110
      refine zi_aload_n (pc := 113) h (i := 0) zd_MO_portFor_113 rfl 2 rfl ?_
      refine zi_get (pc := 114) h zx_MO 26 10 zq_k26 rfl zq_j_10_18 zw_594 rfl zd_MO_portFor_114 ?_
      refine zi_iload (pc := 117) h (i := 5) zd_MO_portFor_117 0 rfl ?_
      refine zi_iald (pc := 119) h 34 zq_k34 rfl (zz_ixN (j := i) (by omega)) zd_MO_portFor_119 ?_
      refine zi_iload_n (pc := 120) h (i := 2) zd_MO_portFor_120 rfl 4 rfl ?_
      refine zi_icmp_ne (pc := 121) h (tgt := 145) zd_MO_portFor_121 rfl ?_ ?_
      · intro b121
        refine zi_iload (pc := 145) h (i := 4) zd_MO_portFor_145 1 rfl ?_
        refine zi_topv (zv_b1 fa k a p b i) (by unfold zv_b1; (try rw [if_pos b110]); (try rw [if_neg b121]); (try rfl)) ?_
        refine zi_istore (pc := 147) h (i := 4) (L' := [(4, _), (5, _), (0, _), (1, _), (2, _), (3, _)]) zd_MO_portFor_147 (by decide) rfl ?_
        refine zi_iinc (pc := 149) h (i := 5) (L' := [(5, _), (4, _), (0, _), (1, _), (2, _), (3, _)]) zd_MO_portFor_149 1 rfl (zq_incN i) (by decide) rfl ?_
        refine zi_goto (pc := 152) h (tgt := 93) zd_MO_portFor_152 rfl ?_
        exact ih (i + 1) _ (by omega) he hF
      · intro b121
        refine zi_aload_n (pc := 124) h (i := 0) zd_MO_portFor_124 rfl 2 rfl ?_
        refine zi_get (pc := 125) h zx_MO 26 11 zq_k26 rfl zq_j_11_18 zw_595 rfl zd_MO_portFor_125 ?_
        refine zi_iload (pc := 128) h (i := 5) zd_MO_portFor_128 0 rfl ?_
        refine zi_iald (pc := 130) h 35 zq_k35 rfl (zz_ixN (j := i) (by omega)) zd_MO_portFor_130 ?_
        refine zi_iload_n (pc := 131) h (i := 3) zd_MO_portFor_131 rfl 5 rfl ?_
        refine zi_icmp_ne (pc := 132) h (tgt := 145) zd_MO_portFor_132 rfl ?_ ?_
        · intro b132
          refine zi_iload (pc := 145) h (i := 4) zd_MO_portFor_145 1 rfl ?_
          refine zi_topv (zv_b1 fa k a p b i) (by unfold zv_b1; (try rw [if_pos b110]); (try rw [if_pos b121]); (try rw [if_neg b132]); (try rfl)) ?_
          refine zi_istore (pc := 147) h (i := 4) (L' := [(4, _), (5, _), (0, _), (1, _), (2, _), (3, _)]) zd_MO_portFor_147 (by decide) rfl ?_
          refine zi_iinc (pc := 149) h (i := 5) (L' := [(5, _), (4, _), (0, _), (1, _), (2, _), (3, _)]) zd_MO_portFor_149 1 rfl (zq_incN i) (by decide) rfl ?_
          refine zi_goto (pc := 152) h (tgt := 93) zd_MO_portFor_152 rfl ?_
          exact ih (i + 1) _ (by omega) he hF
        · intro b132
          refine zi_aload_n (pc := 135) h (i := 0) zd_MO_portFor_135 rfl 2 rfl ?_
          refine zi_get (pc := 136) h zx_MO 26 14 zq_k26 rfl zq_j_14_18 zw_598 rfl zd_MO_portFor_136 ?_
          refine zi_iload (pc := 139) h (i := 5) zd_MO_portFor_139 0 rfl ?_
          refine zi_iald (pc := 141) h 38 zq_k38 rfl (zz_ixN (j := i) (by omega)) zd_MO_portFor_141 ?_
          refine zi_goto (pc := 142) h (tgt := 147) zd_MO_portFor_142 rfl ?_
          refine zi_topv (zv_b1 fa k a p b i) (by unfold zv_b1; (try rw [if_pos b110]); (try rw [if_pos b121]); (try rw [if_pos b132]); (try rfl)) ?_
          refine zi_istore (pc := 147) h (i := 4) (L' := [(4, _), (5, _), (0, _), (1, _), (2, _), (3, _)]) zd_MO_portFor_147 (by decide) rfl ?_
          refine zi_iinc (pc := 149) h (i := 5) (L' := [(5, _), (4, _), (0, _), (1, _), (2, _), (3, _)]) zd_MO_portFor_149 1 rfl (zq_incN i) (by decide) rfl ?_
          refine zi_goto (pc := 152) h (tgt := 93) zd_MO_portFor_152 rfl ?_
          exact ih (i + 1) _ (by omega) he hF

set_option maxRecDepth 20000 in
theorem zc_MO_portFor {l : Launch} {G : zz_G} {F : Nat → va_E} {w : Nat → Int32} {sz : Int32} {la : Nat → Int32} {lz : Int32} {ra : Nat → Nat → Int32} {fa : Nat → Nat → Int32} {cd : Int32} {c : Nat} {k a p : Int32} (hc : c ≤ 12) : zz_M l zy_MO_portFor zb_MO_portFor 8 (some .int) 0 0 G [.ref (G.2.2 26), .int k, .int a, .int p] (zz_N G F w sz la lz ra (nI c) fa cd) (some (.int (zv_pf fa c k a p))) (zz_N G F w sz la lz ra (nI c) fa cd) := by
  refine zz_M.of (by decide) (Nat.le_of_ble_eq_true rfl) ?_
  intro X hX h hr
  subst hX
  have h : zz_C X G (zz_A G.2.2) 8 zb_MO_portFor "PortTranslatorModel" 0 0 0 0 := h
  refine zi_iconst (pc := 0) h zd_MO_portFor_0 zq_ic_m1 ?_
  refine zi_istore (pc := 1) h (i := 4) (L' := [(4, _), (0, _), (1, _), (2, _), (3, _)]) zd_MO_portFor_1 (by decide) rfl ?_
  refine zi_ldc (pc := 3) h zw_723 zd_MO_portFor_3 ?_
  refine zi_istore (pc := 5) h (i := 5) (L' := [(5, _), (4, _), (0, _), (1, _), (2, _), (3, _)]) zd_MO_portFor_5 (by decide) rfl ?_
  refine zl_MO_portFor2 hc h 6 _ _ (by decide) (by decide) (fun y => ?_)
  refine zi_iconst (pc := 90) h zd_MO_portFor_90 zq_ic_0 ?_
  refine zi_istore (pc := 91) h (i := 5) (L' := [(5, _), (4, _), (0, _), (1, _), (2, _), (3, _)]) zd_MO_portFor_91 (by decide) rfl ?_
  exact zl_MO_portFor3 hc h hr c 0 _ (by omega) rfl rfl

set_option maxRecDepth 20000 in
theorem zl_MO_end {X : zz_X} {r : Option Value} {F' : Nat → va_E} {G : zz_G} {F : Nat → va_E} {w : Nat → Int32} {sz : Int32} {la : Nat → Int32} {lz : Int32} {ra : Nat → Nat → Int32} {cd : Int32} {c : Nat} {y : Int32} (hc : c < 12) (h : zz_C X G (zz_A G.2.2) 3 zb_MO_end "PortTranslatorModel" 0 0 0 0) (hr : X.2.2.2.2.2.2.2.2.1.sig.returnType = none) : ∀ (n i : Nat) (fa : Nat → Nat → Int32), i + n = c → r = none → (zz_N G F w sz la lz ra (nI c) (zv_shf fa i n) cd) = F' → zz_W X G (zz_A G.2.2) 3 0 0 (zz_E X G r F') (zz_N G F w sz la lz ra (nI c) fa cd) 12 [(2, .int (nI i)), (0, .ref (G.2.2 26)), (1, .int y)] [] := by
  intro n
  induction n with
  | zero =>
    intro i fa hi he hF
    refine zi_iload_n (pc := 12) h (i := 2) zd_MO_end_12 rfl 0 rfl ?_
    refine zi_aload_n (pc := 13) h (i := 0) zd_MO_end_13 rfl 1 rfl ?_
    refine zi_get (pc := 14) h zx_MO 26 8 zq_k26 rfl zq_j_8_18 zw_592 rfl zd_MO_end_14 ?_
    refine zi_icmp_ge_t (pc := 17) h (tgt := 138) zd_MO_end_17 rfl (nI_le (by omega) (by omega)) ?_
    exact zi_vreturn (pc := 138) h hr zd_MO_end_138 he.symm hF
  | succ n ih =>
    intro i fa hi he hF
    refine zi_iload_n (pc := 12) h (i := 2) zd_MO_end_12 rfl 0 rfl ?_
    refine zi_aload_n (pc := 13) h (i := 0) zd_MO_end_13 rfl 1 rfl ?_
    refine zi_get (pc := 14) h zx_MO 26 8 zq_k26 rfl zq_j_8_18 zw_592 rfl zd_MO_end_14 ?_
    refine zi_icmp_ge_f (pc := 17) h (tgt := 138) zd_MO_end_17 rfl (nI_ge (by omega) (by omega)) ?_
    refine zi_aload_n (pc := 20) h (i := 0) zd_MO_end_20 rfl 1 rfl ?_
    refine zi_get (pc := 21) h zx_MO 26 9 zq_k26 rfl zq_j_9_18 zw_593 rfl zd_MO_end_21 ?_
    refine zi_iload_n (pc := 24) h (i := 2) zd_MO_end_24 rfl 0 rfl ?_
    refine zi_aload_n (pc := 25) h (i := 0) zd_MO_end_25 rfl 1 rfl ?_
    refine zi_get (pc := 26) h zx_MO 26 9 zq_k26 rfl zq_j_9_18 zw_593 rfl zd_MO_end_26 ?_
    refine zi_iload_n (pc := 29) h (i := 2) zd_MO_end_29 rfl 0 rfl ?_
    refine zi_iconst (pc := 30) h zd_MO_end_30 zq_ic_1 ?_
    refine zi_iadd (pc := 31) h zd_MO_end_31 ?_
    refine zi_topv (nI (i + 1)) (nI_1 i) ?_
    refine zi_iald (pc := 32) h (f := (fa 0)) 33 zq_k33 rfl (zz_ixN (j := i + 1) (by omega)) zd_MO_end_32 ?_
    refine zi_iast (pc := 33) h (f := (fa 0)) 33 zq_k33 rfl (zz_ixN (j := i) (by omega)) zd_MO_end_33 zn_u_f0 ?_
    refine zi_aload_n (pc := 34) h (i := 0) zd_MO_end_34 rfl 1 rfl ?_
    refine zi_get (pc := 35) h zx_MO 26 10 zq_k26 rfl zq_j_10_18 zw_594 rfl zd_MO_end_35 ?_
    refine zi_iload_n (pc := 38) h (i := 2) zd_MO_end_38 rfl 0 rfl ?_
    refine zi_aload_n (pc := 39) h (i := 0) zd_MO_end_39 rfl 1 rfl ?_
    refine zi_get (pc := 40) h zx_MO 26 10 zq_k26 rfl zq_j_10_18 zw_594 rfl zd_MO_end_40 ?_
    refine zi_iload_n (pc := 43) h (i := 2) zd_MO_end_43 rfl 0 rfl ?_
    refine zi_iconst (pc := 44) h zd_MO_end_44 zq_ic_1 ?_
    refine zi_iadd (pc := 45) h zd_MO_end_45 ?_
    refine zi_topv (nI (i + 1)) (nI_1 i) ?_
    refine zi_iald (pc := 46) h (f := (fa 1)) 34 zq_k34 rfl (zz_ixN (j := i + 1) (by omega)) zd_MO_end_46 ?_
    refine zi_iast (pc := 47) h (f := (fa 1)) 34 zq_k34 rfl (zz_ixN (j := i) (by omega)) zd_MO_end_47 zn_u_f1 ?_
    refine zi_aload_n (pc := 48) h (i := 0) zd_MO_end_48 rfl 1 rfl ?_
    refine zi_get (pc := 49) h zx_MO 26 11 zq_k26 rfl zq_j_11_18 zw_595 rfl zd_MO_end_49 ?_
    refine zi_iload_n (pc := 52) h (i := 2) zd_MO_end_52 rfl 0 rfl ?_
    refine zi_aload_n (pc := 53) h (i := 0) zd_MO_end_53 rfl 1 rfl ?_
    refine zi_get (pc := 54) h zx_MO 26 11 zq_k26 rfl zq_j_11_18 zw_595 rfl zd_MO_end_54 ?_
    refine zi_iload_n (pc := 57) h (i := 2) zd_MO_end_57 rfl 0 rfl ?_
    refine zi_iconst (pc := 58) h zd_MO_end_58 zq_ic_1 ?_
    refine zi_iadd (pc := 59) h zd_MO_end_59 ?_
    refine zi_topv (nI (i + 1)) (nI_1 i) ?_
    refine zi_iald (pc := 60) h (f := (fa 2)) 35 zq_k35 rfl (zz_ixN (j := i + 1) (by omega)) zd_MO_end_60 ?_
    refine zi_iast (pc := 61) h (f := (fa 2)) 35 zq_k35 rfl (zz_ixN (j := i) (by omega)) zd_MO_end_61 zn_u_f2 ?_
    refine zi_aload_n (pc := 62) h (i := 0) zd_MO_end_62 rfl 1 rfl ?_
    refine zi_get (pc := 63) h zx_MO 26 12 zq_k26 rfl zq_j_12_18 zw_596 rfl zd_MO_end_63 ?_
    refine zi_iload_n (pc := 66) h (i := 2) zd_MO_end_66 rfl 0 rfl ?_
    refine zi_aload_n (pc := 67) h (i := 0) zd_MO_end_67 rfl 1 rfl ?_
    refine zi_get (pc := 68) h zx_MO 26 12 zq_k26 rfl zq_j_12_18 zw_596 rfl zd_MO_end_68 ?_
    refine zi_iload_n (pc := 71) h (i := 2) zd_MO_end_71 rfl 0 rfl ?_
    refine zi_iconst (pc := 72) h zd_MO_end_72 zq_ic_1 ?_
    refine zi_iadd (pc := 73) h zd_MO_end_73 ?_
    refine zi_topv (nI (i + 1)) (nI_1 i) ?_
    refine zi_iald (pc := 74) h (f := (fa 3)) 36 zq_k36 rfl (zz_ixN (j := i + 1) (by omega)) zd_MO_end_74 ?_
    refine zi_iast (pc := 75) h (f := (fa 3)) 36 zq_k36 rfl (zz_ixN (j := i) (by omega)) zd_MO_end_75 zn_u_f3 ?_
    refine zi_aload_n (pc := 76) h (i := 0) zd_MO_end_76 rfl 1 rfl ?_
    refine zi_get (pc := 77) h zx_MO 26 13 zq_k26 rfl zq_j_13_18 zw_597 rfl zd_MO_end_77 ?_
    refine zi_iload_n (pc := 80) h (i := 2) zd_MO_end_80 rfl 0 rfl ?_
    refine zi_aload_n (pc := 81) h (i := 0) zd_MO_end_81 rfl 1 rfl ?_
    refine zi_get (pc := 82) h zx_MO 26 13 zq_k26 rfl zq_j_13_18 zw_597 rfl zd_MO_end_82 ?_
    refine zi_iload_n (pc := 85) h (i := 2) zd_MO_end_85 rfl 0 rfl ?_
    refine zi_iconst (pc := 86) h zd_MO_end_86 zq_ic_1 ?_
    refine zi_iadd (pc := 87) h zd_MO_end_87 ?_
    refine zi_topv (nI (i + 1)) (nI_1 i) ?_
    refine zi_iald (pc := 88) h (f := (fa 4)) 37 zq_k37 rfl (zz_ixN (j := i + 1) (by omega)) zd_MO_end_88 ?_
    refine zi_iast (pc := 89) h (f := (fa 4)) 37 zq_k37 rfl (zz_ixN (j := i) (by omega)) zd_MO_end_89 zn_u_f4 ?_
    refine zi_aload_n (pc := 90) h (i := 0) zd_MO_end_90 rfl 1 rfl ?_
    refine zi_get (pc := 91) h zx_MO 26 14 zq_k26 rfl zq_j_14_18 zw_598 rfl zd_MO_end_91 ?_
    refine zi_iload_n (pc := 94) h (i := 2) zd_MO_end_94 rfl 0 rfl ?_
    refine zi_aload_n (pc := 95) h (i := 0) zd_MO_end_95 rfl 1 rfl ?_
    refine zi_get (pc := 96) h zx_MO 26 14 zq_k26 rfl zq_j_14_18 zw_598 rfl zd_MO_end_96 ?_
    refine zi_iload_n (pc := 99) h (i := 2) zd_MO_end_99 rfl 0 rfl ?_
    refine zi_iconst (pc := 100) h zd_MO_end_100 zq_ic_1 ?_
    refine zi_iadd (pc := 101) h zd_MO_end_101 ?_
    refine zi_topv (nI (i + 1)) (nI_1 i) ?_
    refine zi_iald (pc := 102) h (f := (fa 5)) 38 zq_k38 rfl (zz_ixN (j := i + 1) (by omega)) zd_MO_end_102 ?_
    refine zi_iast (pc := 103) h (f := (fa 5)) 38 zq_k38 rfl (zz_ixN (j := i) (by omega)) zd_MO_end_103 zn_u_f5 ?_
    refine zi_aload_n (pc := 104) h (i := 0) zd_MO_end_104 rfl 1 rfl ?_
    refine zi_get (pc := 105) h zx_MO 26 15 zq_k26 rfl zq_j_15_18 zw_599 rfl zd_MO_end_105 ?_
    refine zi_iload_n (pc := 108) h (i := 2) zd_MO_end_108 rfl 0 rfl ?_
    refine zi_aload_n (pc := 109) h (i := 0) zd_MO_end_109 rfl 1 rfl ?_
    refine zi_get (pc := 110) h zx_MO 26 15 zq_k26 rfl zq_j_15_18 zw_599 rfl zd_MO_end_110 ?_
    refine zi_iload_n (pc := 113) h (i := 2) zd_MO_end_113 rfl 0 rfl ?_
    refine zi_iconst (pc := 114) h zd_MO_end_114 zq_ic_1 ?_
    refine zi_iadd (pc := 115) h zd_MO_end_115 ?_
    refine zi_topv (nI (i + 1)) (nI_1 i) ?_
    refine zi_iald (pc := 116) h (f := (fa 6)) 39 zq_k39 rfl (zz_ixN (j := i + 1) (by omega)) zd_MO_end_116 ?_
    refine zi_iast (pc := 117) h (f := (fa 6)) 39 zq_k39 rfl (zz_ixN (j := i) (by omega)) zd_MO_end_117 zn_u_f6 ?_
    refine zi_aload_n (pc := 118) h (i := 0) zd_MO_end_118 rfl 1 rfl ?_
    refine zi_get (pc := 119) h zx_MO 26 16 zq_k26 rfl zq_j_16_18 zw_600 rfl zd_MO_end_119 ?_
    refine zi_iload_n (pc := 122) h (i := 2) zd_MO_end_122 rfl 0 rfl ?_
    refine zi_aload_n (pc := 123) h (i := 0) zd_MO_end_123 rfl 1 rfl ?_
    refine zi_get (pc := 124) h zx_MO 26 16 zq_k26 rfl zq_j_16_18 zw_600 rfl zd_MO_end_124 ?_
    refine zi_iload_n (pc := 127) h (i := 2) zd_MO_end_127 rfl 0 rfl ?_
    refine zi_iconst (pc := 128) h zd_MO_end_128 zq_ic_1 ?_
    refine zi_iadd (pc := 129) h zd_MO_end_129 ?_
    refine zi_topv (nI (i + 1)) (nI_1 i) ?_
    refine zi_iald (pc := 130) h (f := (fa 7)) 40 zq_k40 rfl (zz_ixN (j := i + 1) (by omega)) zd_MO_end_130 ?_
    refine zi_iast (pc := 131) h (f := (fa 7)) 40 zq_k40 rfl (zz_ixN (j := i) (by omega)) zd_MO_end_131 zn_u_f7 ?_
    refine zi_iinc (pc := 132) h (i := 2) (L' := [(2, _), (0, _), (1, _)]) zd_MO_end_132 0 rfl (zq_incN i) (by decide) rfl ?_
    refine zi_goto (pc := 135) h (tgt := 12) zd_MO_end_135 rfl ?_
    exact ih (i + 1) (zv_sh1 fa i) (by omega) he hF

set_option maxRecDepth 20000 in
theorem zc_MO_end {l : Launch} {G : zz_G} {F : Nat → va_E} {w : Nat → Int32} {sz : Int32} {la : Nat → Int32} {lz : Int32} {ra : Nat → Nat → Int32} {fa : Nat → Nat → Int32} {cd : Int32} {c i : Nat} (hc : c ≤ 12) (hi : i < c) : zz_M l zy_MO_end zb_MO_end 3 none 0 0 G [.ref (G.2.2 26), .int (nI i)] (zz_N G F w sz la lz ra (nI c) fa cd) none (zz_N G F w sz la lz ra (nI (c - 1)) (zv_shf fa i (c - 1 - i)) cd) := by
  refine zz_M.of (by decide) (Nat.le_of_ble_eq_true rfl) ?_
  intro X hX h hr
  subst hX
  have h : zz_C X G (zz_A G.2.2) 3 zb_MO_end "PortTranslatorModel" 0 0 0 0 := h
  refine zi_aload_n (pc := 0) h (i := 0) zd_MO_end_0 rfl 0 rfl ?_
  refine zi_dup (pc := 1) h zd_MO_end_1 rfl ?_
  refine zi_get (pc := 2) h zx_MO 26 8 zq_k26 rfl zq_j_8_18 zw_592 rfl zd_MO_end_2 ?_
  refine zi_iconst (pc := 5) h zd_MO_end_5 zq_ic_1 ?_
  refine zi_isub (pc := 6) h zd_MO_end_6 ?_
  refine zi_topv (nI (c - 1)) (show nI c - 1 = nI (c - 1) by obtain ⟨d, rfl⟩ : ∃ d, c = d + 1 := ⟨c - 1, by omega⟩; exact nI_pred d) ?_
  refine zi_put (pc := 7) h zx_MO 26 8 zq_k26 rfl zq_j_8_18 zw_592 rfl rfl rfl (Nat.le_of_ble_eq_true rfl) zd_MO_end_7 zn_u_fn ?_
  refine zi_iload_n (pc := 10) h (i := 1) zd_MO_end_10 rfl 1 rfl ?_
  refine zi_istore_n (pc := 11) h (i := 2) (L' := [(2, _), (0, _), (1, _)]) zd_MO_end_11 rfl (by decide) rfl ?_
  exact zl_MO_end (by omega) h hr (c - 1 - i) i fa (by omega) rfl rfl

set_option maxRecDepth 20000 in
theorem zc_MO_touch_o {l : Launch} {G : zz_G} {F : Nat → va_E} {w : Nat → Int32} {sz : Int32} {la : Nat → Int32} {lz : Int32} {ra : Nat → Nat → Int32} {fa : Nat → Nat → Int32} {cd : Int32} {c i : Nat} (hc : c ≤ 12) (hi : i < c) : zz_M l zy_MO_touch zb_MO_touch 4 none 1 22 G [.ref (G.2.2 26), .int 1, .int (nI i)] (zz_N G F w sz la lz ra (nI c) fa cd) none (zz_N G F w sz la lz ra (nI (zv_tco w fa c i).2) (zv_tco w fa c i).1 cd) := by
  refine zz_M.of (by decide) (Nat.le_of_ble_eq_true rfl) ?_
  intro X hX h hr
  subst hX
  have h : zz_C X G (zz_A G.2.2) 4 zb_MO_touch "PortTranslatorModel" 1 22 0 0 := h
  refine zi_aload_n (pc := 0) h (i := 0) zd_MO_touch_0 rfl 0 rfl ?_
  refine zi_get (pc := 1) h zx_MO 26 15 zq_k26 rfl zq_j_15_18 zw_599 rfl zd_MO_touch_1 ?_
  refine zi_iload_n (pc := 4) h (i := 2) zd_MO_touch_4 rfl 2 rfl ?_
  refine zi_iconst (pc := 5) h zd_MO_touch_5 zq_ic_0 ?_
  refine zi_iast (pc := 6) h 39 zq_k39 rfl (zz_ixN (j := i) (by omega)) zd_MO_touch_6 zn_u_f6 ?_
  refine zi_aload_n (pc := 7) h (i := 0) zd_MO_touch_7 rfl 0 rfl ?_
  refine zi_get (pc := 8) h zx_MO 26 9 zq_k26 rfl zq_j_9_18 zw_593 rfl zd_MO_touch_8 ?_
  refine zi_iload_n (pc := 11) h (i := 2) zd_MO_touch_11 rfl 2 rfl ?_
  refine zi_iald (pc := 12) h 33 zq_k33 rfl (zz_ixN (j := i) (by omega)) zd_MO_touch_12 ?_
  refine zi_bipush (pc := 13) h zd_MO_touch_13 zq_bi_6 ?_
  refine zi_icmp_eq (pc := 15) h (tgt := 19) zd_MO_touch_15 rfl ?_ ?_
  · intro b15
    refine zi_aload_n (pc := 19) h (i := 0) zd_MO_touch_19 rfl 0 rfl ?_
    refine zi_get (pc := 20) h zx_MO 26 0 zq_k26 rfl zq_j_0_18 zw_584 rfl zd_MO_touch_20 ?_
    refine zi_bipush (pc := 23) h zd_MO_touch_23 zq_bi_16 ?_
    refine zi_iald (pc := 25) h 27 zq_k27 rfl zq_in_16_48 zd_MO_touch_25 ?_
    refine zi_istore_n (pc := 26) h (i := 3) (L' := [(3, _), (0, _), (1, _), (2, _)]) zd_MO_touch_26 rfl (by decide) rfl ?_
    refine zi_iload_n (pc := 27) h (i := 1) zd_MO_touch_27 rfl 2 rfl ?_
    refine zi_if_ne_t (pc := 28) h (tgt := 54) zd_MO_touch_28 rfl (by decide) ?_
    refine zi_iload_n (pc := 54) h (i := 3) zd_MO_touch_54 rfl 0 rfl ?_
    refine zi_iconst (pc := 55) h zd_MO_touch_55 zq_ic_1 ?_
    refine zi_iand (pc := 56) h zd_MO_touch_56 ?_
    refine zi_iconst (pc := 57) h zd_MO_touch_57 zq_ic_1 ?_
    refine zi_icmp_ne (pc := 58) h (tgt := 83) zd_MO_touch_58 rfl ?_ ?_
    · intro b58
      refine zi_iload_n (pc := 83) h (i := 3) zd_MO_touch_83 rfl 0 rfl ?_
      refine zi_iconst (pc := 84) h zd_MO_touch_84 zq_ic_4 ?_
      refine zi_iand (pc := 85) h zd_MO_touch_85 ?_
      refine zi_iconst (pc := 86) h zd_MO_touch_86 zq_ic_4 ?_
      refine zi_icmp_ne (pc := 87) h (tgt := 95) zd_MO_touch_87 rfl ?_ ?_
      · intro b87
        exact zi_vreturn (pc := 95) h hr zd_MO_touch_95 rfl (by unfold zv_tco zv_age zv_fl7; (try rw [if_pos b15]); (try rw [if_neg b58]); (try rw [if_neg b87]); (try rfl))
      · intro b87
        refine zi_aload_n (pc := 90) h (i := 0) zd_MO_touch_90 rfl 1 rfl ?_
        refine zi_iload_n (pc := 91) h (i := 2) zd_MO_touch_91 rfl 3 rfl ?_
        refine zi_callVv (pc := 92) h (st := []) (zc_MO_end hc hi) zm_MO_end zw_748 zx_MO zq_k26 rfl ⟨by decide, by decide⟩ zd_MO_touch_92 (Nat.le_of_ble_eq_true rfl) rfl ?_
        exact zi_vreturn (pc := 95) h hr zd_MO_touch_95 rfl (by unfold zv_tco zv_age zv_fl7; (try rw [if_pos b15]); (try rw [if_neg b58]); (try rw [if_pos b87]); (try rfl))
    · intro b58
      refine zi_aload_n (pc := 61) h (i := 0) zd_MO_touch_61 rfl 1 rfl ?_
      refine zi_get (pc := 62) h zx_MO 26 16 zq_k26 rfl zq_j_16_18 zw_600 rfl zd_MO_touch_62 ?_
      refine zi_iload_n (pc := 65) h (i := 2) zd_MO_touch_65 rfl 3 rfl ?_
      refine zi_aload_n (pc := 66) h (i := 0) zd_MO_touch_66 rfl 1 rfl ?_
      refine zi_get (pc := 67) h zx_MO 26 16 zq_k26 rfl zq_j_16_18 zw_600 rfl zd_MO_touch_67 ?_
      refine zi_iload_n (pc := 70) h (i := 2) zd_MO_touch_70 rfl 3 rfl ?_
      refine zi_iald (pc := 71) h 40 zq_k40 rfl (zz_ixN (j := i) (by omega)) zd_MO_touch_71 ?_
      refine zi_iload_n (pc := 72) h (i := 1) zd_MO_touch_72 rfl 2 rfl ?_
      refine zi_if_eq_f (pc := 73) h (tgt := 80) zd_MO_touch_73 rfl (by decide) ?_
      refine zi_iconst (pc := 76) h zd_MO_touch_76 zq_ic_2 ?_
      refine zi_goto (pc := 77) h (tgt := 81) zd_MO_touch_77 rfl ?_
      refine zi_ior (pc := 81) h zd_MO_touch_81 ?_
      refine zi_iast (pc := 82) h 40 zq_k40 rfl (zz_ixN (j := i) (by omega)) zd_MO_touch_82 zn_u_f7 ?_
      refine zi_iload_n (pc := 83) h (i := 3) zd_MO_touch_83 rfl 0 rfl ?_
      refine zi_iconst (pc := 84) h zd_MO_touch_84 zq_ic_4 ?_
      refine zi_iand (pc := 85) h zd_MO_touch_85 ?_
      refine zi_iconst (pc := 86) h zd_MO_touch_86 zq_ic_4 ?_
      refine zi_icmp_ne (pc := 87) h (tgt := 95) zd_MO_touch_87 rfl ?_ ?_
      · intro b87
        exact zi_vreturn (pc := 95) h hr zd_MO_touch_95 rfl (by unfold zv_tco zv_age zv_fl7; (try rw [if_pos b15]); (try rw [if_pos b58]); (try rw [if_neg b87]); (try rfl))
      · intro b87
        refine zi_aload_n (pc := 90) h (i := 0) zd_MO_touch_90 rfl 1 rfl ?_
        refine zi_iload_n (pc := 91) h (i := 2) zd_MO_touch_91 rfl 3 rfl ?_
        refine zi_callVv (pc := 92) h (st := []) (zc_MO_end hc hi) zm_MO_end zw_748 zx_MO zq_k26 rfl ⟨by decide, by decide⟩ zd_MO_touch_92 (Nat.le_of_ble_eq_true rfl) rfl ?_
        exact zi_vreturn (pc := 95) h hr zd_MO_touch_95 rfl (by unfold zv_tco zv_age zv_fl7; (try rw [if_pos b15]); (try rw [if_pos b58]); (try rw [if_pos b87]); (try rfl))
  · intro b15
    exact zi_vreturn (pc := 18) h hr zd_MO_touch_18 rfl (by unfold zv_tco zv_age zv_fl7; (try rw [if_neg b15]); (try rfl))

set_option maxRecDepth 20000 in
theorem zc_MO_touch_i {l : Launch} {G : zz_G} {F : Nat → va_E} {w : Nat → Int32} {sz : Int32} {la : Nat → Int32} {lz : Int32} {ra : Nat → Nat → Int32} {fa : Nat → Nat → Int32} {cd : Int32} {c i : Nat} (hc : c ≤ 12) (hi : i < c) : zz_M l zy_MO_touch zb_MO_touch 4 none 1 22 G [.ref (G.2.2 26), .int 0, .int (nI i)] (zz_N G F w sz la lz ra (nI c) fa cd) none (zz_N G F w sz la lz ra (nI (zv_tci w fa c i).2) (zv_tci w fa c i).1 cd) := by
  refine zz_M.of (by decide) (Nat.le_of_ble_eq_true rfl) ?_
  intro X hX h hr
  subst hX
  have h : zz_C X G (zz_A G.2.2) 4 zb_MO_touch "PortTranslatorModel" 1 22 0 0 := h
  refine zi_aload_n (pc := 0) h (i := 0) zd_MO_touch_0 rfl 0 rfl ?_
  refine zi_get (pc := 1) h zx_MO 26 15 zq_k26 rfl zq_j_15_18 zw_599 rfl zd_MO_touch_1 ?_
  refine zi_iload_n (pc := 4) h (i := 2) zd_MO_touch_4 rfl 2 rfl ?_
  refine zi_iconst (pc := 5) h zd_MO_touch_5 zq_ic_0 ?_
  refine zi_iast (pc := 6) h 39 zq_k39 rfl (zz_ixN (j := i) (by omega)) zd_MO_touch_6 zn_u_f6 ?_
  refine zi_aload_n (pc := 7) h (i := 0) zd_MO_touch_7 rfl 0 rfl ?_
  refine zi_get (pc := 8) h zx_MO 26 9 zq_k26 rfl zq_j_9_18 zw_593 rfl zd_MO_touch_8 ?_
  refine zi_iload_n (pc := 11) h (i := 2) zd_MO_touch_11 rfl 2 rfl ?_
  refine zi_iald (pc := 12) h 33 zq_k33 rfl (zz_ixN (j := i) (by omega)) zd_MO_touch_12 ?_
  refine zi_bipush (pc := 13) h zd_MO_touch_13 zq_bi_6 ?_
  refine zi_icmp_eq (pc := 15) h (tgt := 19) zd_MO_touch_15 rfl ?_ ?_
  · intro b15
    refine zi_aload_n (pc := 19) h (i := 0) zd_MO_touch_19 rfl 0 rfl ?_
    refine zi_get (pc := 20) h zx_MO 26 0 zq_k26 rfl zq_j_0_18 zw_584 rfl zd_MO_touch_20 ?_
    refine zi_bipush (pc := 23) h zd_MO_touch_23 zq_bi_16 ?_
    refine zi_iald (pc := 25) h 27 zq_k27 rfl zq_in_16_48 zd_MO_touch_25 ?_
    refine zi_istore_n (pc := 26) h (i := 3) (L' := [(3, _), (0, _), (1, _), (2, _)]) zd_MO_touch_26 rfl (by decide) rfl ?_
    refine zi_iload_n (pc := 27) h (i := 1) zd_MO_touch_27 rfl 2 rfl ?_
    refine zi_if_ne_f (pc := 28) h (tgt := 54) zd_MO_touch_28 rfl (by decide) ?_
    refine zi_iload_n (pc := 31) h (i := 3) zd_MO_touch_31 rfl 0 rfl ?_
    refine zi_bipush (pc := 32) h zd_MO_touch_32 zq_bi_18 ?_
    refine zi_iand (pc := 34) h zd_MO_touch_34 ?_
    refine zi_bipush (pc := 35) h zd_MO_touch_35 zq_bi_18 ?_
    refine zi_icmp_ne (pc := 37) h (tgt := 54) zd_MO_touch_37 rfl ?_ ?_
    · intro b37
      refine zi_iload_n (pc := 54) h (i := 3) zd_MO_touch_54 rfl 0 rfl ?_
      refine zi_iconst (pc := 55) h zd_MO_touch_55 zq_ic_1 ?_
      refine zi_iand (pc := 56) h zd_MO_touch_56 ?_
      refine zi_iconst (pc := 57) h zd_MO_touch_57 zq_ic_1 ?_
      refine zi_icmp_ne (pc := 58) h (tgt := 83) zd_MO_touch_58 rfl ?_ ?_
      · intro b58
        refine zi_iload_n (pc := 83) h (i := 3) zd_MO_touch_83 rfl 0 rfl ?_
        refine zi_iconst (pc := 84) h zd_MO_touch_84 zq_ic_4 ?_
        refine zi_iand (pc := 85) h zd_MO_touch_85 ?_
        refine zi_iconst (pc := 86) h zd_MO_touch_86 zq_ic_4 ?_
        refine zi_icmp_ne (pc := 87) h (tgt := 95) zd_MO_touch_87 rfl ?_ ?_
        · intro b87
          exact zi_vreturn (pc := 95) h hr zd_MO_touch_95 rfl (by unfold zv_tci zv_tc1 zv_age zv_fl7; (try rw [if_pos b15]); (try rw [if_neg b37]); (try rw [if_neg b58]); (try rw [if_neg b87]); (try rfl))
        · intro b87
          refine zi_aload_n (pc := 90) h (i := 0) zd_MO_touch_90 rfl 1 rfl ?_
          refine zi_iload_n (pc := 91) h (i := 2) zd_MO_touch_91 rfl 3 rfl ?_
          refine zi_callVv (pc := 92) h (st := []) (zc_MO_end hc hi) zm_MO_end zw_748 zx_MO zq_k26 rfl ⟨by decide, by decide⟩ zd_MO_touch_92 (Nat.le_of_ble_eq_true rfl) rfl ?_
          exact zi_vreturn (pc := 95) h hr zd_MO_touch_95 rfl (by unfold zv_tci zv_tc1 zv_age zv_fl7; (try rw [if_pos b15]); (try rw [if_neg b37]); (try rw [if_neg b58]); (try rw [if_pos b87]); (try rfl))
      · intro b58
        refine zi_aload_n (pc := 61) h (i := 0) zd_MO_touch_61 rfl 1 rfl ?_
        refine zi_get (pc := 62) h zx_MO 26 16 zq_k26 rfl zq_j_16_18 zw_600 rfl zd_MO_touch_62 ?_
        refine zi_iload_n (pc := 65) h (i := 2) zd_MO_touch_65 rfl 3 rfl ?_
        refine zi_aload_n (pc := 66) h (i := 0) zd_MO_touch_66 rfl 1 rfl ?_
        refine zi_get (pc := 67) h zx_MO 26 16 zq_k26 rfl zq_j_16_18 zw_600 rfl zd_MO_touch_67 ?_
        refine zi_iload_n (pc := 70) h (i := 2) zd_MO_touch_70 rfl 3 rfl ?_
        refine zi_iald (pc := 71) h 40 zq_k40 rfl (zz_ixN (j := i) (by omega)) zd_MO_touch_71 ?_
        refine zi_iload_n (pc := 72) h (i := 1) zd_MO_touch_72 rfl 2 rfl ?_
        refine zi_if_eq_t (pc := 73) h (tgt := 80) zd_MO_touch_73 rfl (by decide) ?_
        refine zi_iconst (pc := 80) h zd_MO_touch_80 zq_ic_4 ?_
        refine zi_ior (pc := 81) h zd_MO_touch_81 ?_
        refine zi_iast (pc := 82) h 40 zq_k40 rfl (zz_ixN (j := i) (by omega)) zd_MO_touch_82 zn_u_f7 ?_
        refine zi_iload_n (pc := 83) h (i := 3) zd_MO_touch_83 rfl 0 rfl ?_
        refine zi_iconst (pc := 84) h zd_MO_touch_84 zq_ic_4 ?_
        refine zi_iand (pc := 85) h zd_MO_touch_85 ?_
        refine zi_iconst (pc := 86) h zd_MO_touch_86 zq_ic_4 ?_
        refine zi_icmp_ne (pc := 87) h (tgt := 95) zd_MO_touch_87 rfl ?_ ?_
        · intro b87
          exact zi_vreturn (pc := 95) h hr zd_MO_touch_95 rfl (by unfold zv_tci zv_tc1 zv_age zv_fl7; (try rw [if_pos b15]); (try rw [if_neg b37]); (try rw [if_pos b58]); (try rw [if_neg b87]); (try rfl))
        · intro b87
          refine zi_aload_n (pc := 90) h (i := 0) zd_MO_touch_90 rfl 1 rfl ?_
          refine zi_iload_n (pc := 91) h (i := 2) zd_MO_touch_91 rfl 3 rfl ?_
          refine zi_callVv (pc := 92) h (st := []) (zc_MO_end hc hi) zm_MO_end zw_748 zx_MO zq_k26 rfl ⟨by decide, by decide⟩ zd_MO_touch_92 (Nat.le_of_ble_eq_true rfl) rfl ?_
          exact zi_vreturn (pc := 95) h hr zd_MO_touch_95 rfl (by unfold zv_tci zv_tc1 zv_age zv_fl7; (try rw [if_pos b15]); (try rw [if_neg b37]); (try rw [if_pos b58]); (try rw [if_pos b87]); (try rfl))
    · intro b37
      refine zi_aload_n (pc := 40) h (i := 0) zd_MO_touch_40 rfl 1 rfl ?_
      refine zi_get (pc := 41) h zx_MO 26 16 zq_k26 rfl zq_j_16_18 zw_600 rfl zd_MO_touch_41 ?_
      refine zi_iload_n (pc := 44) h (i := 2) zd_MO_touch_44 rfl 3 rfl ?_
      refine zi_aload_n (pc := 45) h (i := 0) zd_MO_touch_45 rfl 1 rfl ?_
      refine zi_get (pc := 46) h zx_MO 26 16 zq_k26 rfl zq_j_16_18 zw_600 rfl zd_MO_touch_46 ?_
      refine zi_iload_n (pc := 49) h (i := 2) zd_MO_touch_49 rfl 3 rfl ?_
      refine zi_iald (pc := 50) h 40 zq_k40 rfl (zz_ixN (j := i) (by omega)) zd_MO_touch_50 ?_
      refine zi_iconst (pc := 51) h zd_MO_touch_51 zq_ic_1 ?_
      refine zi_ior (pc := 52) h zd_MO_touch_52 ?_
      refine zi_iast (pc := 53) h 40 zq_k40 rfl (zz_ixN (j := i) (by omega)) zd_MO_touch_53 zn_u_f7 ?_
      refine zi_iload_n (pc := 54) h (i := 3) zd_MO_touch_54 rfl 0 rfl ?_
      refine zi_iconst (pc := 55) h zd_MO_touch_55 zq_ic_1 ?_
      refine zi_iand (pc := 56) h zd_MO_touch_56 ?_
      refine zi_iconst (pc := 57) h zd_MO_touch_57 zq_ic_1 ?_
      refine zi_icmp_ne (pc := 58) h (tgt := 83) zd_MO_touch_58 rfl ?_ ?_
      · intro b58
        refine zi_iload_n (pc := 83) h (i := 3) zd_MO_touch_83 rfl 0 rfl ?_
        refine zi_iconst (pc := 84) h zd_MO_touch_84 zq_ic_4 ?_
        refine zi_iand (pc := 85) h zd_MO_touch_85 ?_
        refine zi_iconst (pc := 86) h zd_MO_touch_86 zq_ic_4 ?_
        refine zi_icmp_ne (pc := 87) h (tgt := 95) zd_MO_touch_87 rfl ?_ ?_
        · intro b87
          exact zi_vreturn (pc := 95) h hr zd_MO_touch_95 rfl (by unfold zv_tci zv_tc1 zv_age zv_fl7; (try rw [if_pos b15]); (try rw [if_pos b37]); (try rw [if_neg b58]); (try rw [if_neg b87]); (try rfl))
        · intro b87
          refine zi_aload_n (pc := 90) h (i := 0) zd_MO_touch_90 rfl 1 rfl ?_
          refine zi_iload_n (pc := 91) h (i := 2) zd_MO_touch_91 rfl 3 rfl ?_
          refine zi_callVv (pc := 92) h (st := []) (zc_MO_end hc hi) zm_MO_end zw_748 zx_MO zq_k26 rfl ⟨by decide, by decide⟩ zd_MO_touch_92 (Nat.le_of_ble_eq_true rfl) rfl ?_
          exact zi_vreturn (pc := 95) h hr zd_MO_touch_95 rfl (by unfold zv_tci zv_tc1 zv_age zv_fl7; (try rw [if_pos b15]); (try rw [if_pos b37]); (try rw [if_neg b58]); (try rw [if_pos b87]); (try rfl))
      · intro b58
        refine zi_aload_n (pc := 61) h (i := 0) zd_MO_touch_61 rfl 1 rfl ?_
        refine zi_get (pc := 62) h zx_MO 26 16 zq_k26 rfl zq_j_16_18 zw_600 rfl zd_MO_touch_62 ?_
        refine zi_iload_n (pc := 65) h (i := 2) zd_MO_touch_65 rfl 3 rfl ?_
        refine zi_aload_n (pc := 66) h (i := 0) zd_MO_touch_66 rfl 1 rfl ?_
        refine zi_get (pc := 67) h zx_MO 26 16 zq_k26 rfl zq_j_16_18 zw_600 rfl zd_MO_touch_67 ?_
        refine zi_iload_n (pc := 70) h (i := 2) zd_MO_touch_70 rfl 3 rfl ?_
        refine zi_iald (pc := 71) h 40 zq_k40 rfl (zz_ixN (j := i) (by omega)) zd_MO_touch_71 ?_
        refine zi_iload_n (pc := 72) h (i := 1) zd_MO_touch_72 rfl 2 rfl ?_
        refine zi_if_eq_t (pc := 73) h (tgt := 80) zd_MO_touch_73 rfl (by decide) ?_
        refine zi_iconst (pc := 80) h zd_MO_touch_80 zq_ic_4 ?_
        refine zi_ior (pc := 81) h zd_MO_touch_81 ?_
        refine zi_iast (pc := 82) h 40 zq_k40 rfl (zz_ixN (j := i) (by omega)) zd_MO_touch_82 zn_u_f7 ?_
        refine zi_iload_n (pc := 83) h (i := 3) zd_MO_touch_83 rfl 0 rfl ?_
        refine zi_iconst (pc := 84) h zd_MO_touch_84 zq_ic_4 ?_
        refine zi_iand (pc := 85) h zd_MO_touch_85 ?_
        refine zi_iconst (pc := 86) h zd_MO_touch_86 zq_ic_4 ?_
        refine zi_icmp_ne (pc := 87) h (tgt := 95) zd_MO_touch_87 rfl ?_ ?_
        · intro b87
          exact zi_vreturn (pc := 95) h hr zd_MO_touch_95 rfl (by unfold zv_tci zv_tc1 zv_age zv_fl7; (try rw [if_pos b15]); (try rw [if_pos b37]); (try rw [if_pos b58]); (try rw [if_neg b87]); (try rfl))
        · intro b87
          refine zi_aload_n (pc := 90) h (i := 0) zd_MO_touch_90 rfl 1 rfl ?_
          refine zi_iload_n (pc := 91) h (i := 2) zd_MO_touch_91 rfl 3 rfl ?_
          refine zi_callVv (pc := 92) h (st := []) (zc_MO_end hc hi) zm_MO_end zw_748 zx_MO zq_k26 rfl ⟨by decide, by decide⟩ zd_MO_touch_92 (Nat.le_of_ble_eq_true rfl) rfl ?_
          exact zi_vreturn (pc := 95) h hr zd_MO_touch_95 rfl (by unfold zv_tci zv_tc1 zv_age zv_fl7; (try rw [if_pos b15]); (try rw [if_pos b37]); (try rw [if_pos b58]); (try rw [if_pos b87]); (try rfl))
  · intro b15
    exact zi_vreturn (pc := 18) h hr zd_MO_touch_18 rfl (by unfold zv_tci zv_tc1 zv_age zv_fl7; (try rw [if_neg b15]); (try rfl))

set_option maxRecDepth 20000 in
theorem zl_MO_tick {X : zz_X} {r : Option Value} {F' : Nat → va_E} {G : zz_G} {F : Nat → va_E} {w : Nat → Int32} {sz : Int32} {la : Nat → Int32} {lz : Int32} {ra : Nat → Nat → Int32} {t : Int32}  (h : zz_C X G (zz_A G.2.2) 4 zb_MO_tick "PortTranslatorModel" 1 22 0 0) (hr : X.2.2.2.2.2.2.2.2.1.sig.returnType = (some .int)) : ∀ (n : Nat) (fa : Nat → Nat → Int32) (c : Nat) (e y : Int32), n ≤ c → c ≤ 12 → y = nI n - 1 → r = some (.int (zv_tic t n fa c e).2.2) → (zz_N G F w sz la lz ra (nI (zv_tic t n fa c e).2.1) (zv_tic t n fa c e).1 0) = F' → zz_W X G (zz_A G.2.2) 4 0 0 (zz_E X G r F') (zz_N G F w sz la lz ra (nI c) fa 0) 29 [(3, .int y), (2, .int e), (0, .ref (G.2.2 26)), (1, .int t)] [] := by
  intro n
  induction n with
  | zero =>
    intro fa c e y hn hc hy he hF
    subst hy
    refine zi_iload_n (pc := 29) h (i := 3) zd_MO_tick_29 rfl 0 rfl ?_
    refine zi_if_lt_t (pc := 30) h (tgt := 82) zd_MO_tick_30 rfl (by decide) ?_
    refine zi_iload_n (pc := 82) h (i := 2) zd_MO_tick_82 rfl 1 rfl ?_
    exact zi_ireturn (pc := 83) h hr zd_MO_tick_83 he.symm hF
  | succ n ih =>
    intro fa c e y hn hc hy he hF
    obtain rfl : y = nI n := hy.trans (nI_pred n)
    refine zi_iload_n (pc := 29) h (i := 3) zd_MO_tick_29 rfl 0 rfl ?_
    refine zi_if_lt_f (pc := 30) h (tgt := 82) zd_MO_tick_30 rfl (nI_pos (by omega)) ?_
    refine zi_aload_n (pc := 33) h (i := 0) zd_MO_tick_33 rfl 2 rfl ?_
    refine zi_get (pc := 34) h zx_MO 26 17 zq_k26 rfl zq_j_17_18 zw_601 rfl zd_MO_tick_34 ?_
    refine zi_if_ne_f (pc := 37) h (tgt := 82) zd_MO_tick_37 rfl rfl ?_
    refine zi_aload_n (pc := 40) h (i := 0) zd_MO_tick_40 rfl 2 rfl ?_
    refine zi_get (pc := 41) h zx_MO 26 15 zq_k26 rfl zq_j_15_18 zw_599 rfl zd_MO_tick_41 ?_
    refine zi_iload_n (pc := 44) h (i := 3) zd_MO_tick_44 rfl 0 rfl ?_
    refine zi_aload_n (pc := 45) h (i := 0) zd_MO_tick_45 rfl 2 rfl ?_
    refine zi_get (pc := 46) h zx_MO 26 15 zq_k26 rfl zq_j_15_18 zw_599 rfl zd_MO_tick_46 ?_
    refine zi_iload_n (pc := 49) h (i := 3) zd_MO_tick_49 rfl 0 rfl ?_
    refine zi_iald (pc := 50) h 39 zq_k39 rfl (zz_ixN (j := n) (by omega)) zd_MO_tick_50 ?_
    refine zi_iload_n (pc := 51) h (i := 1) zd_MO_tick_51 rfl 3 rfl ?_
    refine zi_iadd (pc := 52) h zd_MO_tick_52 ?_
    refine zi_iast (pc := 53) h 39 zq_k39 rfl (zz_ixN (j := n) (by omega)) zd_MO_tick_53 zn_u_f6 ?_
    refine zi_aload_n (pc := 54) h (i := 0) zd_MO_tick_54 rfl 2 rfl ?_
    refine zi_get (pc := 55) h zx_MO 26 15 zq_k26 rfl zq_j_15_18 zw_599 rfl zd_MO_tick_55 ?_
    refine zi_iload_n (pc := 58) h (i := 3) zd_MO_tick_58 rfl 0 rfl ?_
    refine zi_iald (pc := 59) h 39 zq_k39 rfl (zz_ixN (j := n) (by omega)) zd_MO_tick_59 ?_
    refine zi_aload_n (pc := 60) h (i := 0) zd_MO_tick_60 rfl 2 rfl ?_
    refine zi_iload_n (pc := 61) h (i := 3) zd_MO_tick_61 rfl 0 rfl ?_
    refine zi_callV (pc := 62) h (st := [_]) (zc_MO_life (a := n) (zz_ixN (j := n) (by omega))) zm_MO_life zw_764 zx_MO zq_k26 rfl ⟨by decide, by decide⟩ zd_MO_tick_62 (Nat.le_of_ble_eq_true rfl) rfl ?_
    refine zi_icmp_le (pc := 65) h (tgt := 76) zd_MO_tick_65 rfl ?_ ?_
    · intro b65
      refine zi_iinc (pc := 76) h (i := 3) (L' := [(3, _), (2, _), (0, _), (1, _)]) zd_MO_tick_76 0 rfl (zq_dec n) (by decide) rfl ?_
      refine zi_goto (pc := 79) h (tgt := 29) zd_MO_tick_79 rfl ?_
      rw [zv_tic, if_pos b65] at he hF
      exact ih _ _ _ _ (by omega) hc rfl he hF
    · intro b65
      refine zi_aload_n (pc := 68) h (i := 0) zd_MO_tick_68 rfl 2 rfl ?_
      refine zi_iload_n (pc := 69) h (i := 3) zd_MO_tick_69 rfl 0 rfl ?_
      refine zi_callVv (pc := 70) h (st := []) (zc_MO_end hc (show n < c by omega)) zm_MO_end zw_748 zx_MO zq_k26 rfl ⟨by decide, by decide⟩ zd_MO_tick_70 (Nat.le_of_ble_eq_true rfl) rfl ?_
      refine zi_iinc (pc := 73) h (i := 2) (L' := [(2, _), (3, _), (0, _), (1, _)]) zd_MO_tick_73 1 rfl (zq_inc_1 _) (by decide) rfl ?_
      refine zi_iinc (pc := 76) h (i := 3) (L' := [(3, _), (2, _), (0, _), (1, _)]) zd_MO_tick_76 1 rfl (zq_dec n) (by decide) rfl ?_
      refine zi_goto (pc := 79) h (tgt := 29) zd_MO_tick_79 rfl ?_
      rw [zv_tic, if_neg b65] at he hF
      exact ih _ _ _ _ (by omega) (by omega) rfl he hF

set_option maxRecDepth 20000 in
theorem zc_MO_tick {l : Launch} {G : zz_G} {F : Nat → va_E} {w : Nat → Int32} {sz : Int32} {la : Nat → Int32} {lz : Int32} {ra : Nat → Nat → Int32} {fa : Nat → Nat → Int32} {cd : Int32} {c : Nat} {t : Int32} (hc : c ≤ 12) (h1 : ¬ t < 1) (h2 : t ≤ 100) : zz_M l zy_MO_tick zb_MO_tick 4 (some .int) 1 22 G [.ref (G.2.2 26), .int t] (zz_N G F w sz la lz ra (nI c) fa cd) (some (.int (zv_tic t c fa c 0).2.2)) (zz_N G F w sz la lz ra (nI (zv_tic t c fa c 0).2.1) (zv_tic t c fa c 0).1 0) := by
  refine zz_M.of (by decide) (Nat.le_of_ble_eq_true rfl) ?_
  intro X hX h hr
  subst hX
  have h : zz_C X G (zz_A G.2.2) 4 zb_MO_tick "PortTranslatorModel" 1 22 0 0 := h
  refine zi_aload_n (pc := 0) h (i := 0) zd_MO_tick_0 rfl 0 rfl ?_
  refine zi_iload_n (pc := 1) h (i := 1) zd_MO_tick_1 rfl 1 rfl ?_
  refine zi_iconst (pc := 2) h zd_MO_tick_2 zq_ic_1 ?_
  refine zi_icmp_lt_f (pc := 3) h (tgt := 12) zd_MO_tick_3 rfl h1 ?_
  refine zi_iload_n (pc := 6) h (i := 1) zd_MO_tick_6 rfl 1 rfl ?_
  refine zi_bipush (pc := 7) h zd_MO_tick_7 zq_bi_100 ?_
  refine zi_icmp_le_t (pc := 9) h (tgt := 16) zd_MO_tick_9 rfl h2 ?_
  refine zi_iconst (pc := 16) h zd_MO_tick_16 zq_ic_0 ?_
  refine zi_put (pc := 17) h zx_MO 26 17 zq_k26 rfl zq_j_17_18 zw_601 rfl rfl rfl (Nat.le_of_ble_eq_true rfl) zd_MO_tick_17 zn_u_cd ?_
  refine zi_iconst (pc := 20) h zd_MO_tick_20 zq_ic_0 ?_
  refine zi_istore_n (pc := 21) h (i := 2) (L' := [(2, _), (0, _), (1, _)]) zd_MO_tick_21 rfl (by decide) rfl ?_
  refine zi_aload_n (pc := 22) h (i := 0) zd_MO_tick_22 rfl 1 rfl ?_
  refine zi_get (pc := 23) h zx_MO 26 8 zq_k26 rfl zq_j_8_18 zw_592 rfl zd_MO_tick_23 ?_
  refine zi_iconst (pc := 26) h zd_MO_tick_26 zq_ic_1 ?_
  refine zi_isub (pc := 27) h zd_MO_tick_27 ?_
  refine zi_istore_n (pc := 28) h (i := 3) (L' := [(3, _), (2, _), (0, _), (1, _)]) zd_MO_tick_28 rfl (by decide) rfl ?_
  exact zl_MO_tick h hr c fa c 0 _ (Nat.le_refl _) hc rfl rfl rfl

set_option maxRecDepth 20000 in
theorem zc_MO_tick_lo {l : Launch} {G : zz_G} {F : Nat → va_E} {w : Nat → Int32} {sz : Int32} {la : Nat → Int32} {lz : Int32} {ra : Nat → Nat → Int32} {fa : Nat → Nat → Int32} {cd : Int32} {c : Nat} {t : Int32} (hc : c ≤ 12) (h1 : t < 1) : zz_M l zy_MO_tick zb_MO_tick 4 (some .int) 1 22 G [.ref (G.2.2 26), .int t] (zz_N G F w sz la lz ra (nI c) fa cd) (some (.int 0)) (zz_N G F w sz la lz ra (nI c) fa 1) := by
  refine zz_M.of (by decide) (Nat.le_of_ble_eq_true rfl) ?_
  intro X hX h hr
  subst hX
  have h : zz_C X G (zz_A G.2.2) 4 zb_MO_tick "PortTranslatorModel" 1 22 0 0 := h
  refine zi_aload_n (pc := 0) h (i := 0) zd_MO_tick_0 rfl 0 rfl ?_
  refine zi_iload_n (pc := 1) h (i := 1) zd_MO_tick_1 rfl 1 rfl ?_
  refine zi_iconst (pc := 2) h zd_MO_tick_2 zq_ic_1 ?_
  refine zi_icmp_lt_t (pc := 3) h (tgt := 12) zd_MO_tick_3 rfl h1 ?_
  refine zi_iconst (pc := 12) h zd_MO_tick_12 zq_ic_1 ?_
  refine zi_goto (pc := 13) h (tgt := 17) zd_MO_tick_13 rfl ?_
  refine zi_put (pc := 17) h zx_MO 26 17 zq_k26 rfl zq_j_17_18 zw_601 rfl rfl rfl (Nat.le_of_ble_eq_true rfl) zd_MO_tick_17 zn_u_cd ?_
  refine zi_iconst (pc := 20) h zd_MO_tick_20 zq_ic_0 ?_
  refine zi_istore_n (pc := 21) h (i := 2) (L' := [(2, _), (0, _), (1, _)]) zd_MO_tick_21 rfl (by decide) rfl ?_
  refine zi_aload_n (pc := 22) h (i := 0) zd_MO_tick_22 rfl 1 rfl ?_
  refine zi_get (pc := 23) h zx_MO 26 8 zq_k26 rfl zq_j_8_18 zw_592 rfl zd_MO_tick_23 ?_
  refine zi_iconst (pc := 26) h zd_MO_tick_26 zq_ic_1 ?_
  refine zi_isub (pc := 27) h zd_MO_tick_27 ?_
  refine zi_istore_n (pc := 28) h (i := 3) (L' := [(3, _), (2, _), (0, _), (1, _)]) zd_MO_tick_28 rfl (by decide) rfl ?_
  refine zi_iload_n (pc := 29) h (i := 3) zd_MO_tick_29 rfl 0 rfl ?_
  refine zi_if_lt (pc := 30) h (tgt := 82) zd_MO_tick_30 rfl ?_ ?_
  · intro b30
    refine zi_iload_n (pc := 82) h (i := 2) zd_MO_tick_82 rfl 1 rfl ?_
    exact zi_ireturn (pc := 83) h hr zd_MO_tick_83 rfl rfl
  · intro b30
    refine zi_aload_n (pc := 33) h (i := 0) zd_MO_tick_33 rfl 2 rfl ?_
    refine zi_get (pc := 34) h zx_MO 26 17 zq_k26 rfl zq_j_17_18 zw_601 rfl zd_MO_tick_34 ?_
    refine zi_topv (1) rfl ?_
    refine zi_if_ne_t (pc := 37) h (tgt := 82) zd_MO_tick_37 rfl (by decide) ?_
    refine zi_iload_n (pc := 82) h (i := 2) zd_MO_tick_82 rfl 1 rfl ?_
    exact zi_ireturn (pc := 83) h hr zd_MO_tick_83 rfl rfl

set_option maxRecDepth 20000 in
theorem zc_MO_tick_hi {l : Launch} {G : zz_G} {F : Nat → va_E} {w : Nat → Int32} {sz : Int32} {la : Nat → Int32} {lz : Int32} {ra : Nat → Nat → Int32} {fa : Nat → Nat → Int32} {cd : Int32} {c : Nat} {t : Int32} (hc : c ≤ 12) (h1 : ¬ t < 1) (h2 : ¬ t ≤ 100) : zz_M l zy_MO_tick zb_MO_tick 4 (some .int) 1 22 G [.ref (G.2.2 26), .int t] (zz_N G F w sz la lz ra (nI c) fa cd) (some (.int 0)) (zz_N G F w sz la lz ra (nI c) fa 1) := by
  refine zz_M.of (by decide) (Nat.le_of_ble_eq_true rfl) ?_
  intro X hX h hr
  subst hX
  have h : zz_C X G (zz_A G.2.2) 4 zb_MO_tick "PortTranslatorModel" 1 22 0 0 := h
  refine zi_aload_n (pc := 0) h (i := 0) zd_MO_tick_0 rfl 0 rfl ?_
  refine zi_iload_n (pc := 1) h (i := 1) zd_MO_tick_1 rfl 1 rfl ?_
  refine zi_iconst (pc := 2) h zd_MO_tick_2 zq_ic_1 ?_
  refine zi_icmp_lt_f (pc := 3) h (tgt := 12) zd_MO_tick_3 rfl h1 ?_
  refine zi_iload_n (pc := 6) h (i := 1) zd_MO_tick_6 rfl 1 rfl ?_
  refine zi_bipush (pc := 7) h zd_MO_tick_7 zq_bi_100 ?_
  refine zi_icmp_le_f (pc := 9) h (tgt := 16) zd_MO_tick_9 rfl h2 ?_
  refine zi_iconst (pc := 12) h zd_MO_tick_12 zq_ic_1 ?_
  refine zi_goto (pc := 13) h (tgt := 17) zd_MO_tick_13 rfl ?_
  refine zi_put (pc := 17) h zx_MO 26 17 zq_k26 rfl zq_j_17_18 zw_601 rfl rfl rfl (Nat.le_of_ble_eq_true rfl) zd_MO_tick_17 zn_u_cd ?_
  refine zi_iconst (pc := 20) h zd_MO_tick_20 zq_ic_0 ?_
  refine zi_istore_n (pc := 21) h (i := 2) (L' := [(2, _), (0, _), (1, _)]) zd_MO_tick_21 rfl (by decide) rfl ?_
  refine zi_aload_n (pc := 22) h (i := 0) zd_MO_tick_22 rfl 1 rfl ?_
  refine zi_get (pc := 23) h zx_MO 26 8 zq_k26 rfl zq_j_8_18 zw_592 rfl zd_MO_tick_23 ?_
  refine zi_iconst (pc := 26) h zd_MO_tick_26 zq_ic_1 ?_
  refine zi_isub (pc := 27) h zd_MO_tick_27 ?_
  refine zi_istore_n (pc := 28) h (i := 3) (L' := [(3, _), (2, _), (0, _), (1, _)]) zd_MO_tick_28 rfl (by decide) rfl ?_
  refine zi_iload_n (pc := 29) h (i := 3) zd_MO_tick_29 rfl 0 rfl ?_
  refine zi_if_lt (pc := 30) h (tgt := 82) zd_MO_tick_30 rfl ?_ ?_
  · intro b30
    refine zi_iload_n (pc := 82) h (i := 2) zd_MO_tick_82 rfl 1 rfl ?_
    exact zi_ireturn (pc := 83) h hr zd_MO_tick_83 rfl rfl
  · intro b30
    refine zi_aload_n (pc := 33) h (i := 0) zd_MO_tick_33 rfl 2 rfl ?_
    refine zi_get (pc := 34) h zx_MO 26 17 zq_k26 rfl zq_j_17_18 zw_601 rfl zd_MO_tick_34 ?_
    refine zi_topv (1) rfl ?_
    refine zi_if_ne_t (pc := 37) h (tgt := 82) zd_MO_tick_37 rfl (by decide) ?_
    refine zi_iload_n (pc := 82) h (i := 2) zd_MO_tick_82 rfl 1 rfl ?_
    exact zi_ireturn (pc := 83) h hr zd_MO_tick_83 rfl rfl

set_option maxRecDepth 20000 in
theorem zc_MO_at {l : Launch} {G : zz_G} {F : Nat → va_E} {w : Nat → Int32} {sz : Int32} {la : Nat → Int32} {ra : Nat → Nat → Int32} {fn : Int32} {fa : Nat → Nat → Int32} {cd : Int32} {i n : Nat} (hi : i < n) (hn : n ≤ 48) : zz_M l zy_MO_at zb_MO_at 2 (some .int) 0 0 G [.ref (G.2.2 26), .int (nI i)] (zz_N G F w sz la (nI n) ra fn fa cd) (some (.int (la i))) (zz_N G F w sz la (nI n) ra fn fa 0) := by
  refine zz_M.of (by decide) (Nat.le_of_ble_eq_true rfl) ?_
  intro X hX h hr
  subst hX
  have h : zz_C X G (zz_A G.2.2) 2 zb_MO_at "PortTranslatorModel" 0 0 0 0 := h
  refine zi_aload_n (pc := 0) h (i := 0) zd_MO_at_0 rfl 0 rfl ?_
  refine zi_iload_n (pc := 1) h (i := 1) zd_MO_at_1 rfl 1 rfl ?_
  refine zi_if_lt_f (pc := 2) h (tgt := 13) zd_MO_at_2 rfl (nI_pos (by omega)) ?_
  refine zi_iload_n (pc := 5) h (i := 1) zd_MO_at_5 rfl 1 rfl ?_
  refine zi_aload_n (pc := 6) h (i := 0) zd_MO_at_6 rfl 0 rfl ?_
  refine zi_get (pc := 7) h zx_MO 26 3 zq_k26 rfl zq_j_3_18 zw_587 rfl zd_MO_at_7 ?_
  refine zi_icmp_lt_t (pc := 10) h (tgt := 17) zd_MO_at_10 rfl (nI_lt hi (by omega)) ?_
  refine zi_iconst (pc := 17) h zd_MO_at_17 zq_ic_0 ?_
  refine zi_put (pc := 18) h zx_MO 26 17 zq_k26 rfl zq_j_17_18 zw_601 rfl rfl rfl (Nat.le_of_ble_eq_true rfl) zd_MO_at_18 zn_u_cd ?_
  refine zi_aload_n (pc := 21) h (i := 0) zd_MO_at_21 rfl 0 rfl ?_
  refine zi_get (pc := 22) h zx_MO 26 17 zq_k26 rfl zq_j_17_18 zw_601 rfl zd_MO_at_22 ?_
  refine zi_topv (0) rfl ?_
  refine zi_if_le_t (pc := 25) h (tgt := 32) zd_MO_at_25 rfl (by decide) ?_
  refine zi_aload_n (pc := 32) h (i := 0) zd_MO_at_32 rfl 0 rfl ?_
  refine zi_get (pc := 33) h zx_MO 26 2 zq_k26 rfl zq_j_2_18 zw_586 rfl zd_MO_at_33 ?_
  refine zi_iload_n (pc := 36) h (i := 1) zd_MO_at_36 rfl 1 rfl ?_
  refine zi_iald (pc := 37) h 28 zq_k28 rfl (zz_ixN (j := i) (by omega)) zd_MO_at_37 ?_
  exact zi_ireturn (pc := 38) h hr zd_MO_at_38 rfl rfl

set_option maxRecDepth 20000 in
theorem zc_MO_at_lo {l : Launch} {G : zz_G} {F : Nat → va_E} {w : Nat → Int32} {sz : Int32} {la : Nat → Int32} {ra : Nat → Nat → Int32} {fn : Int32} {fa : Nat → Nat → Int32} {cd : Int32} {x : Int32} {n : Nat} (hx : x < 0) : zz_M l zy_MO_at zb_MO_at 2 (some .int) 0 0 G [.ref (G.2.2 26), .int x] (zz_N G F w sz la (nI n) ra fn fa cd) (some (.int 0)) (zz_N G F w sz la (nI n) ra fn fa 1) := by
  refine zz_M.of (by decide) (Nat.le_of_ble_eq_true rfl) ?_
  intro X hX h hr
  subst hX
  have h : zz_C X G (zz_A G.2.2) 2 zb_MO_at "PortTranslatorModel" 0 0 0 0 := h
  refine zi_aload_n (pc := 0) h (i := 0) zd_MO_at_0 rfl 0 rfl ?_
  refine zi_iload_n (pc := 1) h (i := 1) zd_MO_at_1 rfl 1 rfl ?_
  refine zi_if_lt_t (pc := 2) h (tgt := 13) zd_MO_at_2 rfl hx ?_
  refine zi_iconst (pc := 13) h zd_MO_at_13 zq_ic_1 ?_
  refine zi_goto (pc := 14) h (tgt := 18) zd_MO_at_14 rfl ?_
  refine zi_put (pc := 18) h zx_MO 26 17 zq_k26 rfl zq_j_17_18 zw_601 rfl rfl rfl (Nat.le_of_ble_eq_true rfl) zd_MO_at_18 zn_u_cd ?_
  refine zi_aload_n (pc := 21) h (i := 0) zd_MO_at_21 rfl 0 rfl ?_
  refine zi_get (pc := 22) h zx_MO 26 17 zq_k26 rfl zq_j_17_18 zw_601 rfl zd_MO_at_22 ?_
  refine zi_topv (1) rfl ?_
  refine zi_if_le_f (pc := 25) h (tgt := 32) zd_MO_at_25 rfl (by decide) ?_
  refine zi_iconst (pc := 28) h zd_MO_at_28 zq_ic_0 ?_
  refine zi_goto (pc := 29) h (tgt := 38) zd_MO_at_29 rfl ?_
  exact zi_ireturn (pc := 38) h hr zd_MO_at_38 rfl rfl

set_option maxRecDepth 20000 in
theorem zc_MO_at_hi {l : Launch} {G : zz_G} {F : Nat → va_E} {w : Nat → Int32} {sz : Int32} {la : Nat → Int32} {ra : Nat → Nat → Int32} {fn : Int32} {fa : Nat → Nat → Int32} {cd : Int32} {x : Int32} {n : Nat} (hx : ¬ x < nI n) : zz_M l zy_MO_at zb_MO_at 2 (some .int) 0 0 G [.ref (G.2.2 26), .int x] (zz_N G F w sz la (nI n) ra fn fa cd) (some (.int 0)) (zz_N G F w sz la (nI n) ra fn fa 1) := by
  refine zz_M.of (by decide) (Nat.le_of_ble_eq_true rfl) ?_
  intro X hX h hr
  subst hX
  have h : zz_C X G (zz_A G.2.2) 2 zb_MO_at "PortTranslatorModel" 0 0 0 0 := h
  refine zi_aload_n (pc := 0) h (i := 0) zd_MO_at_0 rfl 0 rfl ?_
  refine zi_iload_n (pc := 1) h (i := 1) zd_MO_at_1 rfl 1 rfl ?_
  refine zi_if_lt (pc := 2) h (tgt := 13) zd_MO_at_2 rfl ?_ ?_
  · intro b2
    refine zi_iconst (pc := 13) h zd_MO_at_13 zq_ic_1 ?_
    refine zi_goto (pc := 14) h (tgt := 18) zd_MO_at_14 rfl ?_
    refine zi_put (pc := 18) h zx_MO 26 17 zq_k26 rfl zq_j_17_18 zw_601 rfl rfl rfl (Nat.le_of_ble_eq_true rfl) zd_MO_at_18 zn_u_cd ?_
    refine zi_aload_n (pc := 21) h (i := 0) zd_MO_at_21 rfl 0 rfl ?_
    refine zi_get (pc := 22) h zx_MO 26 17 zq_k26 rfl zq_j_17_18 zw_601 rfl zd_MO_at_22 ?_
    refine zi_topv (1) rfl ?_
    refine zi_if_le_f (pc := 25) h (tgt := 32) zd_MO_at_25 rfl (by decide) ?_
    refine zi_iconst (pc := 28) h zd_MO_at_28 zq_ic_0 ?_
    refine zi_goto (pc := 29) h (tgt := 38) zd_MO_at_29 rfl ?_
    exact zi_ireturn (pc := 38) h hr zd_MO_at_38 rfl rfl
  · intro b2
    refine zi_iload_n (pc := 5) h (i := 1) zd_MO_at_5 rfl 1 rfl ?_
    refine zi_aload_n (pc := 6) h (i := 0) zd_MO_at_6 rfl 0 rfl ?_
    refine zi_get (pc := 7) h zx_MO 26 3 zq_k26 rfl zq_j_3_18 zw_587 rfl zd_MO_at_7 ?_
    refine zi_icmp_lt_f (pc := 10) h (tgt := 17) zd_MO_at_10 rfl hx ?_
    refine zi_iconst (pc := 13) h zd_MO_at_13 zq_ic_1 ?_
    refine zi_goto (pc := 14) h (tgt := 18) zd_MO_at_14 rfl ?_
    refine zi_put (pc := 18) h zx_MO 26 17 zq_k26 rfl zq_j_17_18 zw_601 rfl rfl rfl (Nat.le_of_ble_eq_true rfl) zd_MO_at_18 zn_u_cd ?_
    refine zi_aload_n (pc := 21) h (i := 0) zd_MO_at_21 rfl 0 rfl ?_
    refine zi_get (pc := 22) h zx_MO 26 17 zq_k26 rfl zq_j_17_18 zw_601 rfl zd_MO_at_22 ?_
    refine zi_topv (1) rfl ?_
    refine zi_if_le_f (pc := 25) h (tgt := 32) zd_MO_at_25 rfl (by decide) ?_
    refine zi_iconst (pc := 28) h zd_MO_at_28 zq_ic_0 ?_
    refine zi_goto (pc := 29) h (tgt := 38) zd_MO_at_29 rfl ?_
    exact zi_ireturn (pc := 38) h hr zd_MO_at_38 rfl rfl
