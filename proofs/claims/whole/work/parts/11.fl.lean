def zs_hin (g su : Nat → Int32) : Int32 := if g 0 = su 0 then (if g 1 = su 1 then (if g 2 = su 2 then 1 else 0) else 0) else 0
def zs_hou (g su : Nat → Int32) : Int32 := if g 3 = su 3 then (if g 4 = su 4 then 1 else 0) else 0
def zs_how (g : Nat → Int32) (k p : Int32) : Int32 := if g 0 = k then (if g 5 = p then 1 else 0) else 0
def zs_sta (g su : Nat → Int32) (p : Int32) : Nat → Int32 := va_up (va_up (va_up (va_up (va_up (va_up (va_up (va_up (va_up (va_up g 0 (su 0)) 1 (su 1)) 2 (su 2)) 3 (su 3)) 4 (su 4)) 5 p) 6 0) 7 0) 8 0) 9 0
def zs_nfo (g : Nat → Int32) (x : Int32) : Nat → Int32 := if x &&& 1 = 0 then g else va_up g 8 1
def zs_nfi (g : Nat → Int32) (x : Int32) : Nat → Int32 := if x &&& 18 = 18 then (if x &&& 1 = 0 then va_up g 7 1 else va_up (va_up g 7 1) 9 1) else if x &&& 1 = 0 then g else va_up g 9 1
def zs_lif (g : Nat → Int32) : Int32 := if g 0 = 1 then 6 else if g 0 = 17 then 30 else if g 7 = 0 then 12 else if g 8 = 0 then 100 else if g 9 = 0 then 100 else 12
def zs_ovr (g : Nat → Int32) : Int32 := if g 6 ≤ zs_lif g then 0 else 1
def zs_flg (g : Nat → Int32) : Int32 := (if g 7 = 0 then 0 else 1) + (if g 8 = 0 then 0 else 2) + (if g 9 = 0 then 0 else 4)
def zs_hld (g : Nat → Int32) (a : Int32) : Int32 := if g 3 = 0 then 1 else if zs_ush (a ^^^ g 2) (32 - g 3) = 0 then 1 else 0
def zs_spk (g : Nat → Int32) (k a : Int32) : Int32 := if g 0 = 0 then 0 else if g 1 = 0 then (if zs_hld g a = 0 then 0 else 1) else if g 1 = k then (if zs_hld g a = 0 then 0 else 1) else 0
def zs_bec (g : Nat → Int32) (k w b p : Int32) : Nat → Int32 := va_up (va_up (va_up (va_up (va_up g 0 1) 1 k) 2 w) 3 b) 4 p
def zs_isn (k : Int32) : Int32 := if k < 0 then 0 else if 4 ≤ k then 0 else 1
def zs_rc (ru : Nat → Nat → Int32) : Nat → Nat → Int32 → Int32
  | _, 0, acc => acc
  | i, n + 1, acc => if ru i 0 = 0 then zs_rc ru (i + 1) n acc else zs_rc ru (i + 1) n (acc + 1)
def zs_per (ru : Nat → Nat → Int32) (k a : Int32) : Nat → Nat → Int32
  | _, 0 => 1
  | i, n + 1 => if zs_spk (ru i) k a = 0 then zs_per ru k a (i + 1) n else ru i 4

set_option maxRecDepth 20000 in
theorem zc_FL_hasInner {l : Launch} {G : zz_G} {F : Nat → va_E} {v : Nat → Int32} {sz : Int32} {lv : Nat → Int32} {lz : Int32} {su : Nat → Int32} {pm : Nat → Nat} {cn : Int32} {fl : Nat → Nat → Int32} {ru : Nat → Nat → Int32} {j : Nat} (hj : j < 12) : zz_M l zy_FL_hasInner zb_FL_hasInner 2 (some .boolean) 0 0 G [.ref (G.2.2 (10 + j)), .ref (G.2.2 5)] (zz_K G F v sz lv lz su pm cn fl ru) (some (.int (zs_hin (fl j) su))) (zz_K G F v sz lv lz su pm cn fl ru) := by
  refine zz_M.of (by decide) (Nat.le_of_ble_eq_true rfl) ?_
  intro X hX h hr
  subst hX
  have h : zz_C X G (zz_A G.2.2) 2 zb_FL_hasInner "PortTranslator$Flow" 0 0 0 0 := h
  refine zi_aload_n (pc := 0) h (i := 0) zd_FL_hasInner_0 rfl 0 rfl ?_
  refine zi_get (pc := 1) h zx_FL _ 0 (zq_fl hj) (zk_at_fl _ hj) zq_j_0_10 zw_91 rfl zd_FL_hasInner_1 ?_
  refine zi_aload_n (pc := 4) h (i := 1) zd_FL_hasInner_4 rfl 1 rfl ?_
  refine zi_get (pc := 5) h zx_SU 5 0 zq_k5 rfl zq_j_0_7 zw_46 rfl zd_FL_hasInner_5 ?_
  refine zi_icmp_ne (pc := 8) h (tgt := 37) zd_FL_hasInner_8 rfl ?_ ?_
  · intro b8
    refine zi_iconst (pc := 37) h zd_FL_hasInner_37 zq_ic_0 ?_
    exact zi_zreturn (pc := 38) h hr rfl zd_FL_hasInner_38 (by rw [zs_hin, if_neg b8]) rfl
  · intro b8
    refine zi_aload_n (pc := 11) h (i := 0) zd_FL_hasInner_11 rfl 0 rfl ?_
    refine zi_get (pc := 12) h zx_FL _ 1 (zq_fl hj) (zk_at_fl _ hj) zq_j_1_10 zw_92 rfl zd_FL_hasInner_12 ?_
    refine zi_aload_n (pc := 15) h (i := 1) zd_FL_hasInner_15 rfl 1 rfl ?_
    refine zi_get (pc := 16) h zx_SU 5 1 zq_k5 rfl zq_j_1_7 zw_50 rfl zd_FL_hasInner_16 ?_
    refine zi_icmp_ne (pc := 19) h (tgt := 37) zd_FL_hasInner_19 rfl ?_ ?_
    · intro b19
      refine zi_iconst (pc := 37) h zd_FL_hasInner_37 zq_ic_0 ?_
      exact zi_zreturn (pc := 38) h hr rfl zd_FL_hasInner_38 (by rw [zs_hin, if_pos b8, if_neg b19]) rfl
    · intro b19
      refine zi_aload_n (pc := 22) h (i := 0) zd_FL_hasInner_22 rfl 0 rfl ?_
      refine zi_get (pc := 23) h zx_FL _ 2 (zq_fl hj) (zk_at_fl _ hj) zq_j_2_10 zw_94 rfl zd_FL_hasInner_23 ?_
      refine zi_aload_n (pc := 26) h (i := 1) zd_FL_hasInner_26 rfl 1 rfl ?_
      refine zi_get (pc := 27) h zx_SU 5 2 zq_k5 rfl zq_j_2_7 zw_53 rfl zd_FL_hasInner_27 ?_
      refine zi_icmp_ne (pc := 30) h (tgt := 37) zd_FL_hasInner_30 rfl ?_ ?_
      · intro b30
        refine zi_iconst (pc := 37) h zd_FL_hasInner_37 zq_ic_0 ?_
        exact zi_zreturn (pc := 38) h hr rfl zd_FL_hasInner_38 (by rw [zs_hin, if_pos b8, if_pos b19, if_neg b30]) rfl
      · intro b30
        refine zi_iconst (pc := 33) h zd_FL_hasInner_33 zq_ic_1 ?_
        refine zi_goto (pc := 34) h (tgt := 38) zd_FL_hasInner_34 rfl ?_
        exact zi_zreturn (pc := 38) h hr rfl zd_FL_hasInner_38 (by rw [zs_hin, if_pos b8, if_pos b19, if_pos b30]) rfl

set_option maxRecDepth 20000 in
theorem zc_FL_hasOuter {l : Launch} {G : zz_G} {F : Nat → va_E} {v : Nat → Int32} {sz : Int32} {lv : Nat → Int32} {lz : Int32} {su : Nat → Int32} {pm : Nat → Nat} {cn : Int32} {fl : Nat → Nat → Int32} {ru : Nat → Nat → Int32} {j : Nat} (hj : j < 12) : zz_M l zy_FL_hasOuter zb_FL_hasOuter 2 (some .boolean) 0 0 G [.ref (G.2.2 (10 + j)), .ref (G.2.2 5)] (zz_K G F v sz lv lz su pm cn fl ru) (some (.int (zs_hou (fl j) su))) (zz_K G F v sz lv lz su pm cn fl ru) := by
  refine zz_M.of (by decide) (Nat.le_of_ble_eq_true rfl) ?_
  intro X hX h hr
  subst hX
  have h : zz_C X G (zz_A G.2.2) 2 zb_FL_hasOuter "PortTranslator$Flow" 0 0 0 0 := h
  refine zi_aload_n (pc := 0) h (i := 0) zd_FL_hasOuter_0 rfl 0 rfl ?_
  refine zi_get (pc := 1) h zx_FL _ 3 (zq_fl hj) (zk_at_fl _ hj) zq_j_3_10 zw_96 rfl zd_FL_hasOuter_1 ?_
  refine zi_aload_n (pc := 4) h (i := 1) zd_FL_hasOuter_4 rfl 1 rfl ?_
  refine zi_get (pc := 5) h zx_SU 5 3 zq_k5 rfl zq_j_3_7 zw_56 rfl zd_FL_hasOuter_5 ?_
  refine zi_icmp_ne (pc := 8) h (tgt := 26) zd_FL_hasOuter_8 rfl ?_ ?_
  · intro b8
    refine zi_iconst (pc := 26) h zd_FL_hasOuter_26 zq_ic_0 ?_
    exact zi_zreturn (pc := 27) h hr rfl zd_FL_hasOuter_27 (by rw [zs_hou, if_neg b8]) rfl
  · intro b8
    refine zi_aload_n (pc := 11) h (i := 0) zd_FL_hasOuter_11 rfl 0 rfl ?_
    refine zi_get (pc := 12) h zx_FL _ 4 (zq_fl hj) (zk_at_fl _ hj) zq_j_4_10 zw_97 rfl zd_FL_hasOuter_12 ?_
    refine zi_aload_n (pc := 15) h (i := 1) zd_FL_hasOuter_15 rfl 1 rfl ?_
    refine zi_get (pc := 16) h zx_SU 5 4 zq_k5 rfl zq_j_4_7 zw_59 rfl zd_FL_hasOuter_16 ?_
    refine zi_icmp_ne (pc := 19) h (tgt := 26) zd_FL_hasOuter_19 rfl ?_ ?_
    · intro b19
      refine zi_iconst (pc := 26) h zd_FL_hasOuter_26 zq_ic_0 ?_
      exact zi_zreturn (pc := 27) h hr rfl zd_FL_hasOuter_27 (by rw [zs_hou, if_pos b8, if_neg b19]) rfl
    · intro b19
      refine zi_iconst (pc := 22) h zd_FL_hasOuter_22 zq_ic_1 ?_
      refine zi_goto (pc := 23) h (tgt := 27) zd_FL_hasOuter_23 rfl ?_
      exact zi_zreturn (pc := 27) h hr rfl zd_FL_hasOuter_27 (by rw [zs_hou, if_pos b8, if_pos b19]) rfl

set_option maxRecDepth 20000 in
theorem zc_FL_hasOwn {l : Launch} {G : zz_G} {F : Nat → va_E} {v : Nat → Int32} {sz : Int32} {lv : Nat → Int32} {lz : Int32} {su : Nat → Int32} {pm : Nat → Nat} {cn : Int32} {fl : Nat → Nat → Int32} {ru : Nat → Nat → Int32} {j : Nat} {k p : Int32} (hj : j < 12) : zz_M l zy_FL_hasOwn zb_FL_hasOwn 3 (some .boolean) 0 0 G [.ref (G.2.2 (10 + j)), .int k, .int p] (zz_K G F v sz lv lz su pm cn fl ru) (some (.int (zs_how (fl j) k p))) (zz_K G F v sz lv lz su pm cn fl ru) := by
  refine zz_M.of (by decide) (Nat.le_of_ble_eq_true rfl) ?_
  intro X hX h hr
  subst hX
  have h : zz_C X G (zz_A G.2.2) 3 zb_FL_hasOwn "PortTranslator$Flow" 0 0 0 0 := h
  refine zi_aload_n (pc := 0) h (i := 0) zd_FL_hasOwn_0 rfl 0 rfl ?_
  refine zi_get (pc := 1) h zx_FL _ 0 (zq_fl hj) (zk_at_fl _ hj) zq_j_0_10 zw_91 rfl zd_FL_hasOwn_1 ?_
  refine zi_iload_n (pc := 4) h (i := 1) zd_FL_hasOwn_4 rfl 1 rfl ?_
  refine zi_icmp_ne (pc := 5) h (tgt := 20) zd_FL_hasOwn_5 rfl ?_ ?_
  · intro b5
    refine zi_iconst (pc := 20) h zd_FL_hasOwn_20 zq_ic_0 ?_
    exact zi_zreturn (pc := 21) h hr rfl zd_FL_hasOwn_21 (by rw [zs_how, if_neg b5]) rfl
  · intro b5
    refine zi_aload_n (pc := 8) h (i := 0) zd_FL_hasOwn_8 rfl 0 rfl ?_
    refine zi_get (pc := 9) h zx_FL _ 5 (zq_fl hj) (zk_at_fl _ hj) zq_j_5_10 zw_98 rfl zd_FL_hasOwn_9 ?_
    refine zi_iload_n (pc := 12) h (i := 2) zd_FL_hasOwn_12 rfl 2 rfl ?_
    refine zi_icmp_ne (pc := 13) h (tgt := 20) zd_FL_hasOwn_13 rfl ?_ ?_
    · intro b13
      refine zi_iconst (pc := 20) h zd_FL_hasOwn_20 zq_ic_0 ?_
      exact zi_zreturn (pc := 21) h hr rfl zd_FL_hasOwn_21 (by rw [zs_how, if_pos b5, if_neg b13]) rfl
    · intro b13
      refine zi_iconst (pc := 16) h zd_FL_hasOwn_16 zq_ic_1 ?_
      refine zi_goto (pc := 17) h (tgt := 21) zd_FL_hasOwn_17 rfl ?_
      exact zi_zreturn (pc := 21) h hr rfl zd_FL_hasOwn_21 (by rw [zs_how, if_pos b5, if_pos b13]) rfl

set_option maxRecDepth 20000 in
theorem zc_FL_start {l : Launch} {G : zz_G} {F : Nat → va_E} {v : Nat → Int32} {sz : Int32} {lv : Nat → Int32} {lz : Int32} {su : Nat → Int32} {pm : Nat → Nat} {cn : Int32} {fl : Nat → Nat → Int32} {ru : Nat → Nat → Int32} {j : Nat} {p : Int32} (hj : j < 12) : zz_M l zy_FL_start zb_FL_start 3 none 0 0 G [.ref (G.2.2 (10 + j)), .ref (G.2.2 5), .int p] (zz_K G F v sz lv lz su pm cn fl ru) none (zz_K G F v sz lv lz su pm cn (va_up fl j (zs_sta (fl j) su p)) ru) := by
  refine zz_M.of (by decide) (Nat.le_of_ble_eq_true rfl) ?_
  intro X hX h hr
  subst hX
  have h : zz_C X G (zz_A G.2.2) 3 zb_FL_start "PortTranslator$Flow" 0 0 0 0 := h
  refine zi_aload_n (pc := 0) h (i := 0) zd_FL_start_0 rfl 0 rfl ?_
  refine zi_aload_n (pc := 1) h (i := 1) zd_FL_start_1 rfl 1 rfl ?_
  refine zi_get (pc := 2) h zx_SU 5 0 zq_k5 rfl zq_j_0_7 zw_46 rfl zd_FL_start_2 ?_
  refine zi_put (pc := 5) h zx_FL _ 0 (zq_fl hj) (zk_at_fl _ hj) zq_j_0_10 zw_91 rfl rfl rfl (Nat.le_of_ble_eq_true rfl) zd_FL_start_5 (zk_s_fl _ hj 0 (by decide)) ?_
  refine zi_aload_n (pc := 8) h (i := 0) zd_FL_start_8 rfl 0 rfl ?_
  refine zi_aload_n (pc := 9) h (i := 1) zd_FL_start_9 rfl 1 rfl ?_
  refine zi_get (pc := 10) h zx_SU 5 1 zq_k5 rfl zq_j_1_7 zw_50 rfl zd_FL_start_10 ?_
  refine zi_put (pc := 13) h zx_FL _ 1 (zq_fl hj) (zk_at_fl1 _ hj) zq_j_1_10 zw_92 rfl rfl rfl (Nat.le_of_ble_eq_true rfl) zd_FL_start_13 (zk_s_fl1 _ hj 1 (by decide)) ?_
  refine zi_aload_n (pc := 16) h (i := 0) zd_FL_start_16 rfl 0 rfl ?_
  refine zi_aload_n (pc := 17) h (i := 1) zd_FL_start_17 rfl 1 rfl ?_
  refine zi_get (pc := 18) h zx_SU 5 2 zq_k5 rfl zq_j_2_7 zw_53 rfl zd_FL_start_18 ?_
  refine zi_put (pc := 21) h zx_FL _ 2 (zq_fl hj) (zk_at_fl1 _ hj) zq_j_2_10 zw_94 rfl rfl rfl (Nat.le_of_ble_eq_true rfl) zd_FL_start_21 (zk_s_fl1 _ hj 2 (by decide)) ?_
  refine zi_aload_n (pc := 24) h (i := 0) zd_FL_start_24 rfl 0 rfl ?_
  refine zi_aload_n (pc := 25) h (i := 1) zd_FL_start_25 rfl 1 rfl ?_
  refine zi_get (pc := 26) h zx_SU 5 3 zq_k5 rfl zq_j_3_7 zw_56 rfl zd_FL_start_26 ?_
  refine zi_put (pc := 29) h zx_FL _ 3 (zq_fl hj) (zk_at_fl1 _ hj) zq_j_3_10 zw_96 rfl rfl rfl (Nat.le_of_ble_eq_true rfl) zd_FL_start_29 (zk_s_fl1 _ hj 3 (by decide)) ?_
  refine zi_aload_n (pc := 32) h (i := 0) zd_FL_start_32 rfl 0 rfl ?_
  refine zi_aload_n (pc := 33) h (i := 1) zd_FL_start_33 rfl 1 rfl ?_
  refine zi_get (pc := 34) h zx_SU 5 4 zq_k5 rfl zq_j_4_7 zw_59 rfl zd_FL_start_34 ?_
  refine zi_put (pc := 37) h zx_FL _ 4 (zq_fl hj) (zk_at_fl1 _ hj) zq_j_4_10 zw_97 rfl rfl rfl (Nat.le_of_ble_eq_true rfl) zd_FL_start_37 (zk_s_fl1 _ hj 4 (by decide)) ?_
  refine zi_aload_n (pc := 40) h (i := 0) zd_FL_start_40 rfl 0 rfl ?_
  refine zi_iload_n (pc := 41) h (i := 2) zd_FL_start_41 rfl 2 rfl ?_
  refine zi_put (pc := 42) h zx_FL _ 5 (zq_fl hj) (zk_at_fl1 _ hj) zq_j_5_10 zw_98 rfl rfl rfl (Nat.le_of_ble_eq_true rfl) zd_FL_start_42 (zk_s_fl1 _ hj 5 (by decide)) ?_
  refine zi_aload_n (pc := 45) h (i := 0) zd_FL_start_45 rfl 0 rfl ?_
  refine zi_iconst (pc := 46) h zd_FL_start_46 zq_ic_0 ?_
  refine zi_put (pc := 47) h zx_FL _ 6 (zq_fl hj) (zk_at_fl1 _ hj) zq_j_6_10 zw_101 rfl rfl rfl (Nat.le_of_ble_eq_true rfl) zd_FL_start_47 (zk_s_fl1 _ hj 6 (by decide)) ?_
  refine zi_aload_n (pc := 50) h (i := 0) zd_FL_start_50 rfl 0 rfl ?_
  refine zi_iconst (pc := 51) h zd_FL_start_51 zq_ic_0 ?_
  refine zi_put (pc := 52) h zx_FL _ 7 (zq_fl hj) (zk_at_fl1 _ hj) zq_j_7_10 zw_104 rfl rfl rfl (Nat.le_of_ble_eq_true rfl) zd_FL_start_52 (zk_s_fl1 _ hj 7 (by decide)) ?_
  refine zi_aload_n (pc := 55) h (i := 0) zd_FL_start_55 rfl 0 rfl ?_
  refine zi_iconst (pc := 56) h zd_FL_start_56 zq_ic_0 ?_
  refine zi_put (pc := 57) h zx_FL _ 8 (zq_fl hj) (zk_at_fl1 _ hj) zq_j_8_10 zw_105 rfl rfl rfl (Nat.le_of_ble_eq_true rfl) zd_FL_start_57 (zk_s_fl1 _ hj 8 (by decide)) ?_
  refine zi_aload_n (pc := 60) h (i := 0) zd_FL_start_60 rfl 0 rfl ?_
  refine zi_iconst (pc := 61) h zd_FL_start_61 zq_ic_0 ?_
  refine zi_put (pc := 62) h zx_FL _ 9 (zq_fl hj) (zk_at_fl1 _ hj) zq_j_9_10 zw_106 rfl rfl rfl (Nat.le_of_ble_eq_true rfl) zd_FL_start_62 (zk_s_fl1 _ hj 9 (by decide)) ?_
  exact zi_vreturn (pc := 65) h hr zd_FL_start_65 rfl rfl

set_option maxRecDepth 20000 in
theorem zc_FL_noteFlags_o {l : Launch} {G : zz_G} {F : Nat → va_E} {v : Nat → Int32} {sz : Int32} {lv : Nat → Int32} {lz : Int32} {su : Nat → Int32} {pm : Nat → Nat} {cn : Int32} {fl : Nat → Nat → Int32} {ru : Nat → Nat → Int32} {j : Nat} {x : Int32} (hj : j < 12) : zz_M l zy_FL_noteFlags zb_FL_noteFlags 3 none 0 0 G [.ref (G.2.2 (10 + j)), .int x, .int 1] (zz_K G F v sz lv lz su pm cn fl ru) none (zz_K G F v sz lv lz su pm cn (va_up fl j (zs_nfo (fl j) x)) ru) := by
  refine zz_M.of (by decide) (Nat.le_of_ble_eq_true rfl) ?_
  intro X hX h hr
  subst hX
  have h : zz_C X G (zz_A G.2.2) 3 zb_FL_noteFlags "PortTranslator$Flow" 0 0 0 0 := h
  refine zi_iload_n (pc := 0) h (i := 2) zd_FL_noteFlags_0 rfl 2 rfl ?_
  refine zi_if_ne_t (pc := 1) h (tgt := 18) zd_FL_noteFlags_1 rfl (by decide) ?_
  refine zi_iload_n (pc := 18) h (i := 1) zd_FL_noteFlags_18 rfl 1 rfl ?_
  refine zi_iconst (pc := 19) h zd_FL_noteFlags_19 zq_ic_1 ?_
  refine zi_iand (pc := 20) h zd_FL_noteFlags_20 ?_
  refine zi_if_eq (pc := 21) h (tgt := 41) zd_FL_noteFlags_21 rfl ?_ ?_
  · intro b21
    exact zi_vreturn (pc := 41) h hr zd_FL_noteFlags_41 rfl (by first | rw [zs_nfo, if_pos b21, zz_self] | rw [zs_nfo, if_pos b21])
  · intro b21
    refine zi_iload_n (pc := 24) h (i := 2) zd_FL_noteFlags_24 rfl 2 rfl ?_
    refine zi_if_eq_f (pc := 25) h (tgt := 36) zd_FL_noteFlags_25 rfl (by decide) ?_
    refine zi_aload_n (pc := 28) h (i := 0) zd_FL_noteFlags_28 rfl 0 rfl ?_
    refine zi_iconst (pc := 29) h zd_FL_noteFlags_29 zq_ic_1 ?_
    refine zi_put (pc := 30) h zx_FL _ 8 (zq_fl hj) (zk_at_fl _ hj) zq_j_8_10 zw_105 rfl rfl rfl (Nat.le_of_ble_eq_true rfl) zd_FL_noteFlags_30 (zk_s_fl _ hj 8 (by decide)) ?_
    refine zi_goto (pc := 33) h (tgt := 41) zd_FL_noteFlags_33 rfl ?_
    exact zi_vreturn (pc := 41) h hr zd_FL_noteFlags_41 rfl (by first | rw [zs_nfo, if_neg b21, zz_self] | rw [zs_nfo, if_neg b21])

set_option maxRecDepth 20000 in
theorem zc_FL_noteFlags_i {l : Launch} {G : zz_G} {F : Nat → va_E} {v : Nat → Int32} {sz : Int32} {lv : Nat → Int32} {lz : Int32} {su : Nat → Int32} {pm : Nat → Nat} {cn : Int32} {fl : Nat → Nat → Int32} {ru : Nat → Nat → Int32} {j : Nat} {x : Int32} (hj : j < 12) : zz_M l zy_FL_noteFlags zb_FL_noteFlags 3 none 0 0 G [.ref (G.2.2 (10 + j)), .int x, .int 0] (zz_K G F v sz lv lz su pm cn fl ru) none (zz_K G F v sz lv lz su pm cn (va_up fl j (zs_nfi (fl j) x)) ru) := by
  refine zz_M.of (by decide) (Nat.le_of_ble_eq_true rfl) ?_
  intro X hX h hr
  subst hX
  have h : zz_C X G (zz_A G.2.2) 3 zb_FL_noteFlags "PortTranslator$Flow" 0 0 0 0 := h
  refine zi_iload_n (pc := 0) h (i := 2) zd_FL_noteFlags_0 rfl 2 rfl ?_
  refine zi_if_ne_f (pc := 1) h (tgt := 18) zd_FL_noteFlags_1 rfl (by decide) ?_
  refine zi_iload_n (pc := 4) h (i := 1) zd_FL_noteFlags_4 rfl 1 rfl ?_
  refine zi_bipush (pc := 5) h zd_FL_noteFlags_5 zq_bi_18 ?_
  refine zi_iand (pc := 7) h zd_FL_noteFlags_7 ?_
  refine zi_bipush (pc := 8) h zd_FL_noteFlags_8 zq_bi_18 ?_
  refine zi_icmp_ne (pc := 10) h (tgt := 18) zd_FL_noteFlags_10 rfl ?_ ?_
  · intro b10
    refine zi_iload_n (pc := 18) h (i := 1) zd_FL_noteFlags_18 rfl 1 rfl ?_
    refine zi_iconst (pc := 19) h zd_FL_noteFlags_19 zq_ic_1 ?_
    refine zi_iand (pc := 20) h zd_FL_noteFlags_20 ?_
    refine zi_if_eq (pc := 21) h (tgt := 41) zd_FL_noteFlags_21 rfl ?_ ?_
    · intro b21
      exact zi_vreturn (pc := 41) h hr zd_FL_noteFlags_41 rfl (by first | rw [zs_nfi, if_neg b10, if_pos b21, zz_self] | rw [zs_nfi, if_neg b10, if_pos b21])
    · intro b21
      refine zi_iload_n (pc := 24) h (i := 2) zd_FL_noteFlags_24 rfl 2 rfl ?_
      refine zi_if_eq_t (pc := 25) h (tgt := 36) zd_FL_noteFlags_25 rfl (by decide) ?_
      refine zi_aload_n (pc := 36) h (i := 0) zd_FL_noteFlags_36 rfl 0 rfl ?_
      refine zi_iconst (pc := 37) h zd_FL_noteFlags_37 zq_ic_1 ?_
      refine zi_put (pc := 38) h zx_FL _ 9 (zq_fl hj) (zk_at_fl _ hj) zq_j_9_10 zw_106 rfl rfl rfl (Nat.le_of_ble_eq_true rfl) zd_FL_noteFlags_38 (zk_s_fl _ hj 9 (by decide)) ?_
      exact zi_vreturn (pc := 41) h hr zd_FL_noteFlags_41 rfl (by first | rw [zs_nfi, if_neg b10, if_neg b21, zz_self] | rw [zs_nfi, if_neg b10, if_neg b21])
  · intro b10
    refine zi_aload_n (pc := 13) h (i := 0) zd_FL_noteFlags_13 rfl 0 rfl ?_
    refine zi_iconst (pc := 14) h zd_FL_noteFlags_14 zq_ic_1 ?_
    refine zi_put (pc := 15) h zx_FL _ 7 (zq_fl hj) (zk_at_fl _ hj) zq_j_7_10 zw_104 rfl rfl rfl (Nat.le_of_ble_eq_true rfl) zd_FL_noteFlags_15 (zk_s_fl _ hj 7 (by decide)) ?_
    refine zi_iload_n (pc := 18) h (i := 1) zd_FL_noteFlags_18 rfl 1 rfl ?_
    refine zi_iconst (pc := 19) h zd_FL_noteFlags_19 zq_ic_1 ?_
    refine zi_iand (pc := 20) h zd_FL_noteFlags_20 ?_
    refine zi_if_eq (pc := 21) h (tgt := 41) zd_FL_noteFlags_21 rfl ?_ ?_
    · intro b21
      exact zi_vreturn (pc := 41) h hr zd_FL_noteFlags_41 rfl (by first | rw [zs_nfi, if_pos b10, if_pos b21, zz_self] | rw [zs_nfi, if_pos b10, if_pos b21])
    · intro b21
      refine zi_iload_n (pc := 24) h (i := 2) zd_FL_noteFlags_24 rfl 2 rfl ?_
      refine zi_if_eq_t (pc := 25) h (tgt := 36) zd_FL_noteFlags_25 rfl (by decide) ?_
      refine zi_aload_n (pc := 36) h (i := 0) zd_FL_noteFlags_36 rfl 0 rfl ?_
      refine zi_iconst (pc := 37) h zd_FL_noteFlags_37 zq_ic_1 ?_
      refine zi_put (pc := 38) h zx_FL _ 9 (zq_fl hj) (zk_at_fl1 _ hj) zq_j_9_10 zw_106 rfl rfl rfl (Nat.le_of_ble_eq_true rfl) zd_FL_noteFlags_38 (zk_s_fl1 _ hj 9 (by decide)) ?_
      exact zi_vreturn (pc := 41) h hr zd_FL_noteFlags_41 rfl (by first | rw [zs_nfi, if_pos b10, if_neg b21, zz_self] | rw [zs_nfi, if_pos b10, if_neg b21])

set_option maxRecDepth 20000 in
theorem zc_FL_life {l : Launch} {G : zz_G} {F : Nat → va_E} {v : Nat → Int32} {sz : Int32} {lv : Nat → Int32} {lz : Int32} {su : Nat → Int32} {pm : Nat → Nat} {cn : Int32} {fl : Nat → Nat → Int32} {ru : Nat → Nat → Int32} {j : Nat} (hj : j < 12) : zz_M l zy_FL_life zb_FL_life 1 (some .int) 0 0 G [.ref (G.2.2 (10 + j))] (zz_K G F v sz lv lz su pm cn fl ru) (some (.int (zs_lif (fl j)))) (zz_K G F v sz lv lz su pm cn fl ru) := by
  refine zz_M.of (by decide) (Nat.le_of_ble_eq_true rfl) ?_
  intro X hX h hr
  subst hX
  have h : zz_C X G (zz_A G.2.2) 1 zb_FL_life "PortTranslator$Flow" 0 0 0 0 := h
  refine zi_aload_n (pc := 0) h (i := 0) zd_FL_life_0 rfl 0 rfl ?_
  refine zi_get (pc := 1) h zx_FL _ 0 (zq_fl hj) (zk_at_fl _ hj) zq_j_0_10 zw_91 rfl zd_FL_life_1 ?_
  refine zi_iconst (pc := 4) h zd_FL_life_4 zq_ic_1 ?_
  refine zi_icmp_ne (pc := 5) h (tgt := 11) zd_FL_life_5 rfl ?_ ?_
  · intro b5
    refine zi_aload_n (pc := 11) h (i := 0) zd_FL_life_11 rfl 0 rfl ?_
    refine zi_get (pc := 12) h zx_FL _ 0 (zq_fl hj) (zk_at_fl _ hj) zq_j_0_10 zw_91 rfl zd_FL_life_12 ?_
    refine zi_bipush (pc := 15) h zd_FL_life_15 zq_bi_17 ?_
    refine zi_icmp_ne (pc := 17) h (tgt := 23) zd_FL_life_17 rfl ?_ ?_
    · intro b17
      refine zi_aload_n (pc := 23) h (i := 0) zd_FL_life_23 rfl 0 rfl ?_
      refine zi_get (pc := 24) h zx_FL _ 7 (zq_fl hj) (zk_at_fl _ hj) zq_j_7_10 zw_104 rfl zd_FL_life_24 ?_
      refine zi_if_eq (pc := 27) h (tgt := 49) zd_FL_life_27 rfl ?_ ?_
      · intro b27
        refine zi_bipush (pc := 49) h zd_FL_life_49 zq_bi_12 ?_
        exact zi_ireturn (pc := 51) h hr zd_FL_life_51 (by rw [zs_lif, if_neg b5, if_neg b17, if_pos b27]) rfl
      · intro b27
        refine zi_aload_n (pc := 30) h (i := 0) zd_FL_life_30 rfl 0 rfl ?_
        refine zi_get (pc := 31) h zx_FL _ 8 (zq_fl hj) (zk_at_fl _ hj) zq_j_8_10 zw_105 rfl zd_FL_life_31 ?_
        refine zi_if_eq (pc := 34) h (tgt := 44) zd_FL_life_34 rfl ?_ ?_
        · intro b34
          refine zi_bipush (pc := 44) h zd_FL_life_44 zq_bi_100 ?_
          refine zi_goto (pc := 46) h (tgt := 51) zd_FL_life_46 rfl ?_
          exact zi_ireturn (pc := 51) h hr zd_FL_life_51 (by rw [zs_lif, if_neg b5, if_neg b17, if_neg b27, if_pos b34]) rfl
        · intro b34
          refine zi_aload_n (pc := 37) h (i := 0) zd_FL_life_37 rfl 0 rfl ?_
          refine zi_get (pc := 38) h zx_FL _ 9 (zq_fl hj) (zk_at_fl _ hj) zq_j_9_10 zw_106 rfl zd_FL_life_38 ?_
          refine zi_if_ne (pc := 41) h (tgt := 49) zd_FL_life_41 rfl ?_ ?_
          · intro b41
            refine zi_bipush (pc := 49) h zd_FL_life_49 zq_bi_12 ?_
            exact zi_ireturn (pc := 51) h hr zd_FL_life_51 (by rw [zs_lif, if_neg b5, if_neg b17, if_neg b27, if_neg b34, if_neg b41]) rfl
          · intro b41
            refine zi_bipush (pc := 44) h zd_FL_life_44 zq_bi_100 ?_
            refine zi_goto (pc := 46) h (tgt := 51) zd_FL_life_46 rfl ?_
            exact zi_ireturn (pc := 51) h hr zd_FL_life_51 (by rw [zs_lif, if_neg b5, if_neg b17, if_neg b27, if_neg b34, if_pos b41]) rfl
    · intro b17
      refine zi_bipush (pc := 20) h zd_FL_life_20 zq_bi_30 ?_
      exact zi_ireturn (pc := 22) h hr zd_FL_life_22 (by rw [zs_lif, if_neg b5, if_pos b17]) rfl
  · intro b5
    refine zi_bipush (pc := 8) h zd_FL_life_8 zq_bi_6 ?_
    exact zi_ireturn (pc := 10) h hr zd_FL_life_10 (by rw [zs_lif, if_pos b5]) rfl

set_option maxRecDepth 20000 in
theorem zc_FL_isOver {l : Launch} {G : zz_G} {F : Nat → va_E} {v : Nat → Int32} {sz : Int32} {lv : Nat → Int32} {lz : Int32} {su : Nat → Int32} {pm : Nat → Nat} {cn : Int32} {fl : Nat → Nat → Int32} {ru : Nat → Nat → Int32} {j : Nat} (hj : j < 12) : zz_M l zy_FL_isOver zb_FL_isOver 1 (some .boolean) 1 20 G [.ref (G.2.2 (10 + j))] (zz_K G F v sz lv lz su pm cn fl ru) (some (.int (zs_ovr (fl j)))) (zz_K G F v sz lv lz su pm cn fl ru) := by
  refine zz_M.of (by decide) (Nat.le_of_ble_eq_true rfl) ?_
  intro X hX h hr
  subst hX
  have h : zz_C X G (zz_A G.2.2) 1 zb_FL_isOver "PortTranslator$Flow" 1 20 0 0 := h
  refine zi_aload_n (pc := 0) h (i := 0) zd_FL_isOver_0 rfl 0 rfl ?_
  refine zi_get (pc := 1) h zx_FL _ 6 (zq_fl hj) (zk_at_fl _ hj) zq_j_6_10 zw_101 rfl zd_FL_isOver_1 ?_
  refine zi_aload_n (pc := 4) h (i := 0) zd_FL_isOver_4 rfl 0 rfl ?_
  refine zi_callV (pc := 5) h (st := [_]) (zc_FL_life hj) zm_FL_life zw_537 zx_FL (zq_fl hj) (zk_at_fl _ hj) ⟨by decide, by decide⟩ zd_FL_isOver_5 (Nat.le_of_ble_eq_true rfl) rfl ?_
  refine zi_icmp_le (pc := 8) h (tgt := 15) zd_FL_isOver_8 rfl ?_ ?_
  · intro b8
    refine zi_iconst (pc := 15) h zd_FL_isOver_15 zq_ic_0 ?_
    exact zi_zreturn (pc := 16) h hr rfl zd_FL_isOver_16 (by rw [zs_ovr, if_pos b8]) rfl
  · intro b8
    refine zi_iconst (pc := 11) h zd_FL_isOver_11 zq_ic_1 ?_
    refine zi_goto (pc := 12) h (tgt := 16) zd_FL_isOver_12 rfl ?_
    exact zi_zreturn (pc := 16) h hr rfl zd_FL_isOver_16 (by rw [zs_ovr, if_neg b8]) rfl

set_option maxRecDepth 20000 in
theorem zc_FL_detail_0 {l : Launch} {G : zz_G} {F : Nat → va_E} {v : Nat → Int32} {sz : Int32} {lv : Nat → Int32} {lz : Int32} {su : Nat → Int32} {pm : Nat → Nat} {cn : Int32} {fl : Nat → Nat → Int32} {ru : Nat → Nat → Int32} {j : Nat} (hj : j < 12) : zz_M l zy_FL_detail zb_FL_detail 2 (some .int) 0 0 G [.ref (G.2.2 (10 + j)), .int 0] (zz_K G F v sz lv lz su pm cn fl ru) (some (.int (fl j 0))) (zz_K G F v sz lv lz su pm cn fl ru) := by
  refine zz_M.of (by decide) (Nat.le_of_ble_eq_true rfl) ?_
  intro X hX h hr
  subst hX
  have h : zz_C X G (zz_A G.2.2) 2 zb_FL_detail "PortTranslator$Flow" 0 0 0 0 := h
  refine zi_iload_n (pc := 0) h (i := 1) zd_FL_detail_0 rfl 1 rfl ?_
  refine zi_tableIn (pc := 1) h (off := 43) (tgt := 44) zd_FL_detail_1 (by decide) (by decide) (by decide) rfl ?_
  refine zi_aload_n (pc := 44) h (i := 0) zd_FL_detail_44 rfl 0 rfl ?_
  refine zi_get (pc := 45) h zx_FL _ 0 (zq_fl hj) (zk_at_fl _ hj) zq_j_0_10 zw_91 rfl zd_FL_detail_45 ?_
  exact zi_ireturn (pc := 48) h hr zd_FL_detail_48 rfl rfl

set_option maxRecDepth 20000 in
theorem zc_FL_detail_1 {l : Launch} {G : zz_G} {F : Nat → va_E} {v : Nat → Int32} {sz : Int32} {lv : Nat → Int32} {lz : Int32} {su : Nat → Int32} {pm : Nat → Nat} {cn : Int32} {fl : Nat → Nat → Int32} {ru : Nat → Nat → Int32} {j : Nat} (hj : j < 12) : zz_M l zy_FL_detail zb_FL_detail 2 (some .int) 0 0 G [.ref (G.2.2 (10 + j)), .int 1] (zz_K G F v sz lv lz su pm cn fl ru) (some (.int (fl j 1))) (zz_K G F v sz lv lz su pm cn fl ru) := by
  refine zz_M.of (by decide) (Nat.le_of_ble_eq_true rfl) ?_
  intro X hX h hr
  subst hX
  have h : zz_C X G (zz_A G.2.2) 2 zb_FL_detail "PortTranslator$Flow" 0 0 0 0 := h
  refine zi_iload_n (pc := 0) h (i := 1) zd_FL_detail_0 rfl 1 rfl ?_
  refine zi_tableIn (pc := 1) h (off := 48) (tgt := 49) zd_FL_detail_1 (by decide) (by decide) (by decide) rfl ?_
  refine zi_aload_n (pc := 49) h (i := 0) zd_FL_detail_49 rfl 0 rfl ?_
  refine zi_get (pc := 50) h zx_FL _ 1 (zq_fl hj) (zk_at_fl _ hj) zq_j_1_10 zw_92 rfl zd_FL_detail_50 ?_
  exact zi_ireturn (pc := 53) h hr zd_FL_detail_53 rfl rfl

set_option maxRecDepth 20000 in
theorem zc_FL_detail_2 {l : Launch} {G : zz_G} {F : Nat → va_E} {v : Nat → Int32} {sz : Int32} {lv : Nat → Int32} {lz : Int32} {su : Nat → Int32} {pm : Nat → Nat} {cn : Int32} {fl : Nat → Nat → Int32} {ru : Nat → Nat → Int32} {j : Nat} (hj : j < 12) : zz_M l zy_FL_detail zb_FL_detail 2 (some .int) 0 0 G [.ref (G.2.2 (10 + j)), .int 2] (zz_K G F v sz lv lz su pm cn fl ru) (some (.int (fl j 2))) (zz_K G F v sz lv lz su pm cn fl ru) := by
  refine zz_M.of (by decide) (Nat.le_of_ble_eq_true rfl) ?_
  intro X hX h hr
  subst hX
  have h : zz_C X G (zz_A G.2.2) 2 zb_FL_detail "PortTranslator$Flow" 0 0 0 0 := h
  refine zi_iload_n (pc := 0) h (i := 1) zd_FL_detail_0 rfl 1 rfl ?_
  refine zi_tableIn (pc := 1) h (off := 53) (tgt := 54) zd_FL_detail_1 (by decide) (by decide) (by decide) rfl ?_
  refine zi_aload_n (pc := 54) h (i := 0) zd_FL_detail_54 rfl 0 rfl ?_
  refine zi_get (pc := 55) h zx_FL _ 2 (zq_fl hj) (zk_at_fl _ hj) zq_j_2_10 zw_94 rfl zd_FL_detail_55 ?_
  exact zi_ireturn (pc := 58) h hr zd_FL_detail_58 rfl rfl

set_option maxRecDepth 20000 in
theorem zc_FL_detail_3 {l : Launch} {G : zz_G} {F : Nat → va_E} {v : Nat → Int32} {sz : Int32} {lv : Nat → Int32} {lz : Int32} {su : Nat → Int32} {pm : Nat → Nat} {cn : Int32} {fl : Nat → Nat → Int32} {ru : Nat → Nat → Int32} {j : Nat} (hj : j < 12) : zz_M l zy_FL_detail zb_FL_detail 2 (some .int) 0 0 G [.ref (G.2.2 (10 + j)), .int 3] (zz_K G F v sz lv lz su pm cn fl ru) (some (.int (fl j 3))) (zz_K G F v sz lv lz su pm cn fl ru) := by
  refine zz_M.of (by decide) (Nat.le_of_ble_eq_true rfl) ?_
  intro X hX h hr
  subst hX
  have h : zz_C X G (zz_A G.2.2) 2 zb_FL_detail "PortTranslator$Flow" 0 0 0 0 := h
  refine zi_iload_n (pc := 0) h (i := 1) zd_FL_detail_0 rfl 1 rfl ?_
  refine zi_tableIn (pc := 1) h (off := 58) (tgt := 59) zd_FL_detail_1 (by decide) (by decide) (by decide) rfl ?_
  refine zi_aload_n (pc := 59) h (i := 0) zd_FL_detail_59 rfl 0 rfl ?_
  refine zi_get (pc := 60) h zx_FL _ 3 (zq_fl hj) (zk_at_fl _ hj) zq_j_3_10 zw_96 rfl zd_FL_detail_60 ?_
  exact zi_ireturn (pc := 63) h hr zd_FL_detail_63 rfl rfl

set_option maxRecDepth 20000 in
theorem zc_FL_detail_4 {l : Launch} {G : zz_G} {F : Nat → va_E} {v : Nat → Int32} {sz : Int32} {lv : Nat → Int32} {lz : Int32} {su : Nat → Int32} {pm : Nat → Nat} {cn : Int32} {fl : Nat → Nat → Int32} {ru : Nat → Nat → Int32} {j : Nat} (hj : j < 12) : zz_M l zy_FL_detail zb_FL_detail 2 (some .int) 0 0 G [.ref (G.2.2 (10 + j)), .int 4] (zz_K G F v sz lv lz su pm cn fl ru) (some (.int (fl j 4))) (zz_K G F v sz lv lz su pm cn fl ru) := by
  refine zz_M.of (by decide) (Nat.le_of_ble_eq_true rfl) ?_
  intro X hX h hr
  subst hX
  have h : zz_C X G (zz_A G.2.2) 2 zb_FL_detail "PortTranslator$Flow" 0 0 0 0 := h
  refine zi_iload_n (pc := 0) h (i := 1) zd_FL_detail_0 rfl 1 rfl ?_
  refine zi_tableIn (pc := 1) h (off := 63) (tgt := 64) zd_FL_detail_1 (by decide) (by decide) (by decide) rfl ?_
  refine zi_aload_n (pc := 64) h (i := 0) zd_FL_detail_64 rfl 0 rfl ?_
  refine zi_get (pc := 65) h zx_FL _ 4 (zq_fl hj) (zk_at_fl _ hj) zq_j_4_10 zw_97 rfl zd_FL_detail_65 ?_
  exact zi_ireturn (pc := 68) h hr zd_FL_detail_68 rfl rfl

set_option maxRecDepth 20000 in
theorem zc_FL_detail_5 {l : Launch} {G : zz_G} {F : Nat → va_E} {v : Nat → Int32} {sz : Int32} {lv : Nat → Int32} {lz : Int32} {su : Nat → Int32} {pm : Nat → Nat} {cn : Int32} {fl : Nat → Nat → Int32} {ru : Nat → Nat → Int32} {j : Nat} (hj : j < 12) : zz_M l zy_FL_detail zb_FL_detail 2 (some .int) 0 0 G [.ref (G.2.2 (10 + j)), .int 5] (zz_K G F v sz lv lz su pm cn fl ru) (some (.int (fl j 5))) (zz_K G F v sz lv lz su pm cn fl ru) := by
  refine zz_M.of (by decide) (Nat.le_of_ble_eq_true rfl) ?_
  intro X hX h hr
  subst hX
  have h : zz_C X G (zz_A G.2.2) 2 zb_FL_detail "PortTranslator$Flow" 0 0 0 0 := h
  refine zi_iload_n (pc := 0) h (i := 1) zd_FL_detail_0 rfl 1 rfl ?_
  refine zi_tableIn (pc := 1) h (off := 68) (tgt := 69) zd_FL_detail_1 (by decide) (by decide) (by decide) rfl ?_
  refine zi_aload_n (pc := 69) h (i := 0) zd_FL_detail_69 rfl 0 rfl ?_
  refine zi_get (pc := 70) h zx_FL _ 5 (zq_fl hj) (zk_at_fl _ hj) zq_j_5_10 zw_98 rfl zd_FL_detail_70 ?_
  exact zi_ireturn (pc := 73) h hr zd_FL_detail_73 rfl rfl

set_option maxRecDepth 20000 in
theorem zc_FL_detail_6 {l : Launch} {G : zz_G} {F : Nat → va_E} {v : Nat → Int32} {sz : Int32} {lv : Nat → Int32} {lz : Int32} {su : Nat → Int32} {pm : Nat → Nat} {cn : Int32} {fl : Nat → Nat → Int32} {ru : Nat → Nat → Int32} {j : Nat} (hj : j < 12) : zz_M l zy_FL_detail zb_FL_detail 2 (some .int) 0 0 G [.ref (G.2.2 (10 + j)), .int 6] (zz_K G F v sz lv lz su pm cn fl ru) (some (.int (fl j 6))) (zz_K G F v sz lv lz su pm cn fl ru) := by
  refine zz_M.of (by decide) (Nat.le_of_ble_eq_true rfl) ?_
  intro X hX h hr
  subst hX
  have h : zz_C X G (zz_A G.2.2) 2 zb_FL_detail "PortTranslator$Flow" 0 0 0 0 := h
  refine zi_iload_n (pc := 0) h (i := 1) zd_FL_detail_0 rfl 1 rfl ?_
  refine zi_tableIn (pc := 1) h (off := 73) (tgt := 74) zd_FL_detail_1 (by decide) (by decide) (by decide) rfl ?_
  refine zi_aload_n (pc := 74) h (i := 0) zd_FL_detail_74 rfl 0 rfl ?_
  refine zi_get (pc := 75) h zx_FL _ 6 (zq_fl hj) (zk_at_fl _ hj) zq_j_6_10 zw_101 rfl zd_FL_detail_75 ?_
  exact zi_ireturn (pc := 78) h hr zd_FL_detail_78 rfl rfl

set_option maxRecDepth 20000 in
theorem zc_FL_detail_7 {l : Launch} {G : zz_G} {F : Nat → va_E} {v : Nat → Int32} {sz : Int32} {lv : Nat → Int32} {lz : Int32} {su : Nat → Int32} {pm : Nat → Nat} {cn : Int32} {fl : Nat → Nat → Int32} {ru : Nat → Nat → Int32} {j : Nat} (hj : j < 12) : zz_M l zy_FL_detail zb_FL_detail 2 (some .int) 0 0 G [.ref (G.2.2 (10 + j)), .int 7] (zz_K G F v sz lv lz su pm cn fl ru) (some (.int (zs_flg (fl j)))) (zz_K G F v sz lv lz su pm cn fl ru) := by
  refine zz_M.of (by decide) (Nat.le_of_ble_eq_true rfl) ?_
  intro X hX h hr
  subst hX
  have h : zz_C X G (zz_A G.2.2) 2 zb_FL_detail "PortTranslator$Flow" 0 0 0 0 := h
  refine zi_iload_n (pc := 0) h (i := 1) zd_FL_detail_0 rfl 1 rfl ?_
  refine zi_tableOut (pc := 1) h (tgt := 79) zd_FL_detail_1 (by decide) rfl ?_
  refine zi_aload_n (pc := 79) h (i := 0) zd_FL_detail_79 rfl 0 rfl ?_
  refine zi_get (pc := 80) h zx_FL _ 7 (zq_fl hj) (zk_at_fl _ hj) zq_j_7_10 zw_104 rfl zd_FL_detail_80 ?_
  refine zi_if_eq (pc := 83) h (tgt := 90) zd_FL_detail_83 rfl ?_ ?_
  · intro b83
    refine zi_iconst (pc := 90) h zd_FL_detail_90 zq_ic_0 ?_
    refine zi_aload_n (pc := 91) h (i := 0) zd_FL_detail_91 rfl 0 rfl ?_
    refine zi_get (pc := 92) h zx_FL _ 8 (zq_fl hj) (zk_at_fl _ hj) zq_j_8_10 zw_105 rfl zd_FL_detail_92 ?_
    refine zi_if_eq (pc := 95) h (tgt := 102) zd_FL_detail_95 rfl ?_ ?_
    · intro b95
      refine zi_iconst (pc := 102) h zd_FL_detail_102 zq_ic_0 ?_
      refine zi_iadd (pc := 103) h zd_FL_detail_103 ?_
      refine zi_topv (0) (by decide) ?_
      refine zi_aload_n (pc := 104) h (i := 0) zd_FL_detail_104 rfl 0 rfl ?_
      refine zi_get (pc := 105) h zx_FL _ 9 (zq_fl hj) (zk_at_fl _ hj) zq_j_9_10 zw_106 rfl zd_FL_detail_105 ?_
      refine zi_if_eq (pc := 108) h (tgt := 115) zd_FL_detail_108 rfl ?_ ?_
      · intro b108
        refine zi_iconst (pc := 115) h zd_FL_detail_115 zq_ic_0 ?_
        refine zi_iadd (pc := 116) h zd_FL_detail_116 ?_
        refine zi_topv (0) (by decide) ?_
        exact zi_ireturn (pc := 117) h hr zd_FL_detail_117 (by rw [zs_flg, if_pos b83, if_pos b95, if_pos b108] <;> rfl) rfl
      · intro b108
        refine zi_iconst (pc := 111) h zd_FL_detail_111 zq_ic_4 ?_
        refine zi_goto (pc := 112) h (tgt := 116) zd_FL_detail_112 rfl ?_
        refine zi_iadd (pc := 116) h zd_FL_detail_116 ?_
        refine zi_topv (4) (by decide) ?_
        exact zi_ireturn (pc := 117) h hr zd_FL_detail_117 (by rw [zs_flg, if_pos b83, if_pos b95, if_neg b108] <;> rfl) rfl
    · intro b95
      refine zi_iconst (pc := 98) h zd_FL_detail_98 zq_ic_2 ?_
      refine zi_goto (pc := 99) h (tgt := 103) zd_FL_detail_99 rfl ?_
      refine zi_iadd (pc := 103) h zd_FL_detail_103 ?_
      refine zi_topv (2) (by decide) ?_
      refine zi_aload_n (pc := 104) h (i := 0) zd_FL_detail_104 rfl 0 rfl ?_
      refine zi_get (pc := 105) h zx_FL _ 9 (zq_fl hj) (zk_at_fl _ hj) zq_j_9_10 zw_106 rfl zd_FL_detail_105 ?_
      refine zi_if_eq (pc := 108) h (tgt := 115) zd_FL_detail_108 rfl ?_ ?_
      · intro b108
        refine zi_iconst (pc := 115) h zd_FL_detail_115 zq_ic_0 ?_
        refine zi_iadd (pc := 116) h zd_FL_detail_116 ?_
        refine zi_topv (2) (by decide) ?_
        exact zi_ireturn (pc := 117) h hr zd_FL_detail_117 (by rw [zs_flg, if_pos b83, if_neg b95, if_pos b108] <;> rfl) rfl
      · intro b108
        refine zi_iconst (pc := 111) h zd_FL_detail_111 zq_ic_4 ?_
        refine zi_goto (pc := 112) h (tgt := 116) zd_FL_detail_112 rfl ?_
        refine zi_iadd (pc := 116) h zd_FL_detail_116 ?_
        refine zi_topv (6) (by decide) ?_
        exact zi_ireturn (pc := 117) h hr zd_FL_detail_117 (by rw [zs_flg, if_pos b83, if_neg b95, if_neg b108] <;> rfl) rfl
  · intro b83
    refine zi_iconst (pc := 86) h zd_FL_detail_86 zq_ic_1 ?_
    refine zi_goto (pc := 87) h (tgt := 91) zd_FL_detail_87 rfl ?_
    refine zi_aload_n (pc := 91) h (i := 0) zd_FL_detail_91 rfl 0 rfl ?_
    refine zi_get (pc := 92) h zx_FL _ 8 (zq_fl hj) (zk_at_fl _ hj) zq_j_8_10 zw_105 rfl zd_FL_detail_92 ?_
    refine zi_if_eq (pc := 95) h (tgt := 102) zd_FL_detail_95 rfl ?_ ?_
    · intro b95
      refine zi_iconst (pc := 102) h zd_FL_detail_102 zq_ic_0 ?_
      refine zi_iadd (pc := 103) h zd_FL_detail_103 ?_
      refine zi_topv (1) (by decide) ?_
      refine zi_aload_n (pc := 104) h (i := 0) zd_FL_detail_104 rfl 0 rfl ?_
      refine zi_get (pc := 105) h zx_FL _ 9 (zq_fl hj) (zk_at_fl _ hj) zq_j_9_10 zw_106 rfl zd_FL_detail_105 ?_
      refine zi_if_eq (pc := 108) h (tgt := 115) zd_FL_detail_108 rfl ?_ ?_
      · intro b108
        refine zi_iconst (pc := 115) h zd_FL_detail_115 zq_ic_0 ?_
        refine zi_iadd (pc := 116) h zd_FL_detail_116 ?_
        refine zi_topv (1) (by decide) ?_
        exact zi_ireturn (pc := 117) h hr zd_FL_detail_117 (by rw [zs_flg, if_neg b83, if_pos b95, if_pos b108] <;> rfl) rfl
      · intro b108
        refine zi_iconst (pc := 111) h zd_FL_detail_111 zq_ic_4 ?_
        refine zi_goto (pc := 112) h (tgt := 116) zd_FL_detail_112 rfl ?_
        refine zi_iadd (pc := 116) h zd_FL_detail_116 ?_
        refine zi_topv (5) (by decide) ?_
        exact zi_ireturn (pc := 117) h hr zd_FL_detail_117 (by rw [zs_flg, if_neg b83, if_pos b95, if_neg b108] <;> rfl) rfl
    · intro b95
      refine zi_iconst (pc := 98) h zd_FL_detail_98 zq_ic_2 ?_
      refine zi_goto (pc := 99) h (tgt := 103) zd_FL_detail_99 rfl ?_
      refine zi_iadd (pc := 103) h zd_FL_detail_103 ?_
      refine zi_topv (3) (by decide) ?_
      refine zi_aload_n (pc := 104) h (i := 0) zd_FL_detail_104 rfl 0 rfl ?_
      refine zi_get (pc := 105) h zx_FL _ 9 (zq_fl hj) (zk_at_fl _ hj) zq_j_9_10 zw_106 rfl zd_FL_detail_105 ?_
      refine zi_if_eq (pc := 108) h (tgt := 115) zd_FL_detail_108 rfl ?_ ?_
      · intro b108
        refine zi_iconst (pc := 115) h zd_FL_detail_115 zq_ic_0 ?_
        refine zi_iadd (pc := 116) h zd_FL_detail_116 ?_
        refine zi_topv (3) (by decide) ?_
        exact zi_ireturn (pc := 117) h hr zd_FL_detail_117 (by rw [zs_flg, if_neg b83, if_neg b95, if_pos b108] <;> rfl) rfl
      · intro b108
        refine zi_iconst (pc := 111) h zd_FL_detail_111 zq_ic_4 ?_
        refine zi_goto (pc := 112) h (tgt := 116) zd_FL_detail_112 rfl ?_
        refine zi_iadd (pc := 116) h zd_FL_detail_116 ?_
        refine zi_topv (7) (by decide) ?_
        exact zi_ireturn (pc := 117) h hr zd_FL_detail_117 (by rw [zs_flg, if_neg b83, if_neg b95, if_neg b108] <;> rfl) rfl

set_option maxRecDepth 20000 in
theorem zc_RU_holds {l : Launch} {G : zz_G} {F : Nat → va_E} {v : Nat → Int32} {sz : Int32} {lv : Nat → Int32} {lz : Int32} {su : Nat → Int32} {pm : Nat → Nat} {cn : Int32} {fl : Nat → Nat → Int32} {ru : Nat → Nat → Int32} {j : Nat} {a : Int32} (hj : j < 4) : zz_M l zy_RU_holds zb_RU_holds 2 (some .boolean) 0 0 G [.ref (G.2.2 (22 + j)), .int a] (zz_K G F v sz lv lz su pm cn fl ru) (some (.int (zs_hld (ru j) a))) (zz_K G F v sz lv lz su pm cn fl ru) := by
  refine zz_M.of (by decide) (Nat.le_of_ble_eq_true rfl) ?_
  intro X hX h hr
  subst hX
  have h : zz_C X G (zz_A G.2.2) 2 zb_RU_holds "PortTranslator$Rule" 0 0 0 0 := h
  refine zi_aload_n (pc := 0) h (i := 0) zd_RU_holds_0 rfl 0 rfl ?_
  refine zi_get (pc := 1) h zx_RU _ 3 (zq_ru hj) (zk_at_ru _ hj) zq_j_3_5 zw_155 rfl zd_RU_holds_1 ?_
  refine zi_if_eq (pc := 4) h (tgt := 24) zd_RU_holds_4 rfl ?_ ?_
  · intro b4
    refine zi_iconst (pc := 24) h zd_RU_holds_24 zq_ic_1 ?_
    refine zi_goto (pc := 25) h (tgt := 29) zd_RU_holds_25 rfl ?_
    exact zi_zreturn (pc := 29) h hr rfl zd_RU_holds_29 (by rw [zs_hld, if_pos b4]) rfl
  · intro b4
    refine zi_iload_n (pc := 7) h (i := 1) zd_RU_holds_7 rfl 1 rfl ?_
    refine zi_aload_n (pc := 8) h (i := 0) zd_RU_holds_8 rfl 0 rfl ?_
    refine zi_get (pc := 9) h zx_RU _ 2 (zq_ru hj) (zk_at_ru _ hj) zq_j_2_5 zw_154 rfl zd_RU_holds_9 ?_
    refine zi_ixor (pc := 12) h zd_RU_holds_12 ?_
    refine zi_bipush (pc := 13) h zd_RU_holds_13 zq_bi_32 ?_
    refine zi_aload_n (pc := 15) h (i := 0) zd_RU_holds_15 rfl 0 rfl ?_
    refine zi_get (pc := 16) h zx_RU _ 3 (zq_ru hj) (zk_at_ru _ hj) zq_j_3_5 zw_155 rfl zd_RU_holds_16 ?_
    refine zi_isub (pc := 19) h zd_RU_holds_19 ?_
    refine zi_iushr (pc := 20) h zd_RU_holds_20 (show _ = zs_ush _ _ from rfl) ?_
    refine zi_if_ne (pc := 21) h (tgt := 28) zd_RU_holds_21 rfl ?_ ?_
    · intro b21
      refine zi_iconst (pc := 28) h zd_RU_holds_28 zq_ic_0 ?_
      exact zi_zreturn (pc := 29) h hr rfl zd_RU_holds_29 (by rw [zs_hld, if_neg b4, if_neg b21]) rfl
    · intro b21
      refine zi_iconst (pc := 24) h zd_RU_holds_24 zq_ic_1 ?_
      refine zi_goto (pc := 25) h (tgt := 29) zd_RU_holds_25 rfl ?_
      exact zi_zreturn (pc := 29) h hr rfl zd_RU_holds_29 (by rw [zs_hld, if_neg b4, if_pos b21]) rfl

set_option maxRecDepth 20000 in
theorem zc_RU_speaksOf {l : Launch} {G : zz_G} {F : Nat → va_E} {v : Nat → Int32} {sz : Int32} {lv : Nat → Int32} {lz : Int32} {su : Nat → Int32} {pm : Nat → Nat} {cn : Int32} {fl : Nat → Nat → Int32} {ru : Nat → Nat → Int32} {j : Nat} {k a : Int32} (hj : j < 4) : zz_M l zy_RU_speaksOf zb_RU_speaksOf 3 (some .boolean) 1 21 G [.ref (G.2.2 (22 + j)), .int k, .int a] (zz_K G F v sz lv lz su pm cn fl ru) (some (.int (zs_spk (ru j) k a))) (zz_K G F v sz lv lz su pm cn fl ru) := by
  refine zz_M.of (by decide) (Nat.le_of_ble_eq_true rfl) ?_
  intro X hX h hr
  subst hX
  have h : zz_C X G (zz_A G.2.2) 3 zb_RU_speaksOf "PortTranslator$Rule" 1 21 0 0 := h
  refine zi_aload_n (pc := 0) h (i := 0) zd_RU_speaksOf_0 rfl 0 rfl ?_
  refine zi_get (pc := 1) h zx_RU _ 0 (zq_ru hj) (zk_at_ru _ hj) zq_j_0_5 zw_150 rfl zd_RU_speaksOf_1 ?_
  refine zi_if_eq (pc := 4) h (tgt := 34) zd_RU_speaksOf_4 rfl ?_ ?_
  · intro b4
    refine zi_iconst (pc := 34) h zd_RU_speaksOf_34 zq_ic_0 ?_
    exact zi_zreturn (pc := 35) h hr rfl zd_RU_speaksOf_35 (by rw [zs_spk, if_pos b4]) rfl
  · intro b4
    refine zi_aload_n (pc := 7) h (i := 0) zd_RU_speaksOf_7 rfl 0 rfl ?_
    refine zi_get (pc := 8) h zx_RU _ 1 (zq_ru hj) (zk_at_ru _ hj) zq_j_1_5 zw_153 rfl zd_RU_speaksOf_8 ?_
    refine zi_if_eq (pc := 11) h (tgt := 22) zd_RU_speaksOf_11 rfl ?_ ?_
    · intro b11
      refine zi_aload_n (pc := 22) h (i := 0) zd_RU_speaksOf_22 rfl 0 rfl ?_
      refine zi_iload_n (pc := 23) h (i := 2) zd_RU_speaksOf_23 rfl 2 rfl ?_
      refine zi_callV (pc := 24) h (st := []) (zc_RU_holds hj) zm_RU_holds zw_321 zx_RU (zq_ru hj) (zk_at_ru _ hj) ⟨by decide, by decide⟩ zd_RU_speaksOf_24 (Nat.le_of_ble_eq_true rfl) rfl ?_
      refine zi_if_eq (pc := 27) h (tgt := 34) zd_RU_speaksOf_27 rfl ?_ ?_
      · intro b27
        refine zi_iconst (pc := 34) h zd_RU_speaksOf_34 zq_ic_0 ?_
        exact zi_zreturn (pc := 35) h hr rfl zd_RU_speaksOf_35 (by rw [zs_spk, if_neg b4, if_pos b11, if_pos b27]) rfl
      · intro b27
        refine zi_iconst (pc := 30) h zd_RU_speaksOf_30 zq_ic_1 ?_
        refine zi_goto (pc := 31) h (tgt := 35) zd_RU_speaksOf_31 rfl ?_
        exact zi_zreturn (pc := 35) h hr rfl zd_RU_speaksOf_35 (by rw [zs_spk, if_neg b4, if_pos b11, if_neg b27]) rfl
    · intro b11
      refine zi_aload_n (pc := 14) h (i := 0) zd_RU_speaksOf_14 rfl 0 rfl ?_
      refine zi_get (pc := 15) h zx_RU _ 1 (zq_ru hj) (zk_at_ru _ hj) zq_j_1_5 zw_153 rfl zd_RU_speaksOf_15 ?_
      refine zi_iload_n (pc := 18) h (i := 1) zd_RU_speaksOf_18 rfl 1 rfl ?_
      refine zi_icmp_ne (pc := 19) h (tgt := 34) zd_RU_speaksOf_19 rfl ?_ ?_
      · intro b19
        refine zi_iconst (pc := 34) h zd_RU_speaksOf_34 zq_ic_0 ?_
        exact zi_zreturn (pc := 35) h hr rfl zd_RU_speaksOf_35 (by rw [zs_spk, if_neg b4, if_neg b11, if_neg b19]) rfl
      · intro b19
        refine zi_aload_n (pc := 22) h (i := 0) zd_RU_speaksOf_22 rfl 0 rfl ?_
        refine zi_iload_n (pc := 23) h (i := 2) zd_RU_speaksOf_23 rfl 2 rfl ?_
        refine zi_callV (pc := 24) h (st := []) (zc_RU_holds hj) zm_RU_holds zw_321 zx_RU (zq_ru hj) (zk_at_ru _ hj) ⟨by decide, by decide⟩ zd_RU_speaksOf_24 (Nat.le_of_ble_eq_true rfl) rfl ?_
        refine zi_if_eq (pc := 27) h (tgt := 34) zd_RU_speaksOf_27 rfl ?_ ?_
        · intro b27
          refine zi_iconst (pc := 34) h zd_RU_speaksOf_34 zq_ic_0 ?_
          exact zi_zreturn (pc := 35) h hr rfl zd_RU_speaksOf_35 (by rw [zs_spk, if_neg b4, if_neg b11, if_pos b19, if_pos b27]) rfl
        · intro b27
          refine zi_iconst (pc := 30) h zd_RU_speaksOf_30 zq_ic_1 ?_
          refine zi_goto (pc := 31) h (tgt := 35) zd_RU_speaksOf_31 rfl ?_
          exact zi_zreturn (pc := 35) h hr rfl zd_RU_speaksOf_35 (by rw [zs_spk, if_neg b4, if_neg b11, if_pos b19, if_neg b27]) rfl

set_option maxRecDepth 20000 in
theorem zc_RU_become {l : Launch} {G : zz_G} {F : Nat → va_E} {v : Nat → Int32} {sz : Int32} {lv : Nat → Int32} {lz : Int32} {su : Nat → Int32} {pm : Nat → Nat} {cn : Int32} {fl : Nat → Nat → Int32} {ru : Nat → Nat → Int32} {j : Nat} {k w b p : Int32} (hj : j < 4) (hp : p = 0 ∨ p = 1) : zz_M l zy_RU_become zb_RU_become 5 none 0 0 G [.ref (G.2.2 (22 + j)), .int k, .int w, .int b, .int p] (zz_K G F v sz lv lz su pm cn fl ru) none (zz_K G F v sz lv lz su pm cn fl (va_up ru j (zs_bec (ru j) k w b p))) := by
  refine zz_M.of (by decide) (Nat.le_of_ble_eq_true rfl) ?_
  intro X hX h hr
  subst hX
  have h : zz_C X G (zz_A G.2.2) 5 zb_RU_become "PortTranslator$Rule" 0 0 0 0 := h
  refine zi_aload_n (pc := 0) h (i := 0) zd_RU_become_0 rfl 0 rfl ?_
  refine zi_iconst (pc := 1) h zd_RU_become_1 zq_ic_1 ?_
  refine zi_put (pc := 2) h zx_RU _ 0 (zq_ru hj) (zk_at_ru _ hj) zq_j_0_5 zw_150 rfl rfl rfl (Nat.le_of_ble_eq_true rfl) zd_RU_become_2 (zk_s_ru _ hj 0 (by decide)) ?_
  refine zi_aload_n (pc := 5) h (i := 0) zd_RU_become_5 rfl 0 rfl ?_
  refine zi_iload_n (pc := 6) h (i := 1) zd_RU_become_6 rfl 1 rfl ?_
  refine zi_put (pc := 7) h zx_RU _ 1 (zq_ru hj) (zk_at_ru1 _ hj) zq_j_1_5 zw_153 rfl rfl rfl (Nat.le_of_ble_eq_true rfl) zd_RU_become_7 (zk_s_ru1 _ hj 1 (by decide)) ?_
  refine zi_aload_n (pc := 10) h (i := 0) zd_RU_become_10 rfl 0 rfl ?_
  refine zi_iload_n (pc := 11) h (i := 2) zd_RU_become_11 rfl 2 rfl ?_
  refine zi_put (pc := 12) h zx_RU _ 2 (zq_ru hj) (zk_at_ru1 _ hj) zq_j_2_5 zw_154 rfl rfl rfl (Nat.le_of_ble_eq_true rfl) zd_RU_become_12 (zk_s_ru1 _ hj 2 (by decide)) ?_
  refine zi_aload_n (pc := 15) h (i := 0) zd_RU_become_15 rfl 0 rfl ?_
  refine zi_iload_n (pc := 16) h (i := 3) zd_RU_become_16 rfl 3 rfl ?_
  refine zi_put (pc := 17) h zx_RU _ 3 (zq_ru hj) (zk_at_ru1 _ hj) zq_j_3_5 zw_155 rfl rfl rfl (Nat.le_of_ble_eq_true rfl) zd_RU_become_17 (zk_s_ru1 _ hj 3 (by decide)) ?_
  refine zi_aload_n (pc := 20) h (i := 0) zd_RU_become_20 rfl 0 rfl ?_
  refine zi_iload (pc := 21) h (i := 4) zd_RU_become_21 4 rfl ?_
  refine zi_put (pc := 23) h zx_RU _ 4 (zq_ru hj) (zk_at_ru1 _ hj) zq_j_4_5 zw_156 rfl (zq_nb hp) (zq_fb hp) (Nat.le_of_ble_eq_true rfl) zd_RU_become_23 (zk_s_ru1 _ hj 4 (by decide)) ?_
  exact zi_vreturn (pc := 26) h hr zd_RU_become_26 rfl rfl

set_option maxRecDepth 20000 in
theorem zc_RS_isNumber {l : Launch} {G : zz_G} {F : Nat → va_E} {k : Int32} : zz_M l zy_RS_isNumber zb_RS_isNumber 1 (some .boolean) 0 0 G [.int k] F (some (.int (zs_isn k))) F := by
  refine zz_M.of (by decide) (Nat.le_of_ble_eq_true rfl) ?_
  intro X hX h hr
  subst hX
  have h : zz_C X G (zz_A G.2.2) 1 zb_RS_isNumber "PortTranslator$RuleList" 0 0 0 0 := h
  refine zi_iload_n (pc := 0) h (i := 0) zd_RS_isNumber_0 rfl 0 rfl ?_
  refine zi_if_lt (pc := 1) h (tgt := 13) zd_RS_isNumber_1 rfl ?_ ?_
  · intro b1
    refine zi_iconst (pc := 13) h zd_RS_isNumber_13 zq_ic_0 ?_
    exact zi_zreturn (pc := 14) h hr rfl zd_RS_isNumber_14 (by rw [zs_isn, if_pos b1]) rfl
  · intro b1
    refine zi_iload_n (pc := 4) h (i := 0) zd_RS_isNumber_4 rfl 0 rfl ?_
    refine zi_iconst (pc := 5) h zd_RS_isNumber_5 zq_ic_4 ?_
    refine zi_icmp_ge (pc := 6) h (tgt := 13) zd_RS_isNumber_6 rfl ?_ ?_
    · intro b6
      refine zi_iconst (pc := 13) h zd_RS_isNumber_13 zq_ic_0 ?_
      exact zi_zreturn (pc := 14) h hr rfl zd_RS_isNumber_14 (by rw [zs_isn, if_neg b1, if_pos b6]) rfl
    · intro b6
      refine zi_iconst (pc := 9) h zd_RS_isNumber_9 zq_ic_1 ?_
      refine zi_goto (pc := 10) h (tgt := 14) zd_RS_isNumber_10 rfl ?_
      exact zi_zreturn (pc := 14) h hr rfl zd_RS_isNumber_14 (by rw [zs_isn, if_neg b1, if_neg b6]) rfl

set_option maxRecDepth 20000 in
theorem zl_RS_count {X : zz_X} {r : Option Value} {F' : Nat → va_E} {G : zz_G} {F : Nat → va_E} {v : Nat → Int32} {sz : Int32} {lv : Nat → Int32} {lz : Int32} {su : Nat → Int32} {pm : Nat → Nat} {cn : Int32} {fl : Nat → Nat → Int32} {ru : Nat → Nat → Int32}  (h : zz_C X G (zz_A G.2.2) 3 zb_RS_count "PortTranslator$RuleList" 0 0 0 0) (hr : X.2.2.2.2.2.2.2.2.1.sig.returnType = (some .int)) : ∀ (n i : Nat) (acc : Int32), i + n = 4 → r = some (.int (zs_rc ru i n acc)) → (zz_K G F v sz lv lz su pm cn fl ru) = F' → zz_W X G (zz_A G.2.2) 3 0 0 (zz_E X G r F') (zz_K G F v sz lv lz su pm cn fl ru) 4 [(2, .int (nI i)), (1, .int acc), (0, .ref (G.2.2 8))] [] := by
  intro n
  induction n with
  | zero =>
    intro i acc hi he hF
    refine zi_iload_n (pc := 4) h (i := 2) zd_RS_count_4 rfl 0 rfl ?_
    refine zi_iconst (pc := 5) h zd_RS_count_5 zq_ic_4 ?_
    refine zi_icmp_ge_t (pc := 6) h (tgt := 30) zd_RS_count_6 rfl (nI_le (a := 4) (by omega) (by omega)) ?_
    refine zi_iload_n (pc := 30) h (i := 1) zd_RS_count_30 rfl 1 rfl ?_
    exact zi_ireturn (pc := 31) h hr zd_RS_count_31 he.symm hF
  | succ n ih =>
    intro i acc hi he hF
    refine zi_iload_n (pc := 4) h (i := 2) zd_RS_count_4 rfl 0 rfl ?_
    refine zi_iconst (pc := 5) h zd_RS_count_5 zq_ic_4 ?_
    refine zi_icmp_ge_f (pc := 6) h (tgt := 30) zd_RS_count_6 rfl (nI_ge (b := 4) (by omega) (by decide)) ?_
    refine zi_aload_n (pc := 9) h (i := 0) zd_RS_count_9 rfl 2 rfl ?_
    refine zi_get (pc := 10) h zx_RS 8 0 zq_k8 rfl zq_j_0_1 zw_169 rfl zd_RS_count_10 ?_
    refine zi_iload_n (pc := 13) h (i := 2) zd_RS_count_13 rfl 0 rfl ?_
    refine zi_aaldR (pc := 14) h 9 zq_k9 rfl (zz_ixN (j := i) (by omega)) rfl zd_RS_count_14 ?_
    refine zi_get (pc := 15) h zx_RU _ 0 (zq_ru (show i < 4 by omega)) (zk_at_ru _ (show i < 4 by omega)) zq_j_0_5 zw_151 rfl zd_RS_count_15 ?_
    refine zi_if_eq (pc := 18) h (tgt := 24) zd_RS_count_18 rfl ?_ ?_
    · intro b18
      refine zi_iinc (pc := 24) h (i := 2) (L' := [(2, _), (1, _), (0, _)]) zd_RS_count_24 0 rfl (zq_incN i) (by decide) rfl ?_
      refine zi_goto (pc := 27) h (tgt := 4) zd_RS_count_27 rfl ?_
      exact ih (i + 1) _ (by omega) (by rw [he, zs_rc, if_pos b18]) hF
    · intro b18
      refine zi_iinc (pc := 21) h (i := 1) (L' := [(1, _), (2, _), (0, _)]) zd_RS_count_21 1 rfl (zq_inc_1 _) (by decide) rfl ?_
      refine zi_iinc (pc := 24) h (i := 2) (L' := [(2, _), (1, _), (0, _)]) zd_RS_count_24 1 rfl (zq_incN i) (by decide) rfl ?_
      refine zi_goto (pc := 27) h (tgt := 4) zd_RS_count_27 rfl ?_
      exact ih (i + 1) _ (by omega) (by rw [he, zs_rc, if_neg b18]) hF

set_option maxRecDepth 20000 in
theorem zc_RS_count {l : Launch} {G : zz_G} {F : Nat → va_E} {v : Nat → Int32} {sz : Int32} {lv : Nat → Int32} {lz : Int32} {su : Nat → Int32} {pm : Nat → Nat} {cn : Int32} {fl : Nat → Nat → Int32} {ru : Nat → Nat → Int32} : zz_M l zy_RS_count zb_RS_count 3 (some .int) 0 0 G [.ref (G.2.2 8)] (zz_K G F v sz lv lz su pm cn fl ru) (some (.int (zs_rc ru 0 4 0))) (zz_K G F v sz lv lz su pm cn fl ru) := by
  refine zz_M.of (by decide) (Nat.le_of_ble_eq_true rfl) ?_
  intro X hX h hr
  subst hX
  have h : zz_C X G (zz_A G.2.2) 3 zb_RS_count "PortTranslator$RuleList" 0 0 0 0 := h
  refine zi_iconst (pc := 0) h zd_RS_count_0 zq_ic_0 ?_
  refine zi_istore_n (pc := 1) h (i := 1) (L' := [(1, _), (0, _)]) zd_RS_count_1 rfl (by decide) rfl ?_
  refine zi_iconst (pc := 2) h zd_RS_count_2 zq_ic_0 ?_
  refine zi_istore_n (pc := 3) h (i := 2) (L' := [(2, _), (1, _), (0, _)]) zd_RS_count_3 rfl (by decide) rfl ?_
  exact zl_RS_count h hr 4 0 0 rfl rfl rfl

set_option maxRecDepth 20000 in
theorem zl_RS_permit {X : zz_X} {r : Option Value} {F' : Nat → va_E} {G : zz_G} {F : Nat → va_E} {v : Nat → Int32} {sz : Int32} {lv : Nat → Int32} {lz : Int32} {su : Nat → Int32} {pm : Nat → Nat} {cn : Int32} {fl : Nat → Nat → Int32} {ru : Nat → Nat → Int32} {k a : Int32} (hb : ∀ i, ru i 4 = 0 ∨ ru i 4 = 1) (h : zz_C X G (zz_A G.2.2) 4 zb_RS_permit "PortTranslator$RuleList" 2 43 0 0) (hr : X.2.2.2.2.2.2.2.2.1.sig.returnType = (some .boolean)) : ∀ (n i : Nat), i + n = 4 → r = some (.int (zs_per ru k a i n)) → (zz_K G F v sz lv lz su pm cn fl ru) = F' → zz_W X G (zz_A G.2.2) 4 0 0 (zz_E X G r F') (zz_K G F v sz lv lz su pm cn fl ru) 2 [(3, .int (nI i)), (0, .ref (G.2.2 8)), (1, .int k), (2, .int a)] [] := by
  intro n
  induction n with
  | zero =>
    intro i hi he hF
    refine zi_iload_n (pc := 2) h (i := 3) zd_RS_permit_2 rfl 0 rfl ?_
    refine zi_iconst (pc := 3) h zd_RS_permit_3 zq_ic_4 ?_
    refine zi_icmp_ge_t (pc := 4) h (tgt := 37) zd_RS_permit_4 rfl (nI_le (a := 4) (by omega) (by omega)) ?_
    refine zi_iconst (pc := 37) h zd_RS_permit_37 zq_ic_1 ?_
    exact zi_zreturn (pc := 38) h hr rfl zd_RS_permit_38 he.symm hF
  | succ n ih =>
    intro i hi he hF
    refine zi_iload_n (pc := 2) h (i := 3) zd_RS_permit_2 rfl 0 rfl ?_
    refine zi_iconst (pc := 3) h zd_RS_permit_3 zq_ic_4 ?_
    refine zi_icmp_ge_f (pc := 4) h (tgt := 37) zd_RS_permit_4 rfl (nI_ge (b := 4) (by omega) (by decide)) ?_
    refine zi_aload_n (pc := 7) h (i := 0) zd_RS_permit_7 rfl 1 rfl ?_
    refine zi_get (pc := 8) h zx_RS 8 0 zq_k8 rfl zq_j_0_1 zw_169 rfl zd_RS_permit_8 ?_
    refine zi_iload_n (pc := 11) h (i := 3) zd_RS_permit_11 rfl 0 rfl ?_
    refine zi_aaldR (pc := 12) h 9 zq_k9 rfl (zz_ixN (j := i) (by omega)) rfl zd_RS_permit_12 ?_
    refine zi_iload_n (pc := 13) h (i := 1) zd_RS_permit_13 rfl 2 rfl ?_
    refine zi_iload_n (pc := 14) h (i := 2) zd_RS_permit_14 rfl 3 rfl ?_
    refine zi_callV (pc := 15) h (st := []) (zc_RU_speaksOf (j := i) (by omega)) zm_RU_speaksOf zw_317 zx_RU (zq_ru (show i < 4 by omega)) (zk_at_ru _ (show i < 4 by omega)) ⟨by decide, by decide⟩ zd_RS_permit_15 (Nat.le_of_ble_eq_true rfl) rfl ?_
    refine zi_if_eq (pc := 18) h (tgt := 31) zd_RS_permit_18 rfl ?_ ?_
    · intro b18
      refine zi_iinc (pc := 31) h (i := 3) (L' := [(3, _), (0, _), (1, _), (2, _)]) zd_RS_permit_31 0 rfl (zq_incN i) (by decide) rfl ?_
      refine zi_goto (pc := 34) h (tgt := 2) zd_RS_permit_34 rfl ?_
      exact ih (i + 1) (by omega) (by rw [he, zs_per, if_pos b18]) hF
    · intro b18
      refine zi_aload_n (pc := 21) h (i := 0) zd_RS_permit_21 rfl 1 rfl ?_
      refine zi_get (pc := 22) h zx_RS 8 0 zq_k8 rfl zq_j_0_1 zw_169 rfl zd_RS_permit_22 ?_
      refine zi_iload_n (pc := 25) h (i := 3) zd_RS_permit_25 rfl 0 rfl ?_
      refine zi_aaldR (pc := 26) h 9 zq_k9 rfl (zz_ixN (j := i) (by omega)) rfl zd_RS_permit_26 ?_
      refine zi_get (pc := 27) h zx_RU _ 4 (zq_ru (show i < 4 by omega)) (zk_at_ru _ (show i < 4 by omega)) zq_j_4_5 zw_157 rfl zd_RS_permit_27 ?_
      exact zi_zreturn (pc := 30) h hr (zq_nb (hb i)) zd_RS_permit_30 (by rw [he, zs_per, if_neg b18]) hF

set_option maxRecDepth 20000 in
theorem zc_RS_permit {l : Launch} {G : zz_G} {F : Nat → va_E} {v : Nat → Int32} {sz : Int32} {lv : Nat → Int32} {lz : Int32} {su : Nat → Int32} {pm : Nat → Nat} {cn : Int32} {fl : Nat → Nat → Int32} {ru : Nat → Nat → Int32} {k a : Int32} (hb : ∀ i, ru i 4 = 0 ∨ ru i 4 = 1) : zz_M l zy_RS_permit zb_RS_permit 4 (some .boolean) 2 43 G [.ref (G.2.2 8), .int k, .int a] (zz_K G F v sz lv lz su pm cn fl ru) (some (.int (zs_per ru k a 0 4))) (zz_K G F v sz lv lz su pm cn fl ru) := by
  refine zz_M.of (by decide) (Nat.le_of_ble_eq_true rfl) ?_
  intro X hX h hr
  subst hX
  have h : zz_C X G (zz_A G.2.2) 4 zb_RS_permit "PortTranslator$RuleList" 2 43 0 0 := h
  refine zi_iconst (pc := 0) h zd_RS_permit_0 zq_ic_0 ?_
  refine zi_istore_n (pc := 1) h (i := 3) (L' := [(3, _), (0, _), (1, _), (2, _)]) zd_RS_permit_1 rfl (by decide) rfl ?_
  exact zl_RS_permit hb h hr 4 0 rfl rfl rfl
