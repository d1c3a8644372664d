def zs_ff (M : Nat → Int32) : Nat → Nat → Option Nat
  | _, 0 => none
  | i, n + 1 => if M i = 0 then zs_ff M (i + 1) n else some i
def zs_rf (G : zz_G) (pm : Nat → Nat) (q : Option Nat) : Value := match q with
  | none => .null
  | some i => .ref (G.2.2 (10 + pm i))
def zs_mi (pm : Nat → Nat) (fl : Nat → Nat → Int32) (su : Nat → Int32) (i : Nat) : Int32 := if zs_hin (fl (pm i)) su = 0 then 0 else if zs_hou (fl (pm i)) su = 0 then 0 else 1
def zs_mo (pm : Nat → Nat) (fl : Nat → Nat → Int32) (su : Nat → Int32) (i : Nat) : Int32 := if zs_how (fl (pm i)) (su 0) (su 2) = 0 then 0 else if zs_hou (fl (pm i)) su = 0 then 0 else 1
def zs_bin (pm : Nat → Nat) (fl : Nat → Nat → Int32) (su : Nat → Int32) : Nat → Nat → Int32
  | _, 0 => -1
  | i, n + 1 => if zs_hin (fl (pm i)) su = 0 then zs_bin pm fl su (i + 1) n else fl (pm i) 5
def zs_tk (pm : Nat → Nat) (fl : Nat → Nat → Int32) (k p : Int32) : Nat → Nat → Int32
  | _, 0 => 0
  | i, n + 1 => if zs_how (fl (pm i)) k p = 0 then zs_tk pm fl k p (i + 1) n else 1
def zs_lf (pm : Nat → Nat) (fl : Nat → Nat → Int32) (c : Nat) (k : Int32) : Nat → Nat → Int32
  | _, 0 => -1
  | i, n + 1 => if zs_tk pm fl k (nI (40000 + i)) 0 c = 0 then nI (40000 + i) else zs_lf pm fl c k (i + 1) n
def zs_cop (pm : Nat → Nat) (fl : Nat → Nat → Int32) (c : Nat) (k : Int32) : Nat → Nat → Int32 → Int32
  | _, 0, acc => acc
  | i, n + 1, acc => if zs_tk pm fl k (nI (40000 + i)) 0 c = 0 then zs_cop pm fl c k (i + 1) n acc else zs_cop pm fl c k (i + 1) n (acc + 1)
def zs_shf : (Nat → Nat) → Nat → Nat → (Nat → Nat)
  | pm, _, 0 => pm
  | pm, i, n + 1 => zs_shf (va_up pm i (pm (i + 1))) (i + 1) n
/-- the rows behind the end of row i of c -/
def zs_end (pm : Nat → Nat) (i c : Nat) : Nat → Nat := va_up (zs_shf pm i (c - (i + 1))) (c - 1) (pm i)
theorem zs_shf_lt {pm : Nat → Nat} (i n : Nat) (h : ∀ i, pm i < 12) : ∀ k, zs_shf pm i n k < 12 := by
  induction n generalizing pm i with
  | zero => exact h
  | succ n ih =>
    intro k
    exact ih (i + 1) (fun q => by by_cases e : q = i; subst e; rw [zz_eq]; exact h _; rw [zz_ne e]; exact h _) k
theorem zs_end_lt {pm : Nat → Nat} {i c : Nat} (h : ∀ i, pm i < 12) : ∀ k, zs_end pm i c k < 12 := by
  intro k
  unfold zs_end
  by_cases e : k = c - 1
  · subst e; rw [zz_eq]; exact h _
  · rw [zz_ne e]; exact zs_shf_lt _ _ h k
theorem zs_shf_out {pm : Nat → Nat} (i n k : Nat) (h : k < i) : zs_shf pm i n k = pm k := by
  induction n generalizing pm i with
  | zero => rfl
  | succ n ih => exact (ih (i + 1) (by omega)).trans (zz_ne (by omega))
theorem zq_dis {G : zz_G} (hd : zz_dis G.2.2) {a b : Nat} (ha : a < 12) (hb : b < 12) (h : G.2.2 (10 + a) = G.2.2 (10 + b)) : a = b := by
  have := hd (10 + a) (10 + b) (by omega) (by omega) h
  omega
theorem zq_1s (n : Nat) : nI (n + 1) - 1 = nI n := nI_pred n
theorem zq_dec (i : Nat) : nI i + Int32.ofInt (-1) = nI i - 1 := by rw [zq_ic_m1, Int32.sub_eq_add_neg]
def zs_grw (t : Int32) : Nat → (Nat → Nat) → (Nat → Nat → Int32) → Nat → (Nat → Nat) × (Nat → Nat → Int32) × Nat
  | 0, pm, fl, c => (pm, fl, c)
  | k + 1, pm, fl, c => if zs_ovr (va_up (fl (pm k)) 6 (fl (pm k) 6 + t)) = 0 then zs_grw t k pm (va_up fl (pm k) (va_up (fl (pm k)) 6 (fl (pm k) 6 + t))) c else zs_grw t k (zs_end pm k c) (va_up fl (pm k) (va_up (fl (pm k)) 6 (fl (pm k) 6 + t))) (c - 1)

set_option maxRecDepth 20000 in
theorem zl_FT_findByInner {X : zz_X} {r : Option Value} {F' : Nat → va_E} {G : zz_G} {F : Nat → va_E} {v : Nat → Int32} {sz : Int32} {lv : Nat → Int32} {lz : Int32} {su : Nat → Int32} {pm : Nat → Nat} {fl : Nat → Nat → Int32} {ru : Nat → Nat → Int32} {c : Nat} (hpm : ∀ i, pm i < 12) (hc : c ≤ 12) (h : zz_C X G (zz_A G.2.2) 4 zb_FT_findByInner "PortTranslator$FlowTable" 1 21 0 0) (hr : X.2.2.2.2.2.2.2.2.1.sig.returnType = (some (.object "PortTranslator$Flow"))) : ∀ (n i : Nat), i + n = c → r = some (zs_rf G pm (zs_ff (zs_mi pm fl su) i n)) → (zz_K G F v sz lv lz su pm (nI c) fl ru) = F' → zz_W X G (zz_A G.2.2) 4 0 0 (zz_E X G r F') (zz_K G F v sz lv lz su pm (nI c) fl ru) 2 [(2, .int (nI i)), (0, .ref (G.2.2 6)), (1, .ref (G.2.2 5))] [] := by
  intro n
  induction n with
  | zero =>
    intro i hi he hF
    refine zi_iload_n (pc := 2) h (i := 2) zd_FT_findByInner_2 rfl 0 rfl ?_
    refine zi_aload_n (pc := 3) h (i := 0) zd_FT_findByInner_3 rfl 1 rfl ?_
    refine zi_get (pc := 4) h zx_FT 6 1 zq_k6 rfl zq_j_1_2 zw_130 rfl zd_FT_findByInner_4 ?_
    refine zi_icmp_ge_t (pc := 7) h (tgt := 41) zd_FT_findByInner_7 rfl (nI_le (by omega) (by omega)) ?_
    refine zi_aconst_null (pc := 41) h zd_FT_findByInner_41 ?_
    exact zi_areturn (pc := 42) h hr (Or.inl rfl) zd_FT_findByInner_42 he.symm hF
  | succ n ih =>
    intro i hi he hF
    refine zi_iload_n (pc := 2) h (i := 2) zd_FT_findByInner_2 rfl 0 rfl ?_
    refine zi_aload_n (pc := 3) h (i := 0) zd_FT_findByInner_3 rfl 1 rfl ?_
    refine zi_get (pc := 4) h zx_FT 6 1 zq_k6 rfl zq_j_1_2 zw_130 rfl zd_FT_findByInner_4 ?_
    refine zi_icmp_ge_f (pc := 7) h (tgt := 41) zd_FT_findByInner_7 rfl (nI_ge (by omega) (by omega)) ?_
    refine zi_aload_n (pc := 10) h (i := 0) zd_FT_findByInner_10 rfl 1 rfl ?_
    refine zi_get (pc := 11) h zx_FT 6 0 zq_k6 rfl zq_j_0_2 zw_128 rfl zd_FT_findByInner_11 ?_
    refine zi_iload_n (pc := 14) h (i := 2) zd_FT_findByInner_14 rfl 0 rfl ?_
    refine zi_aaldF (pc := 15) h 7 zq_k7 rfl (zz_ixN (j := i) (by omega)) rfl zd_FT_findByInner_15 ?_
    refine zi_astore_n (pc := 16) h (i := 3) (L' := [(3, _), (2, _), (0, _), (1, _)]) zd_FT_findByInner_16 rfl (by decide) rfl ?_
    refine zi_aload_n (pc := 17) h (i := 3) zd_FT_findByInner_17 rfl 0 rfl ?_
    refine zi_aload_n (pc := 18) h (i := 1) zd_FT_findByInner_18 rfl 3 rfl ?_
    refine zi_callV (pc := 19) h (st := []) (zc_FL_hasInner (hpm i)) zm_FL_hasInner zw_295 zx_FL (zq_fl (hpm _)) (zk_at_fl _ (hpm _)) ⟨by decide, by decide⟩ zd_FT_findByInner_19 (Nat.le_of_ble_eq_true rfl) rfl ?_
    refine zi_if_eq (pc := 22) h (tgt := 35) zd_FT_findByInner_22 rfl ?_ ?_
    · intro b22
      refine zi_iinc (pc := 35) h (i := 2) (L' := [(2, _), (3, _), (0, _), (1, _)]) zd_FT_findByInner_35 1 rfl (zq_incN i) (by decide) rfl ?_
      refine zi_goto (pc := 38) h (tgt := 2) zd_FT_findByInner_38 rfl ?_
      refine zi_sub (L' := [(2, _), (0, _), (1, _)]) [0, 2, 3] rfl ?_
      exact ih (i + 1) (by omega) (by rw [he, zs_ff, if_pos (show zs_mi pm fl su i = 0 by rw [zs_mi, if_pos b22])]) hF
    · intro b22
      refine zi_aload_n (pc := 25) h (i := 3) zd_FT_findByInner_25 rfl 0 rfl ?_
      refine zi_aload_n (pc := 26) h (i := 1) zd_FT_findByInner_26 rfl 3 rfl ?_
      refine zi_callV (pc := 27) h (st := []) (zc_FL_hasOuter (hpm i)) zm_FL_hasOuter zw_299 zx_FL (zq_fl (hpm _)) (zk_at_fl _ (hpm _)) ⟨by decide, by decide⟩ zd_FT_findByInner_27 (Nat.le_of_ble_eq_true rfl) rfl ?_
      refine zi_if_eq (pc := 30) h (tgt := 35) zd_FT_findByInner_30 rfl ?_ ?_
      · intro b30
        refine zi_iinc (pc := 35) h (i := 2) (L' := [(2, _), (3, _), (0, _), (1, _)]) zd_FT_findByInner_35 1 rfl (zq_incN i) (by decide) rfl ?_
        refine zi_goto (pc := 38) h (tgt := 2) zd_FT_findByInner_38 rfl ?_
        refine zi_sub (L' := [(2, _), (0, _), (1, _)]) [0, 2, 3] rfl ?_
        exact ih (i + 1) (by omega) (by rw [he, zs_ff, if_pos (show zs_mi pm fl su i = 0 by rw [zs_mi, if_neg b22, if_pos b30])]) hF
      · intro b30
        refine zi_aload_n (pc := 33) h (i := 3) zd_FT_findByInner_33 rfl 0 rfl ?_
        exact zi_areturn (pc := 34) h hr (Or.inr ⟨_, rfl⟩) zd_FT_findByInner_34 (by rw [he, zs_ff, if_neg (show ¬ zs_mi pm fl su i = 0 by rw [zs_mi, if_neg b22, if_neg b30]; decide)]; rfl) hF

set_option maxRecDepth 20000 in
theorem zc_FT_findByInner {l : Launch} {G : zz_G} {F : Nat → va_E} {v : Nat → Int32} {sz : Int32} {lv : Nat → Int32} {lz : Int32} {su : Nat → Int32} {pm : Nat → Nat} {fl : Nat → Nat → Int32} {ru : Nat → Nat → Int32} {c : Nat} (hpm : ∀ i, pm i < 12) (hc : c ≤ 12) : zz_M l zy_FT_findByInner zb_FT_findByInner 4 (some (.object "PortTranslator$Flow")) 1 21 G [.ref (G.2.2 6), .ref (G.2.2 5)] (zz_K G F v sz lv lz su pm (nI c) fl ru) (some (zs_rf G pm (zs_ff (zs_mi pm fl su) 0 c))) (zz_K G F v sz lv lz su pm (nI c) fl ru) := by
  refine zz_M.of (by decide) (Nat.le_of_ble_eq_true rfl) ?_
  intro X hX h hr
  subst hX
  have h : zz_C X G (zz_A G.2.2) 4 zb_FT_findByInner "PortTranslator$FlowTable" 1 21 0 0 := h
  refine zi_iconst (pc := 0) h zd_FT_findByInner_0 zq_ic_0 ?_
  refine zi_istore_n (pc := 1) h (i := 2) (L' := [(2, _), (0, _), (1, _)]) zd_FT_findByInner_1 rfl (by decide) rfl ?_
  exact zl_FT_findByInner hpm hc h hr c 0 (by omega) rfl rfl

set_option maxRecDepth 20000 in
theorem zl_FT_findByOwn {X : zz_X} {r : Option Value} {F' : Nat → va_E} {G : zz_G} {F : Nat → va_E} {v : Nat → Int32} {sz : Int32} {lv : Nat → Int32} {lz : Int32} {su : Nat → Int32} {pm : Nat → Nat} {fl : Nat → Nat → Int32} {ru : Nat → Nat → Int32} {c : Nat} (hpm : ∀ i, pm i < 12) (hc : c ≤ 12) (h : zz_C X G (zz_A G.2.2) 4 zb_FT_findByOwn "PortTranslator$FlowTable" 1 22 0 0) (hr : X.2.2.2.2.2.2.2.2.1.sig.returnType = (some (.object "PortTranslator$Flow"))) : ∀ (n i : Nat), i + n = c → r = some (zs_rf G pm (zs_ff (zs_mo pm fl su) i n)) → (zz_K G F v sz lv lz su pm (nI c) fl ru) = F' → zz_W X G (zz_A G.2.2) 4 0 0 (zz_E X G r F') (zz_K G F v sz lv lz su pm (nI c) fl ru) 2 [(2, .int (nI i)), (0, .ref (G.2.2 6)), (1, .ref (G.2.2 5))] [] := by
  intro n
  induction n with
  | zero =>
    intro i hi he hF
    refine zi_iload_n (pc := 2) h (i := 2) zd_FT_findByOwn_2 rfl 0 rfl ?_
    refine zi_aload_n (pc := 3) h (i := 0) zd_FT_findByOwn_3 rfl 1 rfl ?_
    refine zi_get (pc := 4) h zx_FT 6 1 zq_k6 rfl zq_j_1_2 zw_130 rfl zd_FT_findByOwn_4 ?_
    refine zi_icmp_ge_t (pc := 7) h (tgt := 48) zd_FT_findByOwn_7 rfl (nI_le (by omega) (by omega)) ?_
    refine zi_aconst_null (pc := 48) h zd_FT_findByOwn_48 ?_
    exact zi_areturn (pc := 49) h hr (Or.inl rfl) zd_FT_findByOwn_49 he.symm hF
  | succ n ih =>
    intro i hi he hF
    refine zi_iload_n (pc := 2) h (i := 2) zd_FT_findByOwn_2 rfl 0 rfl ?_
    refine zi_aload_n (pc := 3) h (i := 0) zd_FT_findByOwn_3 rfl 1 rfl ?_
    refine zi_get (pc := 4) h zx_FT 6 1 zq_k6 rfl zq_j_1_2 zw_130 rfl zd_FT_findByOwn_4 ?_
    refine zi_icmp_ge_f (pc := 7) h (tgt := 48) zd_FT_findByOwn_7 rfl (nI_ge (by omega) (by omega)) ?_
    refine zi_aload_n (pc := 10) h (i := 0) zd_FT_findByOwn_10 rfl 1 rfl ?_
    refine zi_get (pc := 11) h zx_FT 6 0 zq_k6 rfl zq_j_0_2 zw_128 rfl zd_FT_findByOwn_11 ?_
    refine zi_iload_n (pc := 14) h (i := 2) zd_FT_findByOwn_14 rfl 0 rfl ?_
    refine zi_aaldF (pc := 15) h 7 zq_k7 rfl (zz_ixN (j := i) (by omega)) rfl zd_FT_findByOwn_15 ?_
    refine zi_astore_n (pc := 16) h (i := 3) (L' := [(3, _), (2, _), (0, _), (1, _)]) zd_FT_findByOwn_16 rfl (by decide) rfl ?_
    refine zi_aload_n (pc := 17) h (i := 3) zd_FT_findByOwn_17 rfl 0 rfl ?_
    refine zi_aload_n (pc := 18) h (i := 1) zd_FT_findByOwn_18 rfl 3 rfl ?_
    refine zi_get (pc := 19) h zx_SU 5 0 zq_k5 rfl zq_j_0_7 zw_48 rfl zd_FT_findByOwn_19 ?_
    refine zi_aload_n (pc := 22) h (i := 1) zd_FT_findByOwn_22 rfl 3 rfl ?_
    refine zi_get (pc := 23) h zx_SU 5 2 zq_k5 rfl zq_j_2_7 zw_55 rfl zd_FT_findByOwn_23 ?_
    refine zi_callV (pc := 26) h (st := []) (zc_FL_hasOwn (hpm i)) zm_FL_hasOwn zw_343 zx_FL (zq_fl (hpm _)) (zk_at_fl _ (hpm _)) ⟨by decide, by decide⟩ zd_FT_findByOwn_26 (Nat.le_of_ble_eq_true rfl) rfl ?_
    refine zi_if_eq (pc := 29) h (tgt := 42) zd_FT_findByOwn_29 rfl ?_ ?_
    · intro b29
      refine zi_iinc (pc := 42) h (i := 2) (L' := [(2, _), (3, _), (0, _), (1, _)]) zd_FT_findByOwn_42 1 rfl (zq_incN i) (by decide) rfl ?_
      refine zi_goto (pc := 45) h (tgt := 2) zd_FT_findByOwn_45 rfl ?_
      refine zi_sub (L' := [(2, _), (0, _), (1, _)]) [0, 2, 3] rfl ?_
      exact ih (i + 1) (by omega) (by rw [he, zs_ff, if_pos (show zs_mo pm fl su i = 0 by rw [zs_mo, if_pos b29])]) hF
    · intro b29
      refine zi_aload_n (pc := 32) h (i := 3) zd_FT_findByOwn_32 rfl 0 rfl ?_
      refine zi_aload_n (pc := 33) h (i := 1) zd_FT_findByOwn_33 rfl 3 rfl ?_
      refine zi_callV (pc := 34) h (st := []) (zc_FL_hasOuter (hpm i)) zm_FL_hasOuter zw_299 zx_FL (zq_fl (hpm _)) (zk_at_fl _ (hpm _)) ⟨by decide, by decide⟩ zd_FT_findByOwn_34 (Nat.le_of_ble_eq_true rfl) rfl ?_
      refine zi_if_eq (pc := 37) h (tgt := 42) zd_FT_findByOwn_37 rfl ?_ ?_
      · intro b37
        refine zi_iinc (pc := 42) h (i := 2) (L' := [(2, _), (3, _), (0, _), (1, _)]) zd_FT_findByOwn_42 1 rfl (zq_incN i) (by decide) rfl ?_
        refine zi_goto (pc := 45) h (tgt := 2) zd_FT_findByOwn_45 rfl ?_
        refine zi_sub (L' := [(2, _), (0, _), (1, _)]) [0, 2, 3] rfl ?_
        exact ih (i + 1) (by omega) (by rw [he, zs_ff, if_pos (show zs_mo pm fl su i = 0 by rw [zs_mo, if_neg b29, if_pos b37])]) hF
      · intro b37
        refine zi_aload_n (pc := 40) h (i := 3) zd_FT_findByOwn_40 rfl 0 rfl ?_
        exact zi_areturn (pc := 41) h hr (Or.inr ⟨_, rfl⟩) zd_FT_findByOwn_41 (by rw [he, zs_ff, if_neg (show ¬ zs_mo pm fl su i = 0 by rw [zs_mo, if_neg b29, if_neg b37]; decide)]; rfl) hF

set_option maxRecDepth 20000 in
theorem zc_FT_findByOwn {l : Launch} {G : zz_G} {F : Nat → va_E} {v : Nat → Int32} {sz : Int32} {lv : Nat → Int32} {lz : Int32} {su : Nat → Int32} {pm : Nat → Nat} {fl : Nat → Nat → Int32} {ru : Nat → Nat → Int32} {c : Nat} (hpm : ∀ i, pm i < 12) (hc : c ≤ 12) : zz_M l zy_FT_findByOwn zb_FT_findByOwn 4 (some (.object "PortTranslator$Flow")) 1 22 G [.ref (G.2.2 6), .ref (G.2.2 5)] (zz_K G F v sz lv lz su pm (nI c) fl ru) (some (zs_rf G pm (zs_ff (zs_mo pm fl su) 0 c))) (zz_K G F v sz lv lz su pm (nI c) fl ru) := by
  refine zz_M.of (by decide) (Nat.le_of_ble_eq_true rfl) ?_
  intro X hX h hr
  subst hX
  have h : zz_C X G (zz_A G.2.2) 4 zb_FT_findByOwn "PortTranslator$FlowTable" 1 22 0 0 := h
  refine zi_iconst (pc := 0) h zd_FT_findByOwn_0 zq_ic_0 ?_
  refine zi_istore_n (pc := 1) h (i := 2) (L' := [(2, _), (0, _), (1, _)]) zd_FT_findByOwn_1 rfl (by decide) rfl ?_
  exact zl_FT_findByOwn hpm hc h hr c 0 (by omega) rfl rfl

set_option maxRecDepth 20000 in
theorem zl_FT_binding {X : zz_X} {r : Option Value} {F' : Nat → va_E} {G : zz_G} {F : Nat → va_E} {v : Nat → Int32} {sz : Int32} {lv : Nat → Int32} {lz : Int32} {su : Nat → Int32} {pm : Nat → Nat} {fl : Nat → Nat → Int32} {ru : Nat → Nat → Int32} {c : Nat} (hpm : ∀ i, pm i < 12) (hc : c ≤ 12) (h : zz_C X G (zz_A G.2.2) 3 zb_FT_binding "PortTranslator$FlowTable" 1 21 0 0) (hr : X.2.2.2.2.2.2.2.2.1.sig.returnType = (some .int)) : ∀ (n i : Nat), i + n = c → r = some (.int (zs_bin pm fl su i n)) → (zz_K G F v sz lv lz su pm (nI c) fl ru) = F' → zz_W X G (zz_A G.2.2) 3 0 0 (zz_E X G r F') (zz_K G F v sz lv lz su pm (nI c) fl ru) 2 [(2, .int (nI i)), (0, .ref (G.2.2 6)), (1, .ref (G.2.2 5))] [] := by
  intro n
  induction n with
  | zero =>
    intro i hi he hF
    refine zi_iload_n (pc := 2) h (i := 2) zd_FT_binding_2 rfl 0 rfl ?_
    refine zi_aload_n (pc := 3) h (i := 0) zd_FT_binding_3 rfl 1 rfl ?_
    refine zi_get (pc := 4) h zx_FT 6 1 zq_k6 rfl zq_j_1_2 zw_130 rfl zd_FT_binding_4 ?_
    refine zi_icmp_ge_t (pc := 7) h (tgt := 39) zd_FT_binding_7 rfl (nI_le (by omega) (by omega)) ?_
    refine zi_iconst (pc := 39) h zd_FT_binding_39 zq_ic_m1 ?_
    exact zi_ireturn (pc := 40) h hr zd_FT_binding_40 he.symm hF
  | succ n ih =>
    intro i hi he hF
    refine zi_iload_n (pc := 2) h (i := 2) zd_FT_binding_2 rfl 0 rfl ?_
    refine zi_aload_n (pc := 3) h (i := 0) zd_FT_binding_3 rfl 1 rfl ?_
    refine zi_get (pc := 4) h zx_FT 6 1 zq_k6 rfl zq_j_1_2 zw_130 rfl zd_FT_binding_4 ?_
    refine zi_icmp_ge_f (pc := 7) h (tgt := 39) zd_FT_binding_7 rfl (nI_ge (by omega) (by omega)) ?_
    refine zi_aload_n (pc := 10) h (i := 0) zd_FT_binding_10 rfl 1 rfl ?_
    refine zi_get (pc := 11) h zx_FT 6 0 zq_k6 rfl zq_j_0_2 zw_128 rfl zd_FT_binding_11 ?_
    refine zi_iload_n (pc := 14) h (i := 2) zd_FT_binding_14 rfl 0 rfl ?_
    refine zi_aaldF (pc := 15) h 7 zq_k7 rfl (zz_ixN (j := i) (by omega)) rfl zd_FT_binding_15 ?_
    refine zi_aload_n (pc := 16) h (i := 1) zd_FT_binding_16 rfl 2 rfl ?_
    refine zi_callV (pc := 17) h (st := []) (zc_FL_hasInner (hpm i)) zm_FL_hasInner zw_295 zx_FL (zq_fl (hpm _)) (zk_at_fl _ (hpm _)) ⟨by decide, by decide⟩ zd_FT_binding_17 (Nat.le_of_ble_eq_true rfl) rfl ?_
    refine zi_if_eq (pc := 20) h (tgt := 33) zd_FT_binding_20 rfl ?_ ?_
    · intro b20
      refine zi_iinc (pc := 33) h (i := 2) (L' := [(2, _), (0, _), (1, _)]) zd_FT_binding_33 0 rfl (zq_incN i) (by decide) rfl ?_
      refine zi_goto (pc := 36) h (tgt := 2) zd_FT_binding_36 rfl ?_
      exact ih (i + 1) (by omega) (by rw [he, zs_bin, if_pos b20]) hF
    · intro b20
      refine zi_aload_n (pc := 23) h (i := 0) zd_FT_binding_23 rfl 1 rfl ?_
      refine zi_get (pc := 24) h zx_FT 6 0 zq_k6 rfl zq_j_0_2 zw_128 rfl zd_FT_binding_24 ?_
      refine zi_iload_n (pc := 27) h (i := 2) zd_FT_binding_27 rfl 0 rfl ?_
      refine zi_aaldF (pc := 28) h 7 zq_k7 rfl (zz_ixN (j := i) (by omega)) rfl zd_FT_binding_28 ?_
      refine zi_get (pc := 29) h zx_FL _ 5 (zq_fl (hpm _)) (zk_at_fl _ (hpm _)) zq_j_5_10 zw_99 rfl zd_FT_binding_29 ?_
      exact zi_ireturn (pc := 32) h hr zd_FT_binding_32 (by rw [he, zs_bin, if_neg b20]) hF

set_option maxRecDepth 20000 in
theorem zc_FT_binding {l : Launch} {G : zz_G} {F : Nat → va_E} {v : Nat → Int32} {sz : Int32} {lv : Nat → Int32} {lz : Int32} {su : Nat → Int32} {pm : Nat → Nat} {fl : Nat → Nat → Int32} {ru : Nat → Nat → Int32} {c : Nat} (hpm : ∀ i, pm i < 12) (hc : c ≤ 12) : zz_M l zy_FT_binding zb_FT_binding 3 (some .int) 1 21 G [.ref (G.2.2 6), .ref (G.2.2 5)] (zz_K G F v sz lv lz su pm (nI c) fl ru) (some (.int (zs_bin pm fl su 0 c))) (zz_K G F v sz lv lz su pm (nI c) fl ru) := by
  refine zz_M.of (by decide) (Nat.le_of_ble_eq_true rfl) ?_
  intro X hX h hr
  subst hX
  have h : zz_C X G (zz_A G.2.2) 3 zb_FT_binding "PortTranslator$FlowTable" 1 21 0 0 := h
  refine zi_iconst (pc := 0) h zd_FT_binding_0 zq_ic_0 ?_
  refine zi_istore_n (pc := 1) h (i := 2) (L' := [(2, _), (0, _), (1, _)]) zd_FT_binding_1 rfl (by decide) rfl ?_
  exact zl_FT_binding hpm hc h hr c 0 (by omega) rfl rfl

set_option maxRecDepth 20000 in
theorem zl_FT_isTaken {X : zz_X} {r : Option Value} {F' : Nat → va_E} {G : zz_G} {F : Nat → va_E} {v : Nat → Int32} {sz : Int32} {lv : Nat → Int32} {lz : Int32} {su : Nat → Int32} {pm : Nat → Nat} {fl : Nat → Nat → Int32} {ru : Nat → Nat → Int32} {c : Nat} {k p : Int32} (hpm : ∀ i, pm i < 12) (hc : c ≤ 12) (h : zz_C X G (zz_A G.2.2) 4 zb_FT_isTaken "PortTranslator$FlowTable" 1 22 0 0) (hr : X.2.2.2.2.2.2.2.2.1.sig.returnType = (some .boolean)) : ∀ (n i : Nat), i + n = c → r = some (.int (zs_tk pm fl k p i n)) → (zz_K G F v sz lv lz su pm (nI c) fl ru) = F' → zz_W X G (zz_A G.2.2) 4 0 0 (zz_E X G r F') (zz_K G F v sz lv lz su pm (nI c) fl ru) 2 [(3, .int (nI i)), (0, .ref (G.2.2 6)), (1, .int k), (2, .int p)] [] := by
  intro n
  induction n with
  | zero =>
    intro i hi he hF
    refine zi_iload_n (pc := 2) h (i := 3) zd_FT_isTaken_2 rfl 0 rfl ?_
    refine zi_aload_n (pc := 3) h (i := 0) zd_FT_isTaken_3 rfl 1 rfl ?_
    refine zi_get (pc := 4) h zx_FT 6 1 zq_k6 rfl zq_j_1_2 zw_130 rfl zd_FT_isTaken_4 ?_
    refine zi_icmp_ge_t (pc := 7) h (tgt := 32) zd_FT_isTaken_7 rfl (nI_le (by omega) (by omega)) ?_
    refine zi_iconst (pc := 32) h zd_FT_isTaken_32 zq_ic_0 ?_
    exact zi_zreturn (pc := 33) h hr rfl zd_FT_isTaken_33 he.symm hF
  | succ n ih =>
    intro i hi he hF
    refine zi_iload_n (pc := 2) h (i := 3) zd_FT_isTaken_2 rfl 0 rfl ?_
    refine zi_aload_n (pc := 3) h (i := 0) zd_FT_isTaken_3 rfl 1 rfl ?_
    refine zi_get (pc := 4) h zx_FT 6 1 zq_k6 rfl zq_j_1_2 zw_130 rfl zd_FT_isTaken_4 ?_
    refine zi_icmp_ge_f (pc := 7) h (tgt := 32) zd_FT_isTaken_7 rfl (nI_ge (by omega) (by omega)) ?_
    refine zi_aload_n (pc := 10) h (i := 0) zd_FT_isTaken_10 rfl 1 rfl ?_
    refine zi_get (pc := 11) h zx_FT 6 0 zq_k6 rfl zq_j_0_2 zw_128 rfl zd_FT_isTaken_11 ?_
    refine zi_iload_n (pc := 14) h (i := 3) zd_FT_isTaken_14 rfl 0 rfl ?_
    refine zi_aaldF (pc := 15) h 7 zq_k7 rfl (zz_ixN (j := i) (by omega)) rfl zd_FT_isTaken_15 ?_
    refine zi_iload_n (pc := 16) h (i := 1) zd_FT_isTaken_16 rfl 2 rfl ?_
    refine zi_iload_n (pc := 17) h (i := 2) zd_FT_isTaken_17 rfl 3 rfl ?_
    refine zi_callV (pc := 18) h (st := []) (zc_FL_hasOwn (hpm i)) zm_FL_hasOwn zw_343 zx_FL (zq_fl (hpm _)) (zk_at_fl _ (hpm _)) ⟨by decide, by decide⟩ zd_FT_isTaken_18 (Nat.le_of_ble_eq_true rfl) rfl ?_
    refine zi_if_eq (pc := 21) h (tgt := 26) zd_FT_isTaken_21 rfl ?_ ?_
    · intro b21
      refine zi_iinc (pc := 26) h (i := 3) (L' := [(3, _), (0, _), (1, _), (2, _)]) zd_FT_isTaken_26 0 rfl (zq_incN i) (by decide) rfl ?_
      refine zi_goto (pc := 29) h (tgt := 2) zd_FT_isTaken_29 rfl ?_
      exact ih (i + 1) (by omega) (by rw [he, zs_tk, if_pos b21]) hF
    · intro b21
      refine zi_iconst (pc := 24) h zd_FT_isTaken_24 zq_ic_1 ?_
      exact zi_zreturn (pc := 25) h hr rfl zd_FT_isTaken_25 (by rw [he, zs_tk, if_neg b21]) hF

set_option maxRecDepth 20000 in
theorem zc_FT_isTaken {l : Launch} {G : zz_G} {F : Nat → va_E} {v : Nat → Int32} {sz : Int32} {lv : Nat → Int32} {lz : Int32} {su : Nat → Int32} {pm : Nat → Nat} {fl : Nat → Nat → Int32} {ru : Nat → Nat → Int32} {c : Nat} {k p : Int32} (hpm : ∀ i, pm i < 12) (hc : c ≤ 12) : zz_M l zy_FT_isTaken zb_FT_isTaken 4 (some .boolean) 1 22 G [.ref (G.2.2 6), .int k, .int p] (zz_K G F v sz lv lz su pm (nI c) fl ru) (some (.int (zs_tk pm fl k p 0 c))) (zz_K G F v sz lv lz su pm (nI c) fl ru) := by
  refine zz_M.of (by decide) (Nat.le_of_ble_eq_true rfl) ?_
  intro X hX h hr
  subst hX
  have h : zz_C X G (zz_A G.2.2) 4 zb_FT_isTaken "PortTranslator$FlowTable" 1 22 0 0 := h
  refine zi_iconst (pc := 0) h zd_FT_isTaken_0 zq_ic_0 ?_
  refine zi_istore_n (pc := 1) h (i := 3) (L' := [(3, _), (0, _), (1, _), (2, _)]) zd_FT_isTaken_1 rfl (by decide) rfl ?_
  exact zl_FT_isTaken hpm hc h hr c 0 (by omega) rfl rfl

set_option maxRecDepth 20000 in
theorem zl_FT_leastFreePort {X : zz_X} {r : Option Value} {F' : Nat → va_E} {G : zz_G} {F : Nat → va_E} {v : Nat → Int32} {sz : Int32} {lv : Nat → Int32} {lz : Int32} {su : Nat → Int32} {pm : Nat → Nat} {fl : Nat → Nat → Int32} {ru : Nat → Nat → Int32} {c : Nat} {k : Int32} (hpm : ∀ i, pm i < 12) (hc : c ≤ 12) (h : zz_C X G (zz_A G.2.2) 3 zb_FT_leastFreePort "PortTranslator$FlowTable" 2 45 0 0) (hr : X.2.2.2.2.2.2.2.2.1.sig.returnType = (some .int)) : ∀ (n i : Nat), i + n = 6 → r = some (.int (zs_lf pm fl c k i n)) → (zz_K G F v sz lv lz su pm (nI c) fl ru) = F' → zz_W X G (zz_A G.2.2) 3 0 0 (zz_E X G r F') (zz_K G F v sz lv lz su pm (nI c) fl ru) 3 [(2, .int (nI (40000 + i))), (0, .ref (G.2.2 6)), (1, .int k)] [] := by
  intro n
  induction n with
  | zero =>
    intro i hi he hF
    refine zi_iload_n (pc := 3) h (i := 2) zd_FT_leastFreePort_3 rfl 0 rfl ?_
    refine zi_ldc (pc := 4) h zw_338 zd_FT_leastFreePort_4 ?_
    refine zi_icmp_gt_t (pc := 6) h (tgt := 26) zd_FT_leastFreePort_6 rfl (nI_lt (a := 40005) (by omega) (by omega)) ?_
    refine zi_iconst (pc := 26) h zd_FT_leastFreePort_26 zq_ic_m1 ?_
    exact zi_ireturn (pc := 27) h hr zd_FT_leastFreePort_27 he.symm hF
  | succ n ih =>
    intro i hi he hF
    refine zi_iload_n (pc := 3) h (i := 2) zd_FT_leastFreePort_3 rfl 0 rfl ?_
    refine zi_ldc (pc := 4) h zw_338 zd_FT_leastFreePort_4 ?_
    refine zi_icmp_gt_f (pc := 6) h (tgt := 26) zd_FT_leastFreePort_6 rfl (nI_nlt (b := 40000 + i) (a := 40005) (by omega) (by omega)) ?_
    refine zi_aload_n (pc := 9) h (i := 0) zd_FT_leastFreePort_9 rfl 1 rfl ?_
    refine zi_iload_n (pc := 10) h (i := 1) zd_FT_leastFreePort_10 rfl 2 rfl ?_
    refine zi_iload_n (pc := 11) h (i := 2) zd_FT_leastFreePort_11 rfl 0 rfl ?_
    refine zi_callV (pc := 12) h (st := []) (zc_FT_isTaken hpm hc) zm_FT_isTaken zw_339 zx_FT zq_k6 rfl ⟨by decide, by decide⟩ zd_FT_leastFreePort_12 (Nat.le_of_ble_eq_true rfl) rfl ?_
    refine zi_if_ne (pc := 15) h (tgt := 20) zd_FT_leastFreePort_15 rfl ?_ ?_
    · intro b15
      refine zi_iinc (pc := 20) h (i := 2) (L' := [(2, _), (0, _), (1, _)]) zd_FT_leastFreePort_20 0 rfl (zq_incN (40000 + i)) (by decide) rfl ?_
      refine zi_goto (pc := 23) h (tgt := 3) zd_FT_leastFreePort_23 rfl ?_
      exact ih (i + 1) (by omega) (by rw [he, zs_lf, if_neg b15]) hF
    · intro b15
      refine zi_iload_n (pc := 18) h (i := 2) zd_FT_leastFreePort_18 rfl 0 rfl ?_
      exact zi_ireturn (pc := 19) h hr zd_FT_leastFreePort_19 (by rw [he, zs_lf, if_pos b15]) hF

set_option maxRecDepth 20000 in
theorem zc_FT_leastFreePort {l : Launch} {G : zz_G} {F : Nat → va_E} {v : Nat → Int32} {sz : Int32} {lv : Nat → Int32} {lz : Int32} {su : Nat → Int32} {pm : Nat → Nat} {fl : Nat → Nat → Int32} {ru : Nat → Nat → Int32} {c : Nat} {k : Int32} (hpm : ∀ i, pm i < 12) (hc : c ≤ 12) : zz_M l zy_FT_leastFreePort zb_FT_leastFreePort 3 (some .int) 2 45 G [.ref (G.2.2 6), .int k] (zz_K G F v sz lv lz su pm (nI c) fl ru) (some (.int (zs_lf pm fl c k 0 6))) (zz_K G F v sz lv lz su pm (nI c) fl ru) := by
  refine zz_M.of (by decide) (Nat.le_of_ble_eq_true rfl) ?_
  intro X hX h hr
  subst hX
  have h : zz_C X G (zz_A G.2.2) 3 zb_FT_leastFreePort "PortTranslator$FlowTable" 2 45 0 0 := h
  refine zi_ldc (pc := 0) h zw_337 zd_FT_leastFreePort_0 ?_
  refine zi_istore_n (pc := 2) h (i := 2) (L' := [(2, _), (0, _), (1, _)]) zd_FT_leastFreePort_2 rfl (by decide) rfl ?_
  exact zl_FT_leastFreePort hpm hc h hr 6 0 rfl rfl rfl

set_option maxRecDepth 20000 in
theorem zl_FT_countOwnPorts {X : zz_X} {r : Option Value} {F' : Nat → va_E} {G : zz_G} {F : Nat → va_E} {v : Nat → Int32} {sz : Int32} {lv : Nat → Int32} {lz : Int32} {su : Nat → Int32} {pm : Nat → Nat} {fl : Nat → Nat → Int32} {ru : Nat → Nat → Int32} {c : Nat} {k : Int32} (hpm : ∀ i, pm i < 12) (hc : c ≤ 12) (h : zz_C X G (zz_A G.2.2) 4 zb_FT_countOwnPorts "PortTranslator$FlowTable" 2 45 0 0) (hr : X.2.2.2.2.2.2.2.2.1.sig.returnType = (some .int)) : ∀ (n i : Nat) (acc : Int32), i + n = 6 → r = some (.int (zs_cop pm fl c k i n acc)) → (zz_K G F v sz lv lz su pm (nI c) fl ru) = F' → zz_W X G (zz_A G.2.2) 4 0 0 (zz_E X G r F') (zz_K G F v sz lv lz su pm (nI c) fl ru) 5 [(3, .int (nI (40000 + i))), (2, .int acc), (0, .ref (G.2.2 6)), (1, .int k)] [] := by
  intro n
  induction n with
  | zero =>
    intro i acc hi he hF
    refine zi_iload_n (pc := 5) h (i := 3) zd_FT_countOwnPorts_5 rfl 0 rfl ?_
    refine zi_ldc (pc := 6) h zw_338 zd_FT_countOwnPorts_6 ?_
    refine zi_icmp_gt_t (pc := 8) h (tgt := 29) zd_FT_countOwnPorts_8 rfl (nI_lt (a := 40005) (by omega) (by omega)) ?_
    refine zi_iload_n (pc := 29) h (i := 2) zd_FT_countOwnPorts_29 rfl 1 rfl ?_
    exact zi_ireturn (pc := 30) h hr zd_FT_countOwnPorts_30 he.symm hF
  | succ n ih =>
    intro i acc hi he hF
    refine zi_iload_n (pc := 5) h (i := 3) zd_FT_countOwnPorts_5 rfl 0 rfl ?_
    refine zi_ldc (pc := 6) h zw_338 zd_FT_countOwnPorts_6 ?_
    refine zi_icmp_gt_f (pc := 8) h (tgt := 29) zd_FT_countOwnPorts_8 rfl (nI_nlt (b := 40000 + i) (a := 40005) (by omega) (by omega)) ?_
    refine zi_aload_n (pc := 11) h (i := 0) zd_FT_countOwnPorts_11 rfl 2 rfl ?_
    refine zi_iload_n (pc := 12) h (i := 1) zd_FT_countOwnPorts_12 rfl 3 rfl ?_
    refine zi_iload_n (pc := 13) h (i := 3) zd_FT_countOwnPorts_13 rfl 0 rfl ?_
    refine zi_callV (pc := 14) h (st := []) (zc_FT_isTaken hpm hc) zm_FT_isTaken zw_339 zx_FT zq_k6 rfl ⟨by decide, by decide⟩ zd_FT_countOwnPorts_14 (Nat.le_of_ble_eq_true rfl) rfl ?_
    refine zi_if_eq (pc := 17) h (tgt := 23) zd_FT_countOwnPorts_17 rfl ?_ ?_
    · intro b17
      refine zi_iinc (pc := 23) h (i := 3) (L' := [(3, _), (2, _), (0, _), (1, _)]) zd_FT_countOwnPorts_23 0 rfl (zq_incN (40000 + i)) (by decide) rfl ?_
      refine zi_goto (pc := 26) h (tgt := 5) zd_FT_countOwnPorts_26 rfl ?_
      exact ih (i + 1) _ (by omega) (by rw [he, zs_cop, if_pos b17]) hF
    · intro b17
      refine zi_iinc (pc := 20) h (i := 2) (L' := [(2, _), (3, _), (0, _), (1, _)]) zd_FT_countOwnPorts_20 1 rfl (zq_inc_1 _) (by decide) rfl ?_
      refine zi_iinc (pc := 23) h (i := 3) (L' := [(3, _), (2, _), (0, _), (1, _)]) zd_FT_countOwnPorts_23 1 rfl (zq_incN (40000 + i)) (by decide) rfl ?_
      refine zi_goto (pc := 26) h (tgt := 5) zd_FT_countOwnPorts_26 rfl ?_
      exact ih (i + 1) _ (by omega) (by rw [he, zs_cop, if_neg b17]) hF

set_option maxRecDepth 20000 in
theorem zc_FT_countOwnPorts {l : Launch} {G : zz_G} {F : Nat → va_E} {v : Nat → Int32} {sz : Int32} {lv : Nat → Int32} {lz : Int32} {su : Nat → Int32} {pm : Nat → Nat} {fl : Nat → Nat → Int32} {ru : Nat → Nat → Int32} {c : Nat} {k : Int32} (hpm : ∀ i, pm i < 12) (hc : c ≤ 12) : zz_M l zy_FT_countOwnPorts zb_FT_countOwnPorts 4 (some .int) 2 45 G [.ref (G.2.2 6), .int k] (zz_K G F v sz lv lz su pm (nI c) fl ru) (some (.int (zs_cop pm fl c k 0 6 0))) (zz_K G F v sz lv lz su pm (nI c) fl ru) := by
  refine zz_M.of (by decide) (Nat.le_of_ble_eq_true rfl) ?_
  intro X hX h hr
  subst hX
  have h : zz_C X G (zz_A G.2.2) 4 zb_FT_countOwnPorts "PortTranslator$FlowTable" 2 45 0 0 := h
  refine zi_iconst (pc := 0) h zd_FT_countOwnPorts_0 zq_ic_0 ?_
  refine zi_istore_n (pc := 1) h (i := 2) (L' := [(2, _), (0, _), (1, _)]) zd_FT_countOwnPorts_1 rfl (by decide) rfl ?_
  refine zi_ldc (pc := 2) h zw_337 zd_FT_countOwnPorts_2 ?_
  refine zi_istore_n (pc := 4) h (i := 3) (L' := [(3, _), (2, _), (0, _), (1, _)]) zd_FT_countOwnPorts_4 rfl (by decide) rfl ?_
  exact zl_FT_countOwnPorts hpm hc h hr 6 0 0 rfl rfl rfl

set_option maxRecDepth 20000 in
theorem zc_FT_begin_full {l : Launch} {G : zz_G} {F : Nat → va_E} {v : Nat → Int32} {sz : Int32} {lv : Nat → Int32} {lz : Int32} {su : Nat → Int32} {pm : Nat → Nat} {fl : Nat → Nat → Int32} {ru : Nat → Nat → Int32} : zz_M l zy_FT_begin zb_FT_begin 4 (some (.object "PortTranslator$Flow")) 3 67 G [.ref (G.2.2 6), .ref (G.2.2 5)] (zz_K G F v sz lv lz su pm 12 fl ru) (some .null) (zz_K G F v sz lv lz su pm 12 fl ru) := by
  refine zz_M.of (by decide) (Nat.le_of_ble_eq_true rfl) ?_
  intro X hX h hr
  subst hX
  have h : zz_C X G (zz_A G.2.2) 4 zb_FT_begin "PortTranslator$FlowTable" 3 67 0 0 := h
  refine zi_aload_n (pc := 0) h (i := 0) zd_FT_begin_0 rfl 0 rfl ?_
  refine zi_get (pc := 1) h zx_FT 6 1 zq_k6 rfl zq_j_1_2 zw_130 rfl zd_FT_begin_1 ?_
  refine zi_bipush (pc := 4) h zd_FT_begin_4 zq_bi_12 ?_
  refine zi_icmp_lt_f (pc := 6) h (tgt := 11) zd_FT_begin_6 rfl (by decide) ?_
  refine zi_aconst_null (pc := 9) h zd_FT_begin_9 ?_
  exact zi_areturn (pc := 10) h hr (Or.inl rfl) zd_FT_begin_10 rfl rfl

set_option maxRecDepth 20000 in
theorem zc_FT_begin_bound {l : Launch} {G : zz_G} {F : Nat → va_E} {v : Nat → Int32} {sz : Int32} {lv : Nat → Int32} {lz : Int32} {su : Nat → Int32} {pm : Nat → Nat} {fl : Nat → Nat → Int32} {ru : Nat → Nat → Int32} {c : Nat} (hpm : ∀ i, pm i < 12) (hc : c < 12) (hb : ¬ zs_bin pm fl su 0 c = -1) : zz_M l zy_FT_begin zb_FT_begin 4 (some (.object "PortTranslator$Flow")) 3 67 G [.ref (G.2.2 6), .ref (G.2.2 5)] (zz_K G F v sz lv lz su pm (nI c) fl ru) (some (.ref (G.2.2 (10 + pm c)))) (zz_K G F v sz lv lz su pm (nI (c + 1)) (va_up fl (pm c) (zs_sta (fl (pm c)) su (zs_bin pm fl su 0 c))) ru) := by
  refine zz_M.of (by decide) (Nat.le_of_ble_eq_true rfl) ?_
  intro X hX h hr
  subst hX
  have h : zz_C X G (zz_A G.2.2) 4 zb_FT_begin "PortTranslator$FlowTable" 3 67 0 0 := h
  refine zi_aload_n (pc := 0) h (i := 0) zd_FT_begin_0 rfl 0 rfl ?_
  refine zi_get (pc := 1) h zx_FT 6 1 zq_k6 rfl zq_j_1_2 zw_130 rfl zd_FT_begin_1 ?_
  refine zi_bipush (pc := 4) h zd_FT_begin_4 zq_bi_12 ?_
  refine zi_icmp_lt_t (pc := 6) h (tgt := 11) zd_FT_begin_6 rfl (nI_lt (b := 12) hc (by decide)) ?_
  refine zi_aload_n (pc := 11) h (i := 0) zd_FT_begin_11 rfl 0 rfl ?_
  refine zi_aload_n (pc := 12) h (i := 1) zd_FT_begin_12 rfl 1 rfl ?_
  refine zi_callV (pc := 13) h (st := []) (zc_FT_binding hpm (Nat.le_of_lt hc)) zm_FT_binding zw_329 zx_FT zq_k6 rfl ⟨by decide, by decide⟩ zd_FT_begin_13 (Nat.le_of_ble_eq_true rfl) rfl ?_
  refine zi_istore_n (pc := 16) h (i := 2) (L' := [(2, _), (0, _), (1, _)]) zd_FT_begin_16 rfl (by decide) rfl ?_
  refine zi_iload_n (pc := 17) h (i := 2) zd_FT_begin_17 rfl 0 rfl ?_
  refine zi_iconst (pc := 18) h zd_FT_begin_18 zq_ic_m1 ?_
  refine zi_icmp_ne_t (pc := 19) h (tgt := 31) zd_FT_begin_19 rfl hb ?_
  refine zi_iload_n (pc := 31) h (i := 2) zd_FT_begin_31 rfl 0 rfl ?_
  refine zi_iconst (pc := 32) h zd_FT_begin_32 zq_ic_m1 ?_
  refine zi_icmp_ne_t (pc := 33) h (tgt := 38) zd_FT_begin_33 rfl hb ?_
  refine zi_aload_n (pc := 38) h (i := 0) zd_FT_begin_38 rfl 1 rfl ?_
  refine zi_get (pc := 39) h zx_FT 6 0 zq_k6 rfl zq_j_0_2 zw_128 rfl zd_FT_begin_39 ?_
  refine zi_aload_n (pc := 42) h (i := 0) zd_FT_begin_42 rfl 1 rfl ?_
  refine zi_get (pc := 43) h zx_FT 6 1 zq_k6 rfl zq_j_1_2 zw_130 rfl zd_FT_begin_43 ?_
  refine zi_aaldF (pc := 46) h 7 zq_k7 rfl (zz_ixN (j := c) hc) rfl zd_FT_begin_46 ?_
  refine zi_astore_n (pc := 47) h (i := 3) (L' := [(3, _), (2, _), (0, _), (1, _)]) zd_FT_begin_47 rfl (by decide) rfl ?_
  refine zi_aload_n (pc := 48) h (i := 3) zd_FT_begin_48 rfl 0 rfl ?_
  refine zi_aload_n (pc := 49) h (i := 1) zd_FT_begin_49 rfl 3 rfl ?_
  refine zi_iload_n (pc := 50) h (i := 2) zd_FT_begin_50 rfl 1 rfl ?_
  refine zi_callVv (pc := 51) h (st := []) (zc_FL_start (hpm c)) zm_FL_start zw_347 zx_FL (zq_fl (hpm _)) (zk_at_fl _ (hpm _)) ⟨by decide, by decide⟩ zd_FT_begin_51 (Nat.le_of_ble_eq_true rfl) rfl ?_
  refine zi_aload_n (pc := 54) h (i := 0) zd_FT_begin_54 rfl 2 rfl ?_
  refine zi_dup (pc := 55) h zd_FT_begin_55 rfl ?_
  refine zi_get (pc := 56) h zx_FT 6 1 zq_k6 rfl zq_j_1_2 zw_130 rfl zd_FT_begin_56 ?_
  refine zi_iconst (pc := 59) h zd_FT_begin_59 zq_ic_1 ?_
  refine zi_iadd (pc := 60) h zd_FT_begin_60 ?_
  refine zi_topv (nI (c + 1)) (nI_1 c) ?_
  refine zi_put (pc := 61) h zx_FT 6 1 zq_k6 rfl zq_j_1_2 zw_130 rfl rfl rfl (Nat.le_of_ble_eq_true rfl) zd_FT_begin_61 zk_u_cn ?_
  refine zi_aload_n (pc := 64) h (i := 3) zd_FT_begin_64 rfl 0 rfl ?_
  exact zi_areturn (pc := 65) h hr (Or.inr ⟨_, rfl⟩) zd_FT_begin_65 rfl rfl

set_option maxRecDepth 20000 in
theorem zc_FT_begin_none {l : Launch} {G : zz_G} {F : Nat → va_E} {v : Nat → Int32} {sz : Int32} {lv : Nat → Int32} {lz : Int32} {su : Nat → Int32} {pm : Nat → Nat} {fl : Nat → Nat → Int32} {ru : Nat → Nat → Int32} {c : Nat} (hpm : ∀ i, pm i < 12) (hc : c < 12) (hb : zs_bin pm fl su 0 c = -1) (hl : zs_lf pm fl c (su 0) 0 6 = -1) : zz_M l zy_FT_begin zb_FT_begin 4 (some (.object "PortTranslator$Flow")) 3 67 G [.ref (G.2.2 6), .ref (G.2.2 5)] (zz_K G F v sz lv lz su pm (nI c) fl ru) (some .null) (zz_K G F v sz lv lz su pm (nI c) fl ru) := by
  refine zz_M.of (by decide) (Nat.le_of_ble_eq_true rfl) ?_
  intro X hX h hr
  subst hX
  have h : zz_C X G (zz_A G.2.2) 4 zb_FT_begin "PortTranslator$FlowTable" 3 67 0 0 := h
  refine zi_aload_n (pc := 0) h (i := 0) zd_FT_begin_0 rfl 0 rfl ?_
  refine zi_get (pc := 1) h zx_FT 6 1 zq_k6 rfl zq_j_1_2 zw_130 rfl zd_FT_begin_1 ?_
  refine zi_bipush (pc := 4) h zd_FT_begin_4 zq_bi_12 ?_
  refine zi_icmp_lt_t (pc := 6) h (tgt := 11) zd_FT_begin_6 rfl (nI_lt (b := 12) hc (by decide)) ?_
  refine zi_aload_n (pc := 11) h (i := 0) zd_FT_begin_11 rfl 0 rfl ?_
  refine zi_aload_n (pc := 12) h (i := 1) zd_FT_begin_12 rfl 1 rfl ?_
  refine zi_callV (pc := 13) h (st := []) (zc_FT_binding hpm (Nat.le_of_lt hc)) zm_FT_binding zw_329 zx_FT zq_k6 rfl ⟨by decide, by decide⟩ zd_FT_begin_13 (Nat.le_of_ble_eq_true rfl) rfl ?_
  refine zi_istore_n (pc := 16) h (i := 2) (L' := [(2, _), (0, _), (1, _)]) zd_FT_begin_16 rfl (by decide) rfl ?_
  refine zi_iload_n (pc := 17) h (i := 2) zd_FT_begin_17 rfl 0 rfl ?_
  refine zi_iconst (pc := 18) h zd_FT_begin_18 zq_ic_m1 ?_
  refine zi_icmp_ne_f (pc := 19) h (tgt := 31) zd_FT_begin_19 rfl hb ?_
  refine zi_aload_n (pc := 22) h (i := 0) zd_FT_begin_22 rfl 1 rfl ?_
  refine zi_aload_n (pc := 23) h (i := 1) zd_FT_begin_23 rfl 2 rfl ?_
  refine zi_get (pc := 24) h zx_SU 5 0 zq_k5 rfl zq_j_0_7 zw_48 rfl zd_FT_begin_24 ?_
  refine zi_callV (pc := 27) h (st := []) (zc_FT_leastFreePort hpm (Nat.le_of_lt hc)) zm_FT_leastFreePort zw_333 zx_FT zq_k6 rfl ⟨by decide, by decide⟩ zd_FT_begin_27 (Nat.le_of_ble_eq_true rfl) rfl ?_
  refine zi_istore_n (pc := 30) h (i := 2) (L' := [(2, _), (0, _), (1, _)]) zd_FT_begin_30 rfl (by decide) rfl ?_
  refine zi_iload_n (pc := 31) h (i := 2) zd_FT_begin_31 rfl 0 rfl ?_
  refine zi_iconst (pc := 32) h zd_FT_begin_32 zq_ic_m1 ?_
  refine zi_icmp_ne_f (pc := 33) h (tgt := 38) zd_FT_begin_33 rfl hl ?_
  refine zi_aconst_null (pc := 36) h zd_FT_begin_36 ?_
  exact zi_areturn (pc := 37) h hr (Or.inl rfl) zd_FT_begin_37 rfl rfl

set_option maxRecDepth 20000 in
theorem zc_FT_begin_free {l : Launch} {G : zz_G} {F : Nat → va_E} {v : Nat → Int32} {sz : Int32} {lv : Nat → Int32} {lz : Int32} {su : Nat → Int32} {pm : Nat → Nat} {fl : Nat → Nat → Int32} {ru : Nat → Nat → Int32} {c : Nat} (hpm : ∀ i, pm i < 12) (hc : c < 12) (hb : zs_bin pm fl su 0 c = -1) (hl : ¬ zs_lf pm fl c (su 0) 0 6 = -1) : zz_M l zy_FT_begin zb_FT_begin 4 (some (.object "PortTranslator$Flow")) 3 67 G [.ref (G.2.2 6), .ref (G.2.2 5)] (zz_K G F v sz lv lz su pm (nI c) fl ru) (some (.ref (G.2.2 (10 + pm c)))) (zz_K G F v sz lv lz su pm (nI (c + 1)) (va_up fl (pm c) (zs_sta (fl (pm c)) su (zs_lf pm fl c (su 0) 0 6))) ru) := by
  refine zz_M.of (by decide) (Nat.le_of_ble_eq_true rfl) ?_
  intro X hX h hr
  subst hX
  have h : zz_C X G (zz_A G.2.2) 4 zb_FT_begin "PortTranslator$FlowTable" 3 67 0 0 := h
  refine zi_aload_n (pc := 0) h (i := 0) zd_FT_begin_0 rfl 0 rfl ?_
  refine zi_get (pc := 1) h zx_FT 6 1 zq_k6 rfl zq_j_1_2 zw_130 rfl zd_FT_begin_1 ?_
  refine zi_bipush (pc := 4) h zd_FT_begin_4 zq_bi_12 ?_
  refine zi_icmp_lt_t (pc := 6) h (tgt := 11) zd_FT_begin_6 rfl (nI_lt (b := 12) hc (by decide)) ?_
  refine zi_aload_n (pc := 11) h (i := 0) zd_FT_begin_11 rfl 0 rfl ?_
  refine zi_aload_n (pc := 12) h (i := 1) zd_FT_begin_12 rfl 1 rfl ?_
  refine zi_callV (pc := 13) h (st := []) (zc_FT_binding hpm (Nat.le_of_lt hc)) zm_FT_binding zw_329 zx_FT zq_k6 rfl ⟨by decide, by decide⟩ zd_FT_begin_13 (Nat.le_of_ble_eq_true rfl) rfl ?_
  refine zi_istore_n (pc := 16) h (i := 2) (L' := [(2, _), (0, _), (1, _)]) zd_FT_begin_16 rfl (by decide) rfl ?_
  refine zi_iload_n (pc := 17) h (i := 2) zd_FT_begin_17 rfl 0 rfl ?_
  refine zi_iconst (pc := 18) h zd_FT_begin_18 zq_ic_m1 ?_
  refine zi_icmp_ne_f (pc := 19) h (tgt := 31) zd_FT_begin_19 rfl hb ?_
  refine zi_aload_n (pc := 22) h (i := 0) zd_FT_begin_22 rfl 1 rfl ?_
  refine zi_aload_n (pc := 23) h (i := 1) zd_FT_begin_23 rfl 2 rfl ?_
  refine zi_get (pc := 24) h zx_SU 5 0 zq_k5 rfl zq_j_0_7 zw_48 rfl zd_FT_begin_24 ?_
  refine zi_callV (pc := 27) h (st := []) (zc_FT_leastFreePort hpm (Nat.le_of_lt hc)) zm_FT_leastFreePort zw_333 zx_FT zq_k6 rfl ⟨by decide, by decide⟩ zd_FT_begin_27 (Nat.le_of_ble_eq_true rfl) rfl ?_
  refine zi_istore_n (pc := 30) h (i := 2) (L' := [(2, _), (0, _), (1, _)]) zd_FT_begin_30 rfl (by decide) rfl ?_
  refine zi_iload_n (pc := 31) h (i := 2) zd_FT_begin_31 rfl 0 rfl ?_
  refine zi_iconst (pc := 32) h zd_FT_begin_32 zq_ic_m1 ?_
  refine zi_icmp_ne_t (pc := 33) h (tgt := 38) zd_FT_begin_33 rfl hl ?_
  refine zi_aload_n (pc := 38) h (i := 0) zd_FT_begin_38 rfl 1 rfl ?_
  refine zi_get (pc := 39) h zx_FT 6 0 zq_k6 rfl zq_j_0_2 zw_128 rfl zd_FT_begin_39 ?_
  refine zi_aload_n (pc := 42) h (i := 0) zd_FT_begin_42 rfl 1 rfl ?_
  refine zi_get (pc := 43) h zx_FT 6 1 zq_k6 rfl zq_j_1_2 zw_130 rfl zd_FT_begin_43 ?_
  refine zi_aaldF (pc := 46) h 7 zq_k7 rfl (zz_ixN (j := c) hc) rfl zd_FT_begin_46 ?_
  refine zi_astore_n (pc := 47) h (i := 3) (L' := [(3, _), (2, _), (0, _), (1, _)]) zd_FT_begin_47 rfl (by decide) rfl ?_
  refine zi_aload_n (pc := 48) h (i := 3) zd_FT_begin_48 rfl 0 rfl ?_
  refine zi_aload_n (pc := 49) h (i := 1) zd_FT_begin_49 rfl 3 rfl ?_
  refine zi_iload_n (pc := 50) h (i := 2) zd_FT_begin_50 rfl 1 rfl ?_
  refine zi_callVv (pc := 51) h (st := []) (zc_FL_start (hpm c)) zm_FL_start zw_347 zx_FL (zq_fl (hpm _)) (zk_at_fl _ (hpm _)) ⟨by decide, by decide⟩ zd_FT_begin_51 (Nat.le_of_ble_eq_true rfl) rfl ?_
  refine zi_aload_n (pc := 54) h (i := 0) zd_FT_begin_54 rfl 2 rfl ?_
  refine zi_dup (pc := 55) h zd_FT_begin_55 rfl ?_
  refine zi_get (pc := 56) h zx_FT 6 1 zq_k6 rfl zq_j_1_2 zw_130 rfl zd_FT_begin_56 ?_
  refine zi_iconst (pc := 59) h zd_FT_begin_59 zq_ic_1 ?_
  refine zi_iadd (pc := 60) h zd_FT_begin_60 ?_
  refine zi_topv (nI (c + 1)) (nI_1 c) ?_
  refine zi_put (pc := 61) h zx_FT 6 1 zq_k6 rfl zq_j_1_2 zw_130 rfl rfl rfl (Nat.le_of_ble_eq_true rfl) zd_FT_begin_61 zk_u_cn ?_
  refine zi_aload_n (pc := 64) h (i := 3) zd_FT_begin_64 rfl 0 rfl ?_
  exact zi_areturn (pc := 65) h hr (Or.inr ⟨_, rfl⟩) zd_FT_begin_65 rfl rfl

set_option maxRecDepth 20000 in
theorem zl_FT_endAt {X : zz_X} {r : Option Value} {F' : Nat → va_E} {G : zz_G} {F : Nat → va_E} {v : Nat → Int32} {sz : Int32} {lv : Nat → Int32} {lz : Int32} {su : Nat → Int32} {fl : Nat → Nat → Int32} {ru : Nat → Nat → Int32} {c j : Nat} {y : Int32} (hc : c ≤ 12) (hc0 : 0 < c) (hj : j < 12) (h : zz_C X G (zz_A G.2.2) 4 zb_FT_endAt "PortTranslator$FlowTable" 0 0 0 0) (hr : X.2.2.2.2.2.2.2.2.1.sig.returnType = none) : ∀ (n i : Nat) (pm : Nat → Nat), (∀ i, pm i < 12) → i + 1 + n = c → r = none → (zz_K G F v sz lv lz su (va_up (zs_shf pm i n) (c - 1) j) (nI (c - 1)) fl ru) = F' → zz_W X G (zz_A G.2.2) 4 0 0 (zz_E X G r F') (zz_K G F v sz lv lz su pm (nI c) fl ru) 11 [(3, .int (nI (i + 1))), (2, .ref (G.2.2 (10 + j))), (0, .ref (G.2.2 6)), (1, .int y)] [] := by
  intro n
  induction n with
  | zero =>
    intro i pm hpm hi he hF
    refine zi_iload_n (pc := 11) h (i := 3) zd_FT_endAt_11 rfl 0 rfl ?_
    refine zi_aload_n (pc := 12) h (i := 0) zd_FT_endAt_12 rfl 2 rfl ?_
    refine zi_get (pc := 13) h zx_FT 6 1 zq_k6 rfl zq_j_1_2 zw_130 rfl zd_FT_endAt_13 ?_
    refine zi_icmp_ge_t (pc := 16) h (tgt := 39) zd_FT_endAt_16 rfl (nI_le (by omega) (by omega)) ?_
    refine zi_aload_n (pc := 39) h (i := 0) zd_FT_endAt_39 rfl 2 rfl ?_
    refine zi_dup (pc := 40) h zd_FT_endAt_40 rfl ?_
    refine zi_get (pc := 41) h zx_FT 6 1 zq_k6 rfl zq_j_1_2 zw_130 rfl zd_FT_endAt_41 ?_
    refine zi_iconst (pc := 44) h zd_FT_endAt_44 zq_ic_1 ?_
    refine zi_isub (pc := 45) h zd_FT_endAt_45 ?_
    refine zi_topv (nI (c - 1)) (show nI c - 1 = nI (c - 1) by obtain ⟨d, rfl⟩ : ∃ d, c = d + 1 := ⟨c - 1, by omega⟩; exact nI_pred d) ?_
    refine zi_put (pc := 46) h zx_FT 6 1 zq_k6 rfl zq_j_1_2 zw_130 rfl rfl rfl (Nat.le_of_ble_eq_true rfl) zd_FT_endAt_46 zk_u_cn ?_
    refine zi_aload_n (pc := 49) h (i := 0) zd_FT_endAt_49 rfl 2 rfl ?_
    refine zi_get (pc := 50) h zx_FT 6 0 zq_k6 rfl zq_j_0_2 zw_128 rfl zd_FT_endAt_50 ?_
    refine zi_aload_n (pc := 53) h (i := 0) zd_FT_endAt_53 rfl 2 rfl ?_
    refine zi_get (pc := 54) h zx_FT 6 1 zq_k6 rfl zq_j_1_2 zw_130 rfl zd_FT_endAt_54 ?_
    refine zi_aload_n (pc := 57) h (i := 2) zd_FT_endAt_57 rfl 1 rfl ?_
    refine zi_aastF (pc := 58) h 7 _ zq_k7 (zq_fl hj) rfl (zk_at_fl _ hj) (zz_ixN (j := c - 1) (by omega)) zd_FT_endAt_58 zk_u_pm2 ?_
    exact zi_vreturn (pc := 59) h hr zd_FT_endAt_59 he.symm hF
  | succ n ih =>
    intro i pm hpm hi he hF
    refine zi_iload_n (pc := 11) h (i := 3) zd_FT_endAt_11 rfl 0 rfl ?_
    refine zi_aload_n (pc := 12) h (i := 0) zd_FT_endAt_12 rfl 2 rfl ?_
    refine zi_get (pc := 13) h zx_FT 6 1 zq_k6 rfl zq_j_1_2 zw_130 rfl zd_FT_endAt_13 ?_
    refine zi_icmp_ge_f (pc := 16) h (tgt := 39) zd_FT_endAt_16 rfl (nI_ge (by omega) (by omega)) ?_
    refine zi_aload_n (pc := 19) h (i := 0) zd_FT_endAt_19 rfl 2 rfl ?_
    refine zi_get (pc := 20) h zx_FT 6 0 zq_k6 rfl zq_j_0_2 zw_128 rfl zd_FT_endAt_20 ?_
    refine zi_iload_n (pc := 23) h (i := 3) zd_FT_endAt_23 rfl 0 rfl ?_
    refine zi_iconst (pc := 24) h zd_FT_endAt_24 zq_ic_1 ?_
    refine zi_isub (pc := 25) h zd_FT_endAt_25 ?_
    refine zi_topv (nI i) (nI_pred i) ?_
    refine zi_aload_n (pc := 26) h (i := 0) zd_FT_endAt_26 rfl 2 rfl ?_
    refine zi_get (pc := 27) h zx_FT 6 0 zq_k6 rfl zq_j_0_2 zw_128 rfl zd_FT_endAt_27 ?_
    refine zi_iload_n (pc := 30) h (i := 3) zd_FT_endAt_30 rfl 0 rfl ?_
    refine zi_aaldF (pc := 31) h 7 zq_k7 rfl (zz_ixN (j := i + 1) (by omega)) rfl zd_FT_endAt_31 ?_
    refine zi_aastF (pc := 32) h 7 _ zq_k7 (zq_fl (hpm _)) rfl (zk_at_fl _ (hpm _)) (zz_ixN (j := i) (by omega)) zd_FT_endAt_32 zk_u_pm2 ?_
    refine zi_iinc (pc := 33) h (i := 3) (L' := [(3, _), (2, _), (0, _), (1, _)]) zd_FT_endAt_33 0 rfl (zq_incN (i + 1)) (by decide) rfl ?_
    refine zi_goto (pc := 36) h (tgt := 11) zd_FT_endAt_36 rfl ?_
    exact ih (i + 1) _ (fun q => by by_cases e : q = i; subst e; rw [zz_eq]; exact hpm _; rw [zz_ne e]; exact hpm _) (by omega) he hF

set_option maxRecDepth 20000 in
theorem zc_FT_endAt {l : Launch} {G : zz_G} {F : Nat → va_E} {v : Nat → Int32} {sz : Int32} {lv : Nat → Int32} {lz : Int32} {su : Nat → Int32} {pm : Nat → Nat} {fl : Nat → Nat → Int32} {ru : Nat → Nat → Int32} {c i : Nat} (hpm : ∀ i, pm i < 12) (hc : c ≤ 12) (hi : i < c) : zz_M l zy_FT_endAt zb_FT_endAt 4 none 0 0 G [.ref (G.2.2 6), .int (nI i)] (zz_K G F v sz lv lz su pm (nI c) fl ru) none (zz_K G F v sz lv lz su (zs_end pm i c) (nI (c - 1)) fl ru) := by
  refine zz_M.of (by decide) (Nat.le_of_ble_eq_true rfl) ?_
  intro X hX h hr
  subst hX
  have h : zz_C X G (zz_A G.2.2) 4 zb_FT_endAt "PortTranslator$FlowTable" 0 0 0 0 := h
  refine zi_aload_n (pc := 0) h (i := 0) zd_FT_endAt_0 rfl 0 rfl ?_
  refine zi_get (pc := 1) h zx_FT 6 0 zq_k6 rfl zq_j_0_2 zw_128 rfl zd_FT_endAt_1 ?_
  refine zi_iload_n (pc := 4) h (i := 1) zd_FT_endAt_4 rfl 1 rfl ?_
  refine zi_aaldF (pc := 5) h 7 zq_k7 rfl (zz_ixN (j := i) (by omega)) rfl zd_FT_endAt_5 ?_
  refine zi_astore_n (pc := 6) h (i := 2) (L' := [(2, _), (0, _), (1, _)]) zd_FT_endAt_6 rfl (by decide) rfl ?_
  refine zi_iload_n (pc := 7) h (i := 1) zd_FT_endAt_7 rfl 2 rfl ?_
  refine zi_iconst (pc := 8) h zd_FT_endAt_8 zq_ic_1 ?_
  refine zi_iadd (pc := 9) h zd_FT_endAt_9 ?_
  refine zi_topv (nI (i + 1)) (nI_1 i) ?_
  refine zi_istore_n (pc := 10) h (i := 3) (L' := [(3, _), (2, _), (0, _), (1, _)]) zd_FT_endAt_10 rfl (by decide) rfl ?_
  exact zl_FT_endAt hc (by omega) (hpm i) h hr (c - (i + 1)) i pm hpm (by omega) rfl rfl

set_option maxRecDepth 20000 in
theorem zl_FT_grow {X : zz_X} {r : Option Value} {F' : Nat → va_E} {G : zz_G} {F : Nat → va_E} {v : Nat → Int32} {sz : Int32} {lv : Nat → Int32} {lz : Int32} {su : Nat → Int32} {ru : Nat → Nat → Int32} {c0 : Nat} {t : Int32}  (h : zz_C X G (zz_A G.2.2) 4 zb_FT_grow "PortTranslator$FlowTable" 2 40 0 0) (hr : X.2.2.2.2.2.2.2.2.1.sig.returnType = (some .int)) : ∀ (n : Nat) (pm : Nat → Nat) (fl : Nat → Nat → Int32) (c : Nat) (y : Int32), (∀ i, pm i < 12) → n ≤ c → c ≤ 12 → y = nI n - 1 → r = some (.int (nI c0 - nI (zs_grw t n pm fl c).2.2)) → (zz_K G F v sz lv lz su (zs_grw t n pm fl c).1 (nI (zs_grw t n pm fl c).2.2) (zs_grw t n pm fl c).2.1 ru) = F' → zz_W X G (zz_A G.2.2) 4 0 0 (zz_E X G r F') (zz_K G F v sz lv lz su pm (nI c) fl ru) 9 [(3, .int y), (2, .int (nI c0)), (0, .ref (G.2.2 6)), (1, .int t)] [] := by
  intro n
  induction n with
  | zero =>
    intro pm fl c y hpm hn hc hy he hF
    subst hy
    refine zi_iload_n (pc := 9) h (i := 3) zd_FT_grow_9 rfl 0 rfl ?_
    refine zi_if_lt_t (pc := 10) h (tgt := 51) zd_FT_grow_10 rfl (by decide) ?_
    refine zi_iload_n (pc := 51) h (i := 2) zd_FT_grow_51 rfl 1 rfl ?_
    refine zi_aload_n (pc := 52) h (i := 0) zd_FT_grow_52 rfl 2 rfl ?_
    refine zi_get (pc := 53) h zx_FT 6 1 zq_k6 rfl zq_j_1_2 zw_130 rfl zd_FT_grow_53 ?_
    refine zi_isub (pc := 56) h zd_FT_grow_56 ?_
    exact zi_ireturn (pc := 57) h hr zd_FT_grow_57 he.symm hF
  | succ n ih =>
    intro pm fl c y hpm hn hc hy he hF
    obtain rfl : y = nI n := hy.trans (nI_pred n)
    refine zi_iload_n (pc := 9) h (i := 3) zd_FT_grow_9 rfl 0 rfl ?_
    refine zi_if_lt_f (pc := 10) h (tgt := 51) zd_FT_grow_10 rfl (nI_pos (by omega)) ?_
    refine zi_aload_n (pc := 13) h (i := 0) zd_FT_grow_13 rfl 2 rfl ?_
    refine zi_get (pc := 14) h zx_FT 6 0 zq_k6 rfl zq_j_0_2 zw_128 rfl zd_FT_grow_14 ?_
    refine zi_iload_n (pc := 17) h (i := 3) zd_FT_grow_17 rfl 0 rfl ?_
    refine zi_aaldF (pc := 18) h 7 zq_k7 rfl (zz_ixN (j := n) (by omega)) rfl zd_FT_grow_18 ?_
    refine zi_dup (pc := 19) h zd_FT_grow_19 rfl ?_
    refine zi_get (pc := 20) h zx_FL _ 6 (zq_fl (hpm _)) (zk_at_fl _ (hpm _)) zq_j_6_10 zw_102 rfl zd_FT_grow_20 ?_
    refine zi_iload_n (pc := 23) h (i := 1) zd_FT_grow_23 rfl 3 rfl ?_
    refine zi_iadd (pc := 24) h zd_FT_grow_24 ?_
    refine zi_put (pc := 25) h zx_FL _ 6 (zq_fl (hpm _)) (zk_at_fl _ (hpm _)) zq_j_6_10 zw_102 rfl rfl rfl (Nat.le_of_ble_eq_true rfl) zd_FT_grow_25 (zk_s_fl _ (hpm _) 6 (by decide)) ?_
    refine zi_aload_n (pc := 28) h (i := 0) zd_FT_grow_28 rfl 2 rfl ?_
    refine zi_get (pc := 29) h zx_FT 6 0 zq_k6 rfl zq_j_0_2 zw_128 rfl zd_FT_grow_29 ?_
    refine zi_iload_n (pc := 32) h (i := 3) zd_FT_grow_32 rfl 0 rfl ?_
    refine zi_aaldF (pc := 33) h 7 zq_k7 rfl (zz_ixN (j := n) (by omega)) rfl zd_FT_grow_33 ?_
    refine zi_callV (pc := 34) h (st := []) (zc_FL_isOver (hpm n)) zm_FL_isOver zw_533 zx_FL (zq_fl (hpm _)) (zk_at_fl1 _ (hpm _)) ⟨by decide, by decide⟩ zd_FT_grow_34 (Nat.le_of_ble_eq_true rfl) rfl ?_
    refine zi_topv (zs_ovr (va_up (fl (pm n)) 6 (fl (pm n) 6 + t))) (congrArg zs_ovr zz_eq) ?_
    refine zi_if_eq (pc := 37) h (tgt := 45) zd_FT_grow_37 rfl ?_ ?_
    · intro b37
      refine zi_iinc (pc := 45) h (i := 3) (L' := [(3, _), (2, _), (0, _), (1, _)]) zd_FT_grow_45 0 rfl (zq_dec n) (by decide) rfl ?_
      refine zi_goto (pc := 48) h (tgt := 9) zd_FT_grow_48 rfl ?_
      rw [zs_grw, if_pos b37] at he hF
      exact ih _ _ _ _ hpm (by omega) hc rfl he hF
    · intro b37
      refine zi_aload_n (pc := 40) h (i := 0) zd_FT_grow_40 rfl 2 rfl ?_
      refine zi_iload_n (pc := 41) h (i := 3) zd_FT_grow_41 rfl 0 rfl ?_
      refine zi_callVv (pc := 42) h (st := []) (zc_FT_endAt hpm hc (show n < c by omega)) zm_FT_endAt zw_392 zx_FT zq_k6 rfl ⟨by decide, by decide⟩ zd_FT_grow_42 (Nat.le_of_ble_eq_true rfl) rfl ?_
      refine zi_iinc (pc := 45) h (i := 3) (L' := [(3, _), (2, _), (0, _), (1, _)]) zd_FT_grow_45 0 rfl (zq_dec n) (by decide) rfl ?_
      refine zi_goto (pc := 48) h (tgt := 9) zd_FT_grow_48 rfl ?_
      rw [zs_grw, if_neg b37] at he hF
      exact ih _ _ _ _ (zs_end_lt hpm) (by omega) (by omega) rfl he hF

set_option maxRecDepth 20000 in
theorem zc_FT_grow {l : Launch} {G : zz_G} {F : Nat → va_E} {v : Nat → Int32} {sz : Int32} {lv : Nat → Int32} {lz : Int32} {su : Nat → Int32} {pm : Nat → Nat} {fl : Nat → Nat → Int32} {ru : Nat → Nat → Int32} {c : Nat} {t : Int32} (hpm : ∀ i, pm i < 12) (hc : c ≤ 12) : zz_M l zy_FT_grow zb_FT_grow 4 (some .int) 2 40 G [.ref (G.2.2 6), .int t] (zz_K G F v sz lv lz su pm (nI c) fl ru) (some (.int (nI c - nI (zs_grw t c pm fl c).2.2))) (zz_K G F v sz lv lz su (zs_grw t c pm fl c).1 (nI (zs_grw t c pm fl c).2.2) (zs_grw t c pm fl c).2.1 ru) := by
  refine zz_M.of (by decide) (Nat.le_of_ble_eq_true rfl) ?_
  intro X hX h hr
  subst hX
  have h : zz_C X G (zz_A G.2.2) 4 zb_FT_grow "PortTranslator$FlowTable" 2 40 0 0 := h
  refine zi_aload_n (pc := 0) h (i := 0) zd_FT_grow_0 rfl 0 rfl ?_
  refine zi_get (pc := 1) h zx_FT 6 1 zq_k6 rfl zq_j_1_2 zw_130 rfl zd_FT_grow_1 ?_
  refine zi_istore_n (pc := 4) h (i := 2) (L' := [(2, _), (0, _), (1, _)]) zd_FT_grow_4 rfl (by decide) rfl ?_
  refine zi_iload_n (pc := 5) h (i := 2) zd_FT_grow_5 rfl 0 rfl ?_
  refine zi_iconst (pc := 6) h zd_FT_grow_6 zq_ic_1 ?_
  refine zi_isub (pc := 7) h zd_FT_grow_7 ?_
  refine zi_istore_n (pc := 8) h (i := 3) (L' := [(3, _), (2, _), (0, _), (1, _)]) zd_FT_grow_8 rfl (by decide) rfl ?_
  exact zl_FT_grow h hr c pm fl c _ hpm (Nat.le_refl _) hc rfl rfl rfl

set_option maxRecDepth 20000 in
theorem zl_FT_end {X : zz_X} {r : Option Value} {F' : Nat → va_E} {G : zz_G} {F : Nat → va_E} {v : Nat → Int32} {sz : Int32} {lv : Nat → Int32} {lz : Int32} {su : Nat → Int32} {pm : Nat → Nat} {fl : Nat → Nat → Int32} {ru : Nat → Nat → Int32} {c i0 : Nat} (hpm : ∀ i, pm i < 12) (hc : c ≤ 12) (hi0 : i0 < c) (hne : ∀ i, i < i0 → pm i ≠ pm i0) (h : zz_C X G (zz_A G.2.2) 3 zb_FT_end "PortTranslator$FlowTable" 1 23 0 0) (hr : X.2.2.2.2.2.2.2.2.1.sig.returnType = none) : ∀ (n i : Nat), i + n = i0 → r = none → (zz_K G F v sz lv lz su (zs_end pm i0 c) (nI (c - 1)) fl ru) = F' → zz_W X G (zz_A G.2.2) 3 0 0 (zz_E X G r F') (zz_K G F v sz lv lz su pm (nI c) fl ru) 2 [(2, .int (nI i)), (0, .ref (G.2.2 6)), (1, .ref (G.2.2 (10 + pm i0)))] [] := by
  intro n
  induction n with
  | zero =>
    intro i hi he hF
    obtain rfl : i = i0 := hi
    refine zi_iload_n (pc := 2) h (i := 2) zd_FT_end_2 rfl 0 rfl ?_
    refine zi_aload_n (pc := 3) h (i := 0) zd_FT_end_3 rfl 1 rfl ?_
    refine zi_get (pc := 4) h zx_FT 6 1 zq_k6 rfl zq_j_1_2 zw_130 rfl zd_FT_end_4 ?_
    refine zi_icmp_ge_f (pc := 7) h (tgt := 32) zd_FT_end_7 rfl (nI_ge (by omega) (by omega)) ?_
    refine zi_aload_n (pc := 10) h (i := 0) zd_FT_end_10 rfl 1 rfl ?_
    refine zi_get (pc := 11) h zx_FT 6 0 zq_k6 rfl zq_j_0_2 zw_128 rfl zd_FT_end_11 ?_
    refine zi_iload_n (pc := 14) h (i := 2) zd_FT_end_14 rfl 0 rfl ?_
    refine zi_aaldF (pc := 15) h 7 zq_k7 rfl (zz_ixN (j := i) (by omega)) rfl zd_FT_end_15 ?_
    refine zi_aload_n (pc := 16) h (i := 1) zd_FT_end_16 rfl 2 rfl ?_
    refine zi_acmp_ne_f (pc := 17) h (tgt := 26) zd_FT_end_17 rfl rfl ?_
    refine zi_aload_n (pc := 20) h (i := 0) zd_FT_end_20 rfl 1 rfl ?_
    refine zi_iload_n (pc := 21) h (i := 2) zd_FT_end_21 rfl 0 rfl ?_
    refine zi_callVv (pc := 22) h (st := []) (zc_FT_endAt hpm hc hi0) zm_FT_endAt zw_392 zx_FT zq_k6 rfl ⟨by decide, by decide⟩ zd_FT_end_22 (Nat.le_of_ble_eq_true rfl) rfl ?_
    exact zi_vreturn (pc := 25) h hr zd_FT_end_25 he.symm hF
  | succ n ih =>
    intro i hi he hF
    refine zi_iload_n (pc := 2) h (i := 2) zd_FT_end_2 rfl 0 rfl ?_
    refine zi_aload_n (pc := 3) h (i := 0) zd_FT_end_3 rfl 1 rfl ?_
    refine zi_get (pc := 4) h zx_FT 6 1 zq_k6 rfl zq_j_1_2 zw_130 rfl zd_FT_end_4 ?_
    refine zi_icmp_ge_f (pc := 7) h (tgt := 32) zd_FT_end_7 rfl (nI_ge (by omega) (by omega)) ?_
    refine zi_aload_n (pc := 10) h (i := 0) zd_FT_end_10 rfl 1 rfl ?_
    refine zi_get (pc := 11) h zx_FT 6 0 zq_k6 rfl zq_j_0_2 zw_128 rfl zd_FT_end_11 ?_
    refine zi_iload_n (pc := 14) h (i := 2) zd_FT_end_14 rfl 0 rfl ?_
    refine zi_aaldF (pc := 15) h 7 zq_k7 rfl (zz_ixN (j := i) (by omega)) rfl zd_FT_end_15 ?_
    refine zi_aload_n (pc := 16) h (i := 1) zd_FT_end_16 rfl 2 rfl ?_
    refine zi_acmp_ne_t (pc := 17) h (tgt := 26) zd_FT_end_17 rfl (fun q => hne i (by omega) (zq_dis h.dis (hpm _) (hpm _) q)) ?_
    refine zi_iinc (pc := 26) h (i := 2) (L' := [(2, _), (0, _), (1, _)]) zd_FT_end_26 0 rfl (zq_incN i) (by decide) rfl ?_
    refine zi_goto (pc := 29) h (tgt := 2) zd_FT_end_29 rfl ?_
    exact ih (i + 1) (by omega) he hF

set_option maxRecDepth 20000 in
theorem zc_FT_end {l : Launch} {G : zz_G} {F : Nat → va_E} {v : Nat → Int32} {sz : Int32} {lv : Nat → Int32} {lz : Int32} {su : Nat → Int32} {pm : Nat → Nat} {fl : Nat → Nat → Int32} {ru : Nat → Nat → Int32} {c i : Nat} (hpm : ∀ i, pm i < 12) (hc : c ≤ 12) (hi : i < c) (hne : ∀ j, j < i → pm j ≠ pm i) : zz_M l zy_FT_end zb_FT_end 3 none 1 23 G [.ref (G.2.2 6), .ref (G.2.2 (10 + pm i))] (zz_K G F v sz lv lz su pm (nI c) fl ru) none (zz_K G F v sz lv lz su (zs_end pm i c) (nI (c - 1)) fl ru) := by
  refine zz_M.of (by decide) (Nat.le_of_ble_eq_true rfl) ?_
  intro X hX h hr
  subst hX
  have h : zz_C X G (zz_A G.2.2) 3 zb_FT_end "PortTranslator$FlowTable" 1 23 0 0 := h
  refine zi_iconst (pc := 0) h zd_FT_end_0 zq_ic_0 ?_
  refine zi_istore_n (pc := 1) h (i := 2) (L' := [(2, _), (0, _), (1, _)]) zd_FT_end_1 rfl (by decide) rfl ?_
  exact zl_FT_end hpm hc hi hne h hr i 0 (by omega) rfl rfl
