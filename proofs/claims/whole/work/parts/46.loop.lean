def zz_Hy (X : zz_X) (G : zz_G) (A : Nat → Prop) (kc ks b N i : Nat) (xs : Nat → Int32) : Prop := zz_C X G A 7 zb_LA_law "PortTranslatorLaw" 10 348 kc ks ∧ va_X b N xs X.2.2.2.2.1 X.2.2.2.2.1.heap ∧ b < X.2.2.2.2.1.heap.size ∧ (¬ A b) ∧ i + 6 ≤ N ∧ N ≤ 3072 ∧ zz_KZ X A ∧ (kc + 1 ≤ X.2.2.2.1.cells ∧ ks + 6 ≤ X.2.2.2.1.slots) ∧ X.2.1.flags = pinnedFlags ++ [noTraceFlag]
def zz_Go (X : zz_X) (G : zz_G) (A : Nat → Prop) (kc ks b i : Nat) (Q : State → Prop) (pc : Nat) : Prop := ∀ F, zz_In G F → (∀ F', zz_In G F' → zz_W X G A 7 (kc + 1) (ks + 6) Q F' 628 [(4, .int (nI i)), (3, .ref (G.2.2 41)), (2, .ref (G.2.2 26)), (1, .ref (G.2.2 0)), (0, .ref b)] []) → zz_W X G A 7 kc ks Q F pc [(4, .int (nI i)), (3, .ref (G.2.2 41)), (2, .ref (G.2.2 26)), (1, .ref (G.2.2 0)), (0, .ref b)] []
theorem zz_C.to {X : zz_X} {G : zz_G} {A : Nat → Prop} {nL : Nat} {cc : ByteArray} {own : String} {fr lo kc ks kc' ks' : Nat} (h : zz_C X G A nL cc own fr lo kc ks) (h1 : kc' ≤ X.2.2.2.1.cells) (h2 : ks' ≤ X.2.2.2.1.slots) : zz_C X G A nL cc own fr lo kc' ks' :=
  ⟨h.1, h.2.1, h.2.2.1, h.2.2.2.1, h.2.2.2.2.1, h.2.2.2.2.2.1, h.2.2.2.2.2.2.1, h.2.2.2.2.2.2.2.1, h.2.2.2.2.2.2.2.2.1, ⟨h.room.1, h.room.2.1, h1, h2⟩, h.J⟩
section
variable {X : zz_X} {G : zz_G} {A : Nat → Prop} {kc ks b N i : Nat} {xs : Nat → Int32} {Q : State → Prop}
theorem zg_put (H : zz_Hy X G A kc ks b N i xs) : zz_Go X G A kc ks b i Q 100 := by
  obtain ⟨h, hX, hbl, hbA, hi, hN, hZ, hc, hfl⟩ := H
  intro F hF kk
  obtain ⟨x, F2, F3, fs1, fs2, m1, m2, q1, q2, hI⟩ := zo_put (l := X.2.1) hF (xs (i + 1)) (zz_lx (xs (i + 2)) (xs (i + 3)))
  exact zl_law_put h hX hbl hbA hi hN q1 q2 m1 m2 (zi_widen (Nat.le_succ _) (Nat.le_add_right _ _) (kk F3 hI))
theorem zg_scrap (H : zz_Hy X G A kc ks b N i xs) : zz_Go X G A kc ks b i Q 169 := by
  obtain ⟨h, hX, hbl, hbA, hi, hN, hZ, hc, hfl⟩ := H
  intro F hF kk
  obtain ⟨F2, F3, fs1, fs2, m1, m2, q1, q2, hI⟩ := zo_scrap (l := X.2.1) hF
  exact zl_law_scrap h hX hbl hbA hi hN q1 q2 m1 m2 (zi_widen (Nat.le_succ _) (Nat.le_add_right _ _) (kk F3 hI))
theorem zg_length (H : zz_Hy X G A kc ks b N i xs) : zz_Go X G A kc ks b i Q 221 := by
  obtain ⟨h, hX, hbl, hbA, hi, hN, hZ, hc, hfl⟩ := H
  intro F hF kk
  obtain ⟨x, F2, F3, fs1, fs2, m1, m2, q1, q2, hI⟩ := zo_length (l := X.2.1) hF
  exact zl_law_length h hX hbl hbA hi hN q1 q2 m1 m2 (zi_widen (Nat.le_succ _) (Nat.le_add_right _ _) (kk F3 hI))
theorem zg_flows (H : zz_Hy X G A kc ks b N i xs) : zz_Go X G A kc ks b i Q 522 := by
  obtain ⟨h, hX, hbl, hbA, hi, hN, hZ, hc, hfl⟩ := H
  intro F hF kk
  obtain ⟨x, F2, F3, fs1, fs2, m1, m2, q1, q2, hI⟩ := zo_flows (l := X.2.1) hF
  exact zl_law_flows h hX hbl hbA hi hN q1 q2 m1 m2 (zi_widen (Nat.le_succ _) (Nat.le_add_right _ _) (kk F3 hI))
theorem zg_bindings (H : zz_Hy X G A kc ks b N i xs) : zz_Go X G A kc ks b i Q 603 := by
  obtain ⟨h, hX, hbl, hbA, hi, hN, hZ, hc, hfl⟩ := H
  intro F hF kk
  obtain ⟨x, F2, F3, fs1, fs2, m1, m2, q1, q2, hI⟩ := zo_bindings (l := X.2.1) hF (xs (i + 1))
  exact zl_law_bindings h hX hbl hbA hi hN q1 q2 m1 m2 (zi_widen (Nat.le_succ _) (Nat.le_add_right _ _) (kk F3 hI))
theorem zg_route (H : zz_Hy X G A kc ks b N i xs) : zz_Go X G A kc ks b i Q 180 := by
  obtain ⟨h, hX, hbl, hbA, hi, hN, hZ, hc, hfl⟩ := H
  intro F hF kk
  by_cases hb : xs (i + 1) = 0
  · obtain ⟨x, F2, F3, fs1, fs2, m1, m2, q1, q2, hI⟩ := zo_route0 (l := X.2.1) hF
    exact zl_law_route0 h hX hbl hbA hi hN hb q1 q2 m1 m2 (zi_widen (Nat.le_succ _) (Nat.le_add_right _ _) (kk F3 hI))
  · obtain ⟨x, F2, F3, fs1, fs2, m1, m2, q1, q2, hI⟩ := zo_route1 (l := X.2.1) hF
    exact zl_law_route1 h hX hbl hbA hi hN hb q1 q2 m1 m2 (zi_widen (Nat.le_succ _) (Nat.le_add_right _ _) (kk F3 hI))
theorem zg_at (H : zz_Hy X G A kc ks b N i xs) : zz_Go X G A kc ks b i Q 234 := by
  obtain ⟨h, hX, hbl, hbA, hi, hN, hZ, hc, hfl⟩ := H
  intro F hF kk
  rcases zo_at (l := X.2.1) hfl hF (xs (i + 1)) with ⟨r, F2, F3, fs2, fs3, o, m1, m2, m3, q1, q2, q3, q4, hI⟩ | ⟨m1, r, F3, fs2, fs3, m2, m3, q1, q2, hI⟩
  · exact zl_law_at h hX hbl hbA hi hN hZ ⟨by omega, by omega⟩ q1 q2 q3 q4 m1 m2 m3 (zi_widen (Nat.le_succ _) (Nat.le_add_right _ _) (kk F3 hI))
  · exact zl_law_at_t1 h hX hbl hbA hi hN hZ hc q1 q2 m1 m2 m3 (kk F3 hI)
theorem zg_tick (H : zz_Hy X G A kc ks b N i xs) : zz_Go X G A kc ks b i Q 290 := by
  obtain ⟨h, hX, hbl, hbA, hi, hN, hZ, hc, hfl⟩ := H
  intro F hF kk
  rcases zo_tick (l := X.2.1) hfl hF (xs (i + 1)) with ⟨r, F2, F3, fs2, fs3, o, m1, m2, m3, q1, q2, q3, q4, hI⟩ | ⟨m1, r, F3, fs2, fs3, m2, m3, q1, q2, hI⟩
  · exact zl_law_tick h hX hbl hbA hi hN hZ ⟨by omega, by omega⟩ q1 q2 q3 q4 m1 m2 m3 (zi_widen (Nat.le_succ _) (Nat.le_add_right _ _) (kk F3 hI))
  · exact zl_law_tick_t1 h hX hbl hbA hi hN hZ hc q1 q2 m1 m2 m3 (kk F3 hI)
theorem zg_rule (H : zz_Hy X G A kc ks b N i xs) : zz_Go X G A kc ks b i Q 346 := by
  obtain ⟨h, hX, hbl, hbA, hi, hN, hZ, hc, hfl⟩ := H
  intro F hF kk
  by_cases hb : xs (i + 5) = 0
  · rcases zo_rule (l := X.2.1) hfl hF (xs (i + 1)) (xs (i + 2)) (xs (i + 3)) (xs (i + 4)) 0 (.inl rfl) with ⟨r, F2, F3, fs2, fs3, o, m1, m2, m3, q1, q2, q3, q4, hI⟩ | ⟨m1, r, F3, fs2, fs3, m2, m3, q1, q2, hI⟩
    · exact zl_law_rule0 h hX hbl hbA hi hN hb hZ ⟨by omega, by omega⟩ q1 q2 q3 q4 m1 m2 m3 (zi_widen (Nat.le_succ _) (Nat.le_add_right _ _) (kk F3 hI))
    · exact zl_law_rule0_t1 h hX hbl hbA hi hN hb hZ hc q1 q2 m1 m2 m3 (kk F3 hI)
  · rcases zo_rule (l := X.2.1) hfl hF (xs (i + 1)) (xs (i + 2)) (xs (i + 3)) (xs (i + 4)) 1 (.inr rfl) with ⟨r, F2, F3, fs2, fs3, o, m1, m2, m3, q1, q2, q3, q4, hI⟩ | ⟨m1, r, F3, fs2, fs3, m2, m3, q1, q2, hI⟩
    · exact zl_law_rule1 h hX hbl hbA hi hN hb hZ ⟨by omega, by omega⟩ q1 q2 q3 q4 m1 m2 m3 (zi_widen (Nat.le_succ _) (Nat.le_add_right _ _) (kk F3 hI))
    · exact zl_law_rule1_t1 h hX hbl hbA hi hN hb hZ hc q1 q2 m1 m2 m3 (kk F3 hI)
theorem zg_forget (H : zz_Hy X G A kc ks b N i xs) : zz_Go X G A kc ks b i Q 466 := by
  obtain ⟨h, hX, hbl, hbA, hi, hN, hZ, hc, hfl⟩ := H
  intro F hF kk
  rcases zo_forget (l := X.2.1) hfl hF (xs (i + 1)) with ⟨r, F2, F3, fs2, fs3, o, m1, m2, m3, q1, q2, q3, q4, hI⟩ | ⟨m1, r, F3, fs2, fs3, m2, m3, q1, q2, hI⟩
  · exact zl_law_forget h hX hbl hbA hi hN hZ ⟨by omega, by omega⟩ q1 q2 q3 q4 m1 m2 m3 (zi_widen (Nat.le_succ _) (Nat.le_add_right _ _) (kk F3 hI))
  · exact zl_law_forget_t1 h hX hbl hbA hi hN hZ hc q1 q2 m1 m2 m3 (kk F3 hI)
theorem zg_flow (H : zz_Hy X G A kc ks b N i xs) : zz_Go X G A kc ks b i Q 535 := by
  obtain ⟨h, hX, hbl, hbA, hi, hN, hZ, hc, hfl⟩ := H
  intro F hF kk
  rcases zo_flow (l := X.2.1) hfl hF (xs (i + 1)) (xs (i + 2)) with ⟨r, F2, F3, fs2, fs3, o, m1, m2, m3, q1, q2, q3, q4, hI⟩ | ⟨m1, r, F3, fs2, fs3, m2, m3, q1, q2, hI⟩ | ⟨m1, r, F3, fs2, fs3, m2, m3, q1, q2, hI⟩
  · exact zl_law_flow h hX hbl hbA hi hN hZ ⟨by omega, by omega⟩ q1 q2 q3 q4 m1 m2 m3 (zi_widen (Nat.le_succ _) (Nat.le_add_right _ _) (kk F3 hI))
  · exact zl_law_flow_t1 h hX hbl hbA hi hN hZ hc q1 q2 m1 m2 m3 (kk F3 hI)
  · exact zl_law_flow_t2 h hX hbl hbA hi hN hZ hc q1 q2 m1 m2 m3 (kk F3 hI)
end
set_option maxRecDepth 20000 in
theorem zz_loop {X : zz_X} {G : zz_G} {A : Nat → Prop} {b N : Nat} {xs : Nat → Int32} {Q : State → Prop} (h0 : zz_C X G A 7 zb_LA_law "PortTranslatorLaw" 10 348 0 0) (hX : va_X b N xs X.2.2.2.2.1 X.2.2.2.2.1.heap) (hbl : b < X.2.2.2.2.1.heap.size) (hbA : ¬ A b) (hN : N ≤ 3072) (hZ : zz_KZ X A) (hfl : X.2.1.flags = pinnedFlags ++ [noTraceFlag]) (hm : 600 ≤ X.2.2.2.1.cells ∧ 4000 ≤ X.2.2.2.1.slots)
    (hend : ∀ (F : Nat → va_E) (kc ks : Nat) (L : List (Nat × Value)), kc ≤ 600 → ks ≤ 4000 → zz_W X G A 7 kc ks Q F 634 L []) :
    ∀ (r j : Nat), 6 * j + 6 * r ≤ N → N < 6 * j + 6 * r + 6 → ∀ F, zz_In G F → zz_W X G A 7 (42 + j) (498 + 6 * j) Q F 23 [(4, .int (nI (6 * j))), (3, .ref (G.2.2 41)), (2, .ref (G.2.2 26)), (1, .ref (G.2.2 0)), (0, .ref b)] [] := by
  intro r
  induction r with
  | zero =>
    intro j h1 h2 F hF
    have h : zz_C X G A 7 zb_LA_law "PortTranslatorLaw" 10 348 (42 + j) (498 + 6 * j) := h0.to (by omega) (by omega)
    refine zi_iload (pc := 23) h (i := 4) zd_LA_law_23 0 rfl ?_
    refine zi_aload_n (pc := 25) h (i := 0) zd_LA_law_25 rfl 4 rfl ?_
    refine zi_slen (pc := 26) h hX hbl hbA zd_LA_law_26 ?_
    refine zi_bipush (pc := 27) h zd_LA_law_27 zq_bi_6 ?_
    refine zi_isub (pc := 29) h zd_LA_law_29 ?_
    refine zi_icmp_gt_t (pc := 30) h (tgt := 634) zd_LA_law_30 rfl ?_ ?_
    · rw [Int32.lt_iff_toInt_lt, show (6 : Int32) = nI 6 from rfl, pk_sub_toInt (by omega) (by decide), nI_toInt (by omega)]
      omega
    · exact hend F _ _ _ (by omega) (by omega)
  | succ r ih =>
    intro j h1 h2 F hF
    have h : zz_C X G A 7 zb_LA_law "PortTranslatorLaw" 10 348 (42 + j) (498 + 6 * j) := h0.to (by omega) (by omega)
    refine zi_iload (pc := 23) h (i := 4) zd_LA_law_23 0 rfl ?_
    refine zi_aload_n (pc := 25) h (i := 0) zd_LA_law_25 rfl 4 rfl ?_
    refine zi_slen (pc := 26) h hX hbl hbA zd_LA_law_26 ?_
    refine zi_bipush (pc := 27) h zd_LA_law_27 zq_bi_6 ?_
    refine zi_isub (pc := 29) h zd_LA_law_29 ?_
    refine zi_icmp_gt_f (pc := 30) h (tgt := 634) zd_LA_law_30 rfl ?_ ?_
    · rw [Int32.lt_iff_toInt_lt, show (6 : Int32) = nI 6 from rfl, pk_sub_toInt (by omega) (by decide), nI_toInt (by omega)]
      omega
    refine zi_aload_n (pc := 33) h (i := 0) zd_LA_law_33 rfl 4 rfl ?_
    refine zi_iload (pc := 34) h (i := 4) zd_LA_law_34 0 rfl ?_
    refine zi_sld (pc := 36) h hX hbl hbA (zz_ixN (j := 6 * j) (by omega) (by omega)) zd_LA_law_36 ?_
    refine zi_bipush (pc := 37) h zd_LA_law_37 zq_bi_15 ?_
    refine zi_iand (pc := 39) h zd_LA_law_39 ?_
    have H : zz_Hy X G A (42 + j) (498 + 6 * j) b N (6 * j) xs := ⟨h, hX, hbl, hbA, by omega, hN, hZ, ⟨by omega, by omega⟩, hfl⟩
    have kk : ∀ F', zz_In G F' → zz_W X G A 7 (42 + j + 1) (498 + 6 * j + 6) Q F' 628 [(4, .int (nI (6 * j))), (3, .ref (G.2.2 41)), (2, .ref (G.2.2 26)), (1, .ref (G.2.2 0)), (0, .ref b)] [] := by
      intro F' hF'
      have h : zz_C X G A 7 zb_LA_law "PortTranslatorLaw" 10 348 (42 + j + 1) (498 + 6 * j + 6) := h0.to (by omega) (by omega)
      refine zi_iinc (pc := 628) h (i := 4) (L' := [(4, _), (3, _), (2, _), (1, _), (0, _)]) zd_LA_law_628 0 rfl (show nI (6 * j) + Int32.ofInt 6 = nI (6 * (j + 1)) from (zq_inc_6 _).trans (nI_add (6 * j) 6)) (by decide) rfl ?_
      refine zi_goto (pc := 631) h (tgt := 23) zd_LA_law_631 rfl ?_
      exact ih (j + 1) (by omega) (by omega) F' hF'
    obtain ⟨q, hq, eq⟩ := pk_andE (xs (6 * j)) (m := 15) 4 (by decide)
    refine zi_topv (nI q) eq ?_
    match q, hq with
    | 0, _ => exact zi_tableIn (pc := 40) h (tgt := 100) zd_LA_law_40 (by decide) (by decide) rfl rfl (zg_put H F hF kk)
    | 1, _ => exact zi_tableIn (pc := 40) h (tgt := 169) zd_LA_law_40 (by decide) (by decide) rfl rfl (zg_scrap H F hF kk)
    | 2, _ => exact zi_tableIn (pc := 40) h (tgt := 180) zd_LA_law_40 (by decide) (by decide) rfl rfl (zg_route H F hF kk)
    | 3, _ => exact zi_tableIn (pc := 40) h (tgt := 221) zd_LA_law_40 (by decide) (by decide) rfl rfl (zg_length H F hF kk)
    | 4, _ => exact zi_tableIn (pc := 40) h (tgt := 234) zd_LA_law_40 (by decide) (by decide) rfl rfl (zg_at H F hF kk)
    | 5, _ => exact zi_tableIn (pc := 40) h (tgt := 290) zd_LA_law_40 (by decide) (by decide) rfl rfl (zg_tick H F hF kk)
    | 6, _ => exact zi_tableIn (pc := 40) h (tgt := 346) zd_LA_law_40 (by decide) (by decide) rfl rfl (zg_rule H F hF kk)
    | 7, _ => exact zi_tableIn (pc := 40) h (tgt := 466) zd_LA_law_40 (by decide) (by decide) rfl rfl (zg_forget H F hF kk)
    | 8, _ => exact zi_tableIn (pc := 40) h (tgt := 522) zd_LA_law_40 (by decide) (by decide) rfl rfl (zg_flows H F hF kk)
    | 9, _ => exact zi_tableIn (pc := 40) h (tgt := 535) zd_LA_law_40 (by decide) (by decide) rfl rfl (zg_flow H F hF kk)
    | 10, _ => exact zi_tableIn (pc := 40) h (tgt := 603) zd_LA_law_40 (by decide) (by decide) rfl rfl (zg_bindings H F hF kk)
    | 11, _ => exact zi_tableOut (pc := 40) h (tgt := 628) zd_LA_law_40 (.inr (by decide)) rfl (zi_widen (Nat.le_succ _) (Nat.le_add_right _ _) (kk F hF))
    | 12, _ => exact zi_tableOut (pc := 40) h (tgt := 628) zd_LA_law_40 (.inr (by decide)) rfl (zi_widen (Nat.le_succ _) (Nat.le_add_right _ _) (kk F hF))
    | 13, _ => exact zi_tableOut (pc := 40) h (tgt := 628) zd_LA_law_40 (.inr (by decide)) rfl (zi_widen (Nat.le_succ _) (Nat.le_add_right _ _) (kk F hF))
    | 14, _ => exact zi_tableOut (pc := 40) h (tgt := 628) zd_LA_law_40 (.inr (by decide)) rfl (zi_widen (Nat.le_succ _) (Nat.le_add_right _ _) (kk F hF))
    | 15, _ => exact zi_tableOut (pc := 40) h (tgt := 628) zd_LA_law_40 (.inr (by decide)) rfl (zi_widen (Nat.le_succ _) (Nat.le_add_right _ _) (kk F hF))
    | k + 16, hk => exact absurd hk (by omega)
