set_option maxRecDepth 20000 in
theorem zc_LA_at {l : Launch} {G : zz_G} {F1 F2 : Nat → va_E} {fs : List Value} {o : Nat → Int64} {x p0 : Int32} (h0 : F1 0 = .inr (0, fs)) (h41 : F2 41 = .inl (G.2.1 2, 1, .inr (.inl o))) (hM : zz_M l zy_PT_at zb_PT_at 2 (some .int) 1 40 G [.ref (G.2.2 0), .int p0] F1 (some (.int x)) F2) : zz_MW l zy_LA_at zb_LA_at 4 (some .int) [(0, 9, 12, 13)] 7 111 0 0 G [.ref (G.2.2 0), .int p0, .ref (G.2.2 41)] F1 (some (.int 0)) (va_up F2 41 (.inl (G.2.1 2, 1, .inr (.inl (vp_updL o 0 x.toInt64))))) := by
  refine zz_MW.of (by decide) (Nat.le_of_ble_eq_true rfl) ?_
  intro X hX h hZ hr hc hex
  subst hX
  have h : zz_C X G (zz_A G.2.2) 4 zb_LA_at "PortTranslatorLaw" 7 111 0 0 := h
  refine zi_aload_n (pc := 0) h (i := 2) zd_LA_at_0 rfl 2 rfl ?_
  refine zi_iconst (pc := 1) h zd_LA_at_1 zq_ic_0 ?_
  refine zi_aload_n (pc := 2) h (i := 0) zd_LA_at_2 rfl 0 rfl ?_
  refine zi_iload_n (pc := 3) h (i := 1) zd_LA_at_3 rfl 1 rfl ?_
  refine zi_callV (pc := 4) h (st := [_, _]) hM zm_PT_at zw_440 zx_PT zq_k0 h0 ⟨by decide, by decide⟩ zd_LA_at_4 (Nat.le_of_ble_eq_true rfl) rfl ?_
  refine zi_i2l (pc := 7) h zd_LA_at_7 ?_
  refine zi_last (pc := 8) h 41 zq_k41 h41 zq_in_0_1 zd_LA_at_8 rfl ?_
  refine zi_goto (pc := 9) h (tgt := 15) zd_LA_at_9 rfl ?_
  refine zi_iconst (pc := 15) h zd_LA_at_15 zq_ic_0 ?_
  exact zi_ireturnW (pc := 16) h hr zd_LA_at_16 rfl rfl

set_option maxRecDepth 20000 in
theorem zt_LA_at {l : Launch} {G : zz_G} {F1 : Nat → va_E} {fs : List Value} {p0 : Int32} (h0 : F1 0 = .inr (0, fs)) (hM : zz_T l zy_PT_at zb_PT_at 2 (some .int) 6 90 G [.ref (G.2.2 0), .int p0] F1 "java/lang/IndexOutOfBoundsException") : zz_MW l zy_LA_at zb_LA_at 4 (some .int) [(0, 9, 12, 13)] 7 111 1 6 G [.ref (G.2.2 0), .int p0, .ref (G.2.2 41)] F1 (some (.int 1)) F1 := by
  refine zz_MW.of (by decide) (Nat.le_of_ble_eq_true rfl) ?_
  intro X hX h hZ hr hc hex
  subst hX
  have h : zz_C X G (zz_A G.2.2) 4 zb_LA_at "PortTranslatorLaw" 7 111 0 0 := h
  refine zi_aload_n (pc := 0) h (i := 2) zd_LA_at_0 rfl 2 rfl ?_
  refine zi_iconst (pc := 1) h zd_LA_at_1 zq_ic_0 ?_
  refine zi_aload_n (pc := 2) h (i := 0) zd_LA_at_2 rfl 0 rfl ?_
  refine zi_iload_n (pc := 3) h (i := 1) zd_LA_at_3 rfl 1 rfl ?_
  obtain ⟨x1, hs, k1, k2, k3, k4⟩ := zz_one hex
  refine zi_callT (pc := 4) h hZ (st := [.int 0, .ref (G.2.2 41)]) (hpc := 12) hM zm_PT_at zw_440 zx_PT zq_k0 h0 ⟨by decide, by decide⟩ (by have := hc; omega) zd_LA_at_4 (Nat.le_of_ble_eq_true rfl) rfl (fun T2 ls x ce g1 g2 g3 g4 g5 g6 g7 => by have q := zt_first (own := "PortTranslatorLaw") (cls := "java/lang/IndexOutOfBoundsException") (args := X.2.2.2.2.2.2.1) g1 g2 (g := F0 X.2.2.2.2.2.1 4 ls [.int 0, .ref (G.2.2 41)]) rfl g3 g4 hs (by simp only [covers, k1, k2]; decide) (by rw [k4]; decide) h.ow (by rw [k4]; exact h.wd _ zw_439) g5 g6 g7; rw [k3] at q; exact q) (fun x => ?_)
  replace h := h.grow (kc' := 0 + 1) (ks' := 0 + 6) (by have := hc; omega) (by have := hc; omega)
  refine zi_astore_n (pc := 12) h (i := 3) (L' := [(3, _), (0, _), (1, _), (2, _)]) zd_LA_at_12 rfl (by decide) rfl ?_
  refine zi_iconst (pc := 13) h zd_LA_at_13 zq_ic_1 ?_
  exact zi_ireturnW (pc := 14) h hr zd_LA_at_14 rfl rfl

set_option maxRecDepth 20000 in
theorem zc_LA_tick {l : Launch} {G : zz_G} {F1 F2 : Nat → va_E} {fs : List Value} {o : Nat → Int64} {x p0 : Int32} (h0 : F1 0 = .inr (0, fs)) (h41 : F2 41 = .inl (G.2.1 2, 1, .inr (.inl o))) (hM : zz_M l zy_PT_tick zb_PT_tick 2 (some .int) 3 63 G [.ref (G.2.2 0), .int p0] F1 (some (.int x)) F2) : zz_MW l zy_LA_tick zb_LA_tick 4 (some .int) [(0, 9, 12, 18)] 7 111 0 0 G [.ref (G.2.2 0), .int p0, .ref (G.2.2 41)] F1 (some (.int 0)) (va_up F2 41 (.inl (G.2.1 2, 1, .inr (.inl (vp_updL o 0 x.toInt64))))) := by
  refine zz_MW.of (by decide) (Nat.le_of_ble_eq_true rfl) ?_
  intro X hX h hZ hr hc hex
  subst hX
  have h : zz_C X G (zz_A G.2.2) 4 zb_LA_tick "PortTranslatorLaw" 7 111 0 0 := h
  refine zi_aload_n (pc := 0) h (i := 2) zd_LA_tick_0 rfl 2 rfl ?_
  refine zi_iconst (pc := 1) h zd_LA_tick_1 zq_ic_0 ?_
  refine zi_aload_n (pc := 2) h (i := 0) zd_LA_tick_2 rfl 0 rfl ?_
  refine zi_iload_n (pc := 3) h (i := 1) zd_LA_tick_3 rfl 1 rfl ?_
  refine zi_callV (pc := 4) h (st := [_, _]) hM zm_PT_tick zw_510 zx_PT zq_k0 h0 ⟨by decide, by decide⟩ zd_LA_tick_4 (Nat.le_of_ble_eq_true rfl) rfl ?_
  refine zi_i2l (pc := 7) h zd_LA_tick_7 ?_
  refine zi_last (pc := 8) h 41 zq_k41 h41 zq_in_0_1 zd_LA_tick_8 rfl ?_
  refine zi_goto (pc := 9) h (tgt := 15) zd_LA_tick_9 rfl ?_
  refine zi_iconst (pc := 15) h zd_LA_tick_15 zq_ic_0 ?_
  exact zi_ireturnW (pc := 16) h hr zd_LA_tick_16 rfl rfl

set_option maxRecDepth 20000 in
theorem zt_LA_tick {l : Launch} {G : zz_G} {F1 : Nat → va_E} {fs : List Value} {p0 : Int32} (h0 : F1 0 = .inr (0, fs)) (hM : zz_T l zy_PT_tick zb_PT_tick 2 (some .int) 6 90 G [.ref (G.2.2 0), .int p0] F1 "java/lang/IllegalArgumentException") : zz_MW l zy_LA_tick zb_LA_tick 4 (some .int) [(0, 9, 12, 18)] 7 111 1 6 G [.ref (G.2.2 0), .int p0, .ref (G.2.2 41)] F1 (some (.int 1)) F1 := by
  refine zz_MW.of (by decide) (Nat.le_of_ble_eq_true rfl) ?_
  intro X hX h hZ hr hc hex
  subst hX
  have h : zz_C X G (zz_A G.2.2) 4 zb_LA_tick "PortTranslatorLaw" 7 111 0 0 := h
  refine zi_aload_n (pc := 0) h (i := 2) zd_LA_tick_0 rfl 2 rfl ?_
  refine zi_iconst (pc := 1) h zd_LA_tick_1 zq_ic_0 ?_
  refine zi_aload_n (pc := 2) h (i := 0) zd_LA_tick_2 rfl 0 rfl ?_
  refine zi_iload_n (pc := 3) h (i := 1) zd_LA_tick_3 rfl 1 rfl ?_
  obtain ⟨x1, hs, k1, k2, k3, k4⟩ := zz_one hex
  refine zi_callT (pc := 4) h hZ (st := [.int 0, .ref (G.2.2 41)]) (hpc := 12) hM zm_PT_tick zw_510 zx_PT zq_k0 h0 ⟨by decide, by decide⟩ (by have := hc; omega) zd_LA_tick_4 (Nat.le_of_ble_eq_true rfl) rfl (fun T2 ls x ce g1 g2 g3 g4 g5 g6 g7 => by have q := zt_first (own := "PortTranslatorLaw") (cls := "java/lang/IllegalArgumentException") (args := X.2.2.2.2.2.2.1) g1 g2 (g := F0 X.2.2.2.2.2.1 4 ls [.int 0, .ref (G.2.2 41)]) rfl g3 g4 hs (by simp only [covers, k1, k2]; decide) (by rw [k4]; decide) h.ow (by rw [k4]; exact h.wd _ zw_509) g5 g6 g7; rw [k3] at q; exact q) (fun x => ?_)
  replace h := h.grow (kc' := 0 + 1) (ks' := 0 + 6) (by have := hc; omega) (by have := hc; omega)
  refine zi_astore_n (pc := 12) h (i := 3) (L' := [(3, _), (0, _), (1, _), (2, _)]) zd_LA_tick_12 rfl (by decide) rfl ?_
  refine zi_iconst (pc := 13) h zd_LA_tick_13 zq_ic_1 ?_
  exact zi_ireturnW (pc := 14) h hr zd_LA_tick_14 rfl rfl

set_option maxRecDepth 20000 in
theorem zc_LA_rule {l : Launch} {G : zz_G} {F1 F2 : Nat → va_E} {fs : List Value} {o : Nat → Int64} {x p0 p1 p2 p3 p4 : Int32} (h0 : F1 0 = .inr (0, fs)) (h41 : F2 41 = .inl (G.2.1 2, 1, .inr (.inl o))) (hM : zz_M l zy_PT_rule zb_PT_rule 6 (some .int) 1 40 G [.ref (G.2.2 0), .int p0, .int p1, .int p2, .int p3, .int p4] F1 (some (.int x)) F2) : zz_MW l zy_LA_rule zb_LA_rule 8 (some .int) [(0, 16, 19, 18)] 7 115 0 0 G [.ref (G.2.2 0), .int p0, .int p1, .int p2, .int p3, .int p4, .ref (G.2.2 41)] F1 (some (.int 0)) (va_up F2 41 (.inl (G.2.1 2, 1, .inr (.inl (vp_updL o 0 x.toInt64))))) := by
  refine zz_MW.of (by decide) (Nat.le_of_ble_eq_true rfl) ?_
  intro X hX h hZ hr hc hex
  subst hX
  have h : zz_C X G (zz_A G.2.2) 8 zb_LA_rule "PortTranslatorLaw" 7 115 0 0 := h
  refine zi_aload (pc := 0) h (i := 6) zd_LA_rule_0 6 rfl ?_
  refine zi_iconst (pc := 2) h zd_LA_rule_2 zq_ic_0 ?_
  refine zi_aload_n (pc := 3) h (i := 0) zd_LA_rule_3 rfl 0 rfl ?_
  refine zi_iload_n (pc := 4) h (i := 1) zd_LA_rule_4 rfl 1 rfl ?_
  refine zi_iload_n (pc := 5) h (i := 2) zd_LA_rule_5 rfl 2 rfl ?_
  refine zi_iload_n (pc := 6) h (i := 3) zd_LA_rule_6 rfl 3 rfl ?_
  refine zi_iload (pc := 7) h (i := 4) zd_LA_rule_7 4 rfl ?_
  refine zi_iload (pc := 9) h (i := 5) zd_LA_rule_9 5 rfl ?_
  refine zi_callV (pc := 11) h (st := [_, _]) hM zm_PT_rule zw_544 zx_PT zq_k0 h0 ⟨by decide, by decide⟩ zd_LA_rule_11 (Nat.le_of_ble_eq_true rfl) rfl ?_
  refine zi_i2l (pc := 14) h zd_LA_rule_14 ?_
  refine zi_last (pc := 15) h 41 zq_k41 h41 zq_in_0_1 zd_LA_rule_15 rfl ?_
  refine zi_goto (pc := 16) h (tgt := 23) zd_LA_rule_16 rfl ?_
  refine zi_iconst (pc := 23) h zd_LA_rule_23 zq_ic_0 ?_
  exact zi_ireturnW (pc := 24) h hr zd_LA_rule_24 rfl rfl

set_option maxRecDepth 20000 in
theorem zt_LA_rule {l : Launch} {G : zz_G} {F1 : Nat → va_E} {fs : List Value} {p0 p1 p2 p3 p4 : Int32} (h0 : F1 0 = .inr (0, fs)) (hM : zz_T l zy_PT_rule zb_PT_rule 6 (some .int) 6 90 G [.ref (G.2.2 0), .int p0, .int p1, .int p2, .int p3, .int p4] F1 "java/lang/IllegalArgumentException") : zz_MW l zy_LA_rule zb_LA_rule 8 (some .int) [(0, 16, 19, 18)] 7 115 1 6 G [.ref (G.2.2 0), .int p0, .int p1, .int p2, .int p3, .int p4, .ref (G.2.2 41)] F1 (some (.int 1)) F1 := by
  refine zz_MW.of (by decide) (Nat.le_of_ble_eq_true rfl) ?_
  intro X hX h hZ hr hc hex
  subst hX
  have h : zz_C X G (zz_A G.2.2) 8 zb_LA_rule "PortTranslatorLaw" 7 115 0 0 := h
  refine zi_aload (pc := 0) h (i := 6) zd_LA_rule_0 6 rfl ?_
  refine zi_iconst (pc := 2) h zd_LA_rule_2 zq_ic_0 ?_
  refine zi_aload_n (pc := 3) h (i := 0) zd_LA_rule_3 rfl 0 rfl ?_
  refine zi_iload_n (pc := 4) h (i := 1) zd_LA_rule_4 rfl 1 rfl ?_
  refine zi_iload_n (pc := 5) h (i := 2) zd_LA_rule_5 rfl 2 rfl ?_
  refine zi_iload_n (pc := 6) h (i := 3) zd_LA_rule_6 rfl 3 rfl ?_
  refine zi_iload (pc := 7) h (i := 4) zd_LA_rule_7 4 rfl ?_
  refine zi_iload (pc := 9) h (i := 5) zd_LA_rule_9 5 rfl ?_
  obtain ⟨x1, hs, k1, k2, k3, k4⟩ := zz_one hex
  refine zi_callT (pc := 11) h hZ (st := [.int 0, .ref (G.2.2 41)]) (hpc := 19) hM zm_PT_rule zw_544 zx_PT zq_k0 h0 ⟨by decide, by decide⟩ (by have := hc; omega) zd_LA_rule_11 (Nat.le_of_ble_eq_true rfl) rfl (fun T2 ls x ce g1 g2 g3 g4 g5 g6 g7 => by have q := zt_first (own := "PortTranslatorLaw") (cls := "java/lang/IllegalArgumentException") (args := X.2.2.2.2.2.2.1) g1 g2 (g := F0 X.2.2.2.2.2.1 11 ls [.int 0, .ref (G.2.2 41)]) rfl g3 g4 hs (by simp only [covers, k1, k2]; decide) (by rw [k4]; decide) h.ow (by rw [k4]; exact h.wd _ zw_509) g5 g6 g7; rw [k3] at q; exact q) (fun x => ?_)
  replace h := h.grow (kc' := 0 + 1) (ks' := 0 + 6) (by have := hc; omega) (by have := hc; omega)
  refine zi_astore (pc := 19) h (i := 7) (L' := [(7, _), (0, _), (1, _), (2, _), (3, _), (4, _), (5, _), (6, _)]) zd_LA_rule_19 (by decide) rfl ?_
  refine zi_iconst (pc := 21) h zd_LA_rule_21 zq_ic_1 ?_
  exact zi_ireturnW (pc := 22) h hr zd_LA_rule_22 rfl rfl

set_option maxRecDepth 20000 in
theorem zc_LA_forget {l : Launch} {G : zz_G} {F1 F2 : Nat → va_E} {fs : List Value} {o : Nat → Int64} {x p0 : Int32} (h0 : F1 0 = .inr (0, fs)) (h41 : F2 41 = .inl (G.2.1 2, 1, .inr (.inl o))) (hM : zz_M l zy_PT_forget zb_PT_forget 2 (some .int) 1 40 G [.ref (G.2.2 0), .int p0] F1 (some (.int x)) F2) : zz_MW l zy_LA_forget zb_LA_forget 4 (some .int) [(0, 9, 12, 18)] 7 111 0 0 G [.ref (G.2.2 0), .int p0, .ref (G.2.2 41)] F1 (some (.int 0)) (va_up F2 41 (.inl (G.2.1 2, 1, .inr (.inl (vp_updL o 0 x.toInt64))))) := by
  refine zz_MW.of (by decide) (Nat.le_of_ble_eq_true rfl) ?_
  intro X hX h hZ hr hc hex
  subst hX
  have h : zz_C X G (zz_A G.2.2) 4 zb_LA_forget "PortTranslatorLaw" 7 111 0 0 := h
  refine zi_aload_n (pc := 0) h (i := 2) zd_LA_forget_0 rfl 2 rfl ?_
  refine zi_iconst (pc := 1) h zd_LA_forget_1 zq_ic_0 ?_
  refine zi_aload_n (pc := 2) h (i := 0) zd_LA_forget_2 rfl 0 rfl ?_
  refine zi_iload_n (pc := 3) h (i := 1) zd_LA_forget_3 rfl 1 rfl ?_
  refine zi_callV (pc := 4) h (st := [_, _]) hM zm_PT_forget zw_563 zx_PT zq_k0 h0 ⟨by decide, by decide⟩ zd_LA_forget_4 (Nat.le_of_ble_eq_true rfl) rfl ?_
  refine zi_i2l (pc := 7) h zd_LA_forget_7 ?_
  refine zi_last (pc := 8) h 41 zq_k41 h41 zq_in_0_1 zd_LA_forget_8 rfl ?_
  refine zi_goto (pc := 9) h (tgt := 15) zd_LA_forget_9 rfl ?_
  refine zi_iconst (pc := 15) h zd_LA_forget_15 zq_ic_0 ?_
  exact zi_ireturnW (pc := 16) h hr zd_LA_forget_16 rfl rfl

set_option maxRecDepth 20000 in
theorem zt_LA_forget {l : Launch} {G : zz_G} {F1 : Nat → va_E} {fs : List Value} {p0 : Int32} (h0 : F1 0 = .inr (0, fs)) (hM : zz_T l zy_PT_forget zb_PT_forget 2 (some .int) 6 90 G [.ref (G.2.2 0), .int p0] F1 "java/lang/IllegalArgumentException") : zz_MW l zy_LA_forget zb_LA_forget 4 (some .int) [(0, 9, 12, 18)] 7 111 1 6 G [.ref (G.2.2 0), .int p0, .ref (G.2.2 41)] F1 (some (.int 1)) F1 := by
  refine zz_MW.of (by decide) (Nat.le_of_ble_eq_true rfl) ?_
  intro X hX h hZ hr hc hex
  subst hX
  have h : zz_C X G (zz_A G.2.2) 4 zb_LA_forget "PortTranslatorLaw" 7 111 0 0 := h
  refine zi_aload_n (pc := 0) h (i := 2) zd_LA_forget_0 rfl 2 rfl ?_
  refine zi_iconst (pc := 1) h zd_LA_forget_1 zq_ic_0 ?_
  refine zi_aload_n (pc := 2) h (i := 0) zd_LA_forget_2 rfl 0 rfl ?_
  refine zi_iload_n (pc := 3) h (i := 1) zd_LA_forget_3 rfl 1 rfl ?_
  obtain ⟨x1, hs, k1, k2, k3, k4⟩ := zz_one hex
  refine zi_callT (pc := 4) h hZ (st := [.int 0, .ref (G.2.2 41)]) (hpc := 12) hM zm_PT_forget zw_563 zx_PT zq_k0 h0 ⟨by decide, by decide⟩ (by have := hc; omega) zd_LA_forget_4 (Nat.le_of_ble_eq_true rfl) rfl (fun T2 ls x ce g1 g2 g3 g4 g5 g6 g7 => by have q := zt_first (own := "PortTranslatorLaw") (cls := "java/lang/IllegalArgumentException") (args := X.2.2.2.2.2.2.1) g1 g2 (g := F0 X.2.2.2.2.2.1 4 ls [.int 0, .ref (G.2.2 41)]) rfl g3 g4 hs (by simp only [covers, k1, k2]; decide) (by rw [k4]; decide) h.ow (by rw [k4]; exact h.wd _ zw_509) g5 g6 g7; rw [k3] at q; exact q) (fun x => ?_)
  replace h := h.grow (kc' := 0 + 1) (ks' := 0 + 6) (by have := hc; omega) (by have := hc; omega)
  refine zi_astore_n (pc := 12) h (i := 3) (L' := [(3, _), (0, _), (1, _), (2, _)]) zd_LA_forget_12 rfl (by decide) rfl ?_
  refine zi_iconst (pc := 13) h zd_LA_forget_13 zq_ic_1 ?_
  exact zi_ireturnW (pc := 14) h hr zd_LA_forget_14 rfl rfl

set_option maxRecDepth 20000 in
theorem zc_LA_flow {l : Launch} {G : zz_G} {F1 F2 : Nat → va_E} {fs : List Value} {o : Nat → Int64} {x p0 p1 : Int32} (h0 : F1 0 = .inr (0, fs)) (h41 : F2 41 = .inl (G.2.1 2, 1, .inr (.inl o))) (hM : zz_M l zy_PT_flow zb_PT_flow 3 (some .int) 1 40 G [.ref (G.2.2 0), .int p0, .int p1] F1 (some (.int x)) F2) : zz_MW l zy_LA_flow zb_LA_flow 5 (some .int) [(0, 10, 13, 13), (0, 10, 17, 18)] 7 112 0 0 G [.ref (G.2.2 0), .int p0, .int p1, .ref (G.2.2 41)] F1 (some (.int 0)) (va_up F2 41 (.inl (G.2.1 2, 1, .inr (.inl (vp_updL o 0 x.toInt64))))) := by
  refine zz_MW.of (by decide) (Nat.le_of_ble_eq_true rfl) ?_
  intro X hX h hZ hr hc hex
  subst hX
  have h : zz_C X G (zz_A G.2.2) 5 zb_LA_flow "PortTranslatorLaw" 7 112 0 0 := h
  refine zi_aload_n (pc := 0) h (i := 3) zd_LA_flow_0 rfl 3 rfl ?_
  refine zi_iconst (pc := 1) h zd_LA_flow_1 zq_ic_0 ?_
  refine zi_aload_n (pc := 2) h (i := 0) zd_LA_flow_2 rfl 0 rfl ?_
  refine zi_iload_n (pc := 3) h (i := 1) zd_LA_flow_3 rfl 1 rfl ?_
  refine zi_iload_n (pc := 4) h (i := 2) zd_LA_flow_4 rfl 2 rfl ?_
  refine zi_callV (pc := 5) h (st := [_, _]) hM zm_PT_flow zw_570 zx_PT zq_k0 h0 ⟨by decide, by decide⟩ zd_LA_flow_5 (Nat.le_of_ble_eq_true rfl) rfl ?_
  refine zi_i2l (pc := 8) h zd_LA_flow_8 ?_
  refine zi_last (pc := 9) h 41 zq_k41 h41 zq_in_0_1 zd_LA_flow_9 rfl ?_
  refine zi_goto (pc := 10) h (tgt := 21) zd_LA_flow_10 rfl ?_
  refine zi_iconst (pc := 21) h zd_LA_flow_21 zq_ic_0 ?_
  exact zi_ireturnW (pc := 22) h hr zd_LA_flow_22 rfl rfl

set_option maxRecDepth 20000 in
theorem zt_LA_flow {l : Launch} {G : zz_G} {F1 : Nat → va_E} {fs : List Value} {p0 p1 : Int32} (h0 : F1 0 = .inr (0, fs)) (hM : zz_T l zy_PT_flow zb_PT_flow 3 (some .int) 6 90 G [.ref (G.2.2 0), .int p0, .int p1] F1 "java/lang/IndexOutOfBoundsException") : zz_MW l zy_LA_flow zb_LA_flow 5 (some .int) [(0, 10, 13, 13), (0, 10, 17, 18)] 7 112 1 6 G [.ref (G.2.2 0), .int p0, .int p1, .ref (G.2.2 41)] F1 (some (.int 1)) F1 := by
  refine zz_MW.of (by decide) (Nat.le_of_ble_eq_true rfl) ?_
  intro X hX h hZ hr hc hex
  subst hX
  have h : zz_C X G (zz_A G.2.2) 5 zb_LA_flow "PortTranslatorLaw" 7 112 0 0 := h
  refine zi_aload_n (pc := 0) h (i := 3) zd_LA_flow_0 rfl 3 rfl ?_
  refine zi_iconst (pc := 1) h zd_LA_flow_1 zq_ic_0 ?_
  refine zi_aload_n (pc := 2) h (i := 0) zd_LA_flow_2 rfl 0 rfl ?_
  refine zi_iload_n (pc := 3) h (i := 1) zd_LA_flow_3 rfl 1 rfl ?_
  refine zi_iload_n (pc := 4) h (i := 2) zd_LA_flow_4 rfl 2 rfl ?_
  obtain ⟨x1, x2, hs, ⟨k1, k2, k3, k4⟩, j1, j2, j3, j4⟩ := zz_two hex
  refine zi_callT (pc := 5) h hZ (st := [.int 0, .ref (G.2.2 41)]) (hpc := 13) hM zm_PT_flow zw_570 zx_PT zq_k0 h0 ⟨by decide, by decide⟩ (by have := hc; omega) zd_LA_flow_5 (Nat.le_of_ble_eq_true rfl) rfl (fun T2 ls x ce g1 g2 g3 g4 g5 g6 g7 => by have q := zt_first (own := "PortTranslatorLaw") (cls := "java/lang/IndexOutOfBoundsException") (args := X.2.2.2.2.2.2.1) g1 g2 (g := F0 X.2.2.2.2.2.1 5 ls [.int 0, .ref (G.2.2 41)]) rfl g3 g4 hs (by simp only [covers, k1, k2]; decide) (by rw [k4]; decide) h.ow (by rw [k4]; exact h.wd _ zw_439) g5 g6 g7; rw [k3] at q; exact q) (fun x => ?_)
  replace h := h.grow (kc' := 0 + 1) (ks' := 0 + 6) (by have := hc; omega) (by have := hc; omega)
  refine zi_astore (pc := 13) h (i := 4) (L' := [(4, _), (0, _), (1, _), (2, _), (3, _)]) zd_LA_flow_13 (by decide) rfl ?_
  refine zi_iconst (pc := 15) h zd_LA_flow_15 zq_ic_1 ?_
  exact zi_ireturnW (pc := 16) h hr zd_LA_flow_16 rfl rfl

set_option maxRecDepth 20000 in
theorem zt_LA_flow2 {l : Launch} {G : zz_G} {F1 : Nat → va_E} {fs : List Value} {p0 p1 : Int32} (h0 : F1 0 = .inr (0, fs)) (hM : zz_T l zy_PT_flow zb_PT_flow 3 (some .int) 6 90 G [.ref (G.2.2 0), .int p0, .int p1] F1 "java/lang/IllegalArgumentException") : zz_MW l zy_LA_flow zb_LA_flow 5 (some .int) [(0, 10, 13, 13), (0, 10, 17, 18)] 7 112 1 6 G [.ref (G.2.2 0), .int p0, .int p1, .ref (G.2.2 41)] F1 (some (.int 2)) F1 := by
  refine zz_MW.of (by decide) (Nat.le_of_ble_eq_true rfl) ?_
  intro X hX h hZ hr hc hex
  subst hX
  have h : zz_C X G (zz_A G.2.2) 5 zb_LA_flow "PortTranslatorLaw" 7 112 0 0 := h
  refine zi_aload_n (pc := 0) h (i := 3) zd_LA_flow_0 rfl 3 rfl ?_
  refine zi_iconst (pc := 1) h zd_LA_flow_1 zq_ic_0 ?_
  refine zi_aload_n (pc := 2) h (i := 0) zd_LA_flow_2 rfl 0 rfl ?_
  refine zi_iload_n (pc := 3) h (i := 1) zd_LA_flow_3 rfl 1 rfl ?_
  refine zi_iload_n (pc := 4) h (i := 2) zd_LA_flow_4 rfl 2 rfl ?_
  obtain ⟨x1, x2, hs, ⟨k1, k2, k3, k4⟩, j1, j2, j3, j4⟩ := zz_two hex
  refine zi_callT (pc := 5) h hZ (st := [.int 0, .ref (G.2.2 41)]) (hpc := 17) hM zm_PT_flow zw_570 zx_PT zq_k0 h0 ⟨by decide, by decide⟩ (by have := hc; omega) zd_LA_flow_5 (Nat.le_of_ble_eq_true rfl) rfl (fun T2 ls x ce g1 g2 g3 g4 g5 g6 g7 => by have q := zt_second (own := "PortTranslatorLaw") (cls := "java/lang/IllegalArgumentException") (cls1 := "java/lang/IndexOutOfBoundsException") (args := X.2.2.2.2.2.2.1) g1 g2 (g := F0 X.2.2.2.2.2.1 5 ls [.int 0, .ref (G.2.2 41)]) rfl g3 g4 hs (by simp only [covers, k1, k2]; decide) (by rw [k4]; decide) (by simp only [covers, j1, j2]; decide) (by rw [j4]; decide) h.ow (by rw [k4]; exact h.wd _ zw_439) (by rw [j4]; exact h.wd _ zw_509) hZ.1.2 g5 g6 g7; rw [j3] at q; exact q) (fun x => ?_)
  replace h := h.grow (kc' := 0 + 1) (ks' := 0 + 6) (by have := hc; omega) (by have := hc; omega)
  refine zi_astore (pc := 17) h (i := 4) (L' := [(4, _), (0, _), (1, _), (2, _), (3, _)]) zd_LA_flow_17 (by decide) rfl ?_
  refine zi_iconst (pc := 19) h zd_LA_flow_19 zq_ic_2 ?_
  exact zi_ireturnW (pc := 20) h hr zd_LA_flow_20 rfl rfl
