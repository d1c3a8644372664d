theorem zo_route1 {l : Launch} {G : zz_G} {F : Nat → va_E} (h : zz_In G F) : zz_Ro l G 1 F := by
  obtain ⟨B, o, v, n, lv, la, nl, su, pm, c, fl, fa, ru, ra, cd, hB, rfl, hR⟩ := h
  have h16 := hR.2.2.2.1
  have hn := hR.1
  have hc := hR.2.2.1
  have hpm := hR.2.2.2.2.2.1
  have hinj := hR.2.2.2.2.2.2.1
  have hF := hR.2.2.2.2.2.2.2.1
  have hU := hR.2.2.2.2.2.2.2.2
  have hwf := zr_wf h16 hn
  by_cases w0 : zs_wf v n = 0
  · have j1 : zs_jdg v n = 1 := if_pos w0
    have m := zc_PT_route_j (l := l) (G := G) (F := zz_N G B v (nI n) la (nI nl) ra (nI c) fa cd) (v := v) (lv := lv) (lz := nI nl) (su := su) (pm := pm) (cn := nI c) (fl := fl) (ru := ru) (o := 1) hn (by rw [j1]; decide)
    rw [j1] at m
    exact ⟨1, _, _, _, _, m, zk_swapM (zc_MO_route_m hn (zr_tnn h16) (fun h10 => zr_bnn h16 hn h10 (v 4) _ rfl) (hwf.symm.trans w0)), rfl, rfl, ⟨B, o, v, 0, lv, la, nl, su, pm, c, fl, fa, ru, ra, 0, hB, rfl, Nat.zero_le _, hR.2⟩⟩
  have hw : ¬ zv_wl v n = 0 := fun q => w0 (hwf.trans q)
  by_cases t : 2 ≤ v 4 / 256
  case neg =>
    have j1 : zs_jdg v n = 3 := by
      unfold zs_jdg
      rw [if_neg w0, zr_shr8 (h16 4), if_neg t]
    have m := zc_PT_route_j (l := l) (G := G) (F := zz_N G B v (nI n) la (nI nl) ra (nI c) fa cd) (v := v) (lv := lv) (lz := nI nl) (su := su) (pm := pm) (cn := nI c) (fl := fl) (ru := ru) (o := 1) hn (by rw [j1]; decide)
    rw [j1] at m
    exact ⟨3, _, _, _, _, m, zk_swapM (zc_MO_route_t hn (zr_tnn h16) (fun h10 => zr_bnn h16 hn h10 (v 4) _ rfl) hw t), rfl, rfl, ⟨B, o, v, 0, lv, la, nl, su, pm, c, fl, fa, ru, ra, 0, hB, rfl, Nat.zero_le _, hR.2⟩⟩
  have hj : zs_jdg v n = 0 := by
    unfold zs_jdg
    rw [if_neg w0, zr_shr8 (h16 4), if_pos t]
  obtain ⟨h10, hk3⟩ := zr_wfk w0
  have hne : ∀ i, i < 12 → ∀ j, j < i → pm j ≠ pm i := fun i hi j hji q => by have := hinj j i (by omega) hi q; omega
  have eo : zv_err v = zs_err v := zr_err h16
  by_cases i1 : zv_ins (zs_adr v 6 7) = 0
  · exact zo_no1 hB hR hj hw t (an := 5) (x := -5) (fun _ => zc_PT_so_a i1) (fun _ => zc_MO_fo_1a i1) (by decide) (by decide) (by decide) (by decide)
  by_cases o1 : zv_out (zs_adr v 8 9) = 0
  · exact zo_no1 hB hR hj hw t (an := 5) (x := -5) (fun _ => zc_PT_so_b i1 o1) (fun _ => zc_MO_fo_1b i1 o1) (by decide) (by decide) (by decide) (by decide)
  by_cases he : zs_err v = 0
  · have ve : zv_err v = 0 := eo.trans he
    by_cases k1 : v 4 &&& 255 = 1
    · have es : zs_sbo v su = zs_rd su (v 4 &&& 255) 6 (zs_adr v 6 7) (zs_adr v 8 9) 12 0 (v 12) := by
        unfold zs_sbo
        rw [if_pos he, if_pos k1]
      have s0 : zs_sbo v su 0 = v 4 &&& 255 := by
        rw [es]
        rfl
      have s1 : zs_sbo v su 1 = zs_adr v 6 7 := by
        rw [es]
        rfl
      have s2 : zs_sbo v su 2 = v 12 := by
        rw [es]
        rfl
      have s3 : zs_sbo v su 3 = zs_adr v 8 9 := by
        rw [es]
        rfl
      have s4 : zs_sbo v su 4 = 0 := by
        rw [es]
        rfl
      have s5 : zs_sbo v su 5 = 6 := by
        rw [es]
        rfl
      have s6 : zs_sbo v su 6 = 12 := by
        rw [es]
        rfl
      have x1 : zz_ix (zs_sbo v su 5) 6 48 := by
        rw [s5]
        exact ⟨by decide, by decide, by decide⟩
      have x2 : zz_ix (zs_sbo v su 5 + 1) 7 48 := by
        rw [s5]
        exact ⟨by decide, by decide, by decide⟩
      have x3 : zz_ix (zs_sbo v su 6) 12 48 := by
        rw [s6]
        exact ⟨by decide, by decide, by decide⟩
      have ff := zr_fmi (zs_sbo v su) hF
      rw [s0, s1, s2, s3, s4] at ff
      cases hq : zs_ff (zs_mi pm fl (zs_sbo v su)) 0 c with
      | some i =>
        obtain ⟨hi0, hm⟩ := zr_ffS c 0 hq
        have hi : i < c := by omega
        have g := zr_miS hm
        obtain ⟨r1, r2, r3, r4, r5⟩ := zo_rw1n (l := l) (G := G) (la := la) (nl := nl) (ra := ra) (su := zs_sbo v su) h16 hn h10 t hk3 he (d := 12) hF hc hi (.inl ⟨k1, rfl⟩)
        exact zo_ok1 hB hR h10 hj hw t hF hc hi (fun _ => zc_PT_so_g1 hpm hc i1 o1 hq he hi (hne i (by omega)) x1 x2 x3) (fun _ => zc_MO_fo_11s hc i1 o1 ve k1 hi (ff.trans hq)) r1 r2 (.inl ⟨r3, r4, r5, g.1⟩)
      | none =>
        have hm := zr_may (v := v) hU (k := v 4 &&& 255) (o := zs_adr v 8 9) rfl s0 s3 (by rcases hk3 with w | w | w <;> rw [w] <;> decide)
        have hb : ∀ i, ru i 4 = 0 ∨ ru i 4 = 1 := fun i => (hU i).2.1
        have hb2 : ∀ i, ra 3 i = 0 ∨ ra 3 i = 1 := fun i => (hU i).2.2
        by_cases may : zs_may v (zs_sbo v su) ru = 0
        · exact zo_no1 hB hR hj hw t (an := 5) (x := -5) (fun _ => zc_PT_so_e hpm hc i1 o1 hq he hb may) (fun _ => zc_MO_fo_11n hc i1 o1 ve k1 (ff.trans hq) (zc_MO_begin_no hc hb2 (hm.trans may))) (by decide) (by decide) (by decide) (by decide)
        have may2 : ¬ zv_may v ra (v 4 &&& 255) (zs_adr v 8 9) = 0 := fun w => may (hm.symm.trans w)
        by_cases c12 : c = 12
        · subst c12
          exact zo_no1 hB hR hj hw t (an := 6) (x := -6) (fun _ => zc_PT_so_f1 hpm i1 o1 hq he hb may) (fun _ => zc_MO_fo_11n hc i1 o1 ve k1 (ff.trans hq) (zc_MO_begin_full hb2 may2)) (by decide) (by decide) (by decide) (by decide)
        have hc12 : c < 12 := by omega
        have pf : zv_pf fa c (v 4 &&& 255) (zs_adr v 6 7) (v 12) = if zs_bin pm fl (zs_sbo v su) 0 c = -1 then zs_lf pm fl c (zs_sbo v su 0) 0 6 else zs_bin pm fl (zs_sbo v su) 0 c := by
          rw [← zr_pf hF, s0, s1, s2]
        have mk : ∀ P, (∃ p, p < 6 ∧ P = nI (40000 + p)) → (∀ r, r < c → fl (pm r) 0 = zs_sbo v su 0 → fl (pm r) 1 = zs_sbo v su 1 → fl (pm r) 2 = zs_sbo v su 2 → fl (pm r) 5 = P) → zv_pf fa c (v 4 &&& 255) (zs_adr v 6 7) (v 12) = P → (∀ Fx, zz_M l zy_PT_sendOut zb_PT_sendOut 3 (some .int) 5 113 G [.ref (G.2.2 0)] (zz_K G Fx v (nI n) lv (nI nl) (zs_sbo v su) pm (nI c) fl ru) (some (.int 0)) (zz_K G Fx (zs_vo v (zs_sbo v su) pm (va_up fl (pm c) (zs_sta (fl (pm c)) (zs_sbo v su) P)) c 6 7 12) (nI n) lv (nI nl) (zs_sbo v su) (zs_nto (zs_vo v (zs_sbo v su) pm (va_up fl (pm c) (zs_sta (fl (pm c)) (zs_sbo v su) P)) c 6 7 12) (zs_sbo v su) pm (va_up fl (pm c) (zs_sta (fl (pm c)) (zs_sbo v su) P)) (c + 1) c).1 (nI (zs_nto (zs_vo v (zs_sbo v su) pm (va_up fl (pm c) (zs_sta (fl (pm c)) (zs_sbo v su) P)) c 6 7 12) (zs_sbo v su) pm (va_up fl (pm c) (zs_sta (fl (pm c)) (zs_sbo v su) P)) (c + 1) c).2.2) (zs_nto (zs_vo v (zs_sbo v su) pm (va_up fl (pm c) (zs_sta (fl (pm c)) (zs_sbo v su) P)) c 6 7 12) (zs_sbo v su) pm (va_up fl (pm c) (zs_sta (fl (pm c)) (zs_sbo v su) P)) (c + 1) c).2.1 ru)) → zz_Ro l G 1 (zz_S G B v n lv la nl su pm c fl fa ru ra cd) := by
          intro P hP hu hpf hPT
          have hFn := zr_new hF hinj hc12 (su := zs_sbo v su) (P := P) (by rw [s0]; rcases hk3 with w | w | w; exact .inr (.inl w); exact .inr (.inr w); exact .inl w) (by rw [s2]; exact h16 _) hP hu
          obtain ⟨r1, r2, r3, r4, r5⟩ := zo_rw1n (l := l) (G := G) (la := la) (nl := nl) (ra := ra) (su := zs_sbo v su) h16 hn h10 t hk3 he (d := 12) hFn hc12 (Nat.lt_succ_self c) (.inl ⟨k1, rfl⟩)
          refine zo_ok1 hB hR h10 hj hw t hFn hc12 (Nat.lt_succ_self c) hPT (fun Fx => ?_) r1 r2 (.inl ⟨r3, r4, r5, by rw [zz_eq]; rfl⟩)
          rw [s0, s1, s2, s3, s4]
          refine zc_MO_fo_11n hc i1 o1 ve k1 (ff.trans hq) ?_
          obtain ⟨p, hp, ep⟩ := hP
          have b := zc_MO_begin_ok (l := l) (G := G) (F := Fx) (w := v) (sz := nI n) (la := la) (lz := nI nl) (ra := ra) (fa := fa) (cd := 0) (k := v 4 &&& 255) (a := zs_adr v 6 7) (p := v 12) (o := zs_adr v 8 9) (q := 0) hc12 hb2 may2 (by rw [hpf, ep]; exact zr_pge hp)
          rw [hpf] at b
          exact b
        have hb0 := zr_binE (su := zs_sbo v su) hF c 0 (by omega)
        by_cases hbn : zs_bin pm fl (zs_sbo v su) 0 c = -1
        · rw [if_pos hbn] at pf
          by_cases hl : zs_lf pm fl c (zs_sbo v su 0) 0 6 = -1
          · exact zo_no1 hB hR hj hw t (an := 6) (x := -6) (fun _ => zc_PT_so_f2 hpm hc12 i1 o1 hq he hb may hbn hl) (fun _ => zc_MO_fo_11n hc i1 o1 ve k1 (ff.trans hq) (zc_MO_begin_nop hc12 hb2 may2 (by rw [pf, hl]; decide))) (by decide) (by decide) (by decide) (by decide)
          · refine mk _ ?_ ?_ pf (fun _ => zc_PT_so_h2 hpm hc12 i1 o1 hq he hb may hbn hl (hne c hc12) x1 x2 x3)
            · rcases zr_lfE (pm := pm) (fl := fl) (c := c) (zs_sbo v su 0) 6 0 (by decide) with w | w
              · exact absurd w hl
              · exact w
            · intro r hr a0 a1 a2
              rcases hb0 with ⟨-, w⟩ | ⟨r2, hr2, -, w⟩
              · exact absurd (w r (Nat.zero_le _) (by omega)) (zr_hinE.mpr ⟨a0, a1, a2⟩)
              · obtain ⟨p, hp, ep⟩ := (hF.1 r2 hr2).2.2.2.2.1
                rw [hbn, ep] at w
                exact absurd w.symm (zr_pne hp)
        · rw [if_neg hbn] at pf
          rcases hb0 with ⟨w, -⟩ | ⟨r2, hr2, ⟨b0, b1, b2⟩, w⟩
          · exact absurd w hbn
          refine mk _ ?_ ?_ pf (fun _ => zc_PT_so_h1 hpm hc12 i1 o1 hq he hb may hbn (hne c hc12) x1 x2 x3)
          · obtain ⟨p, hp, ep⟩ := (hF.1 r2 hr2).2.2.2.2.1
            exact ⟨p, hp, w.trans ep⟩
          · intro r hr a0 a1 a2
            exact (hF.2 r r2 hr hr2 (a0.trans b0.symm) (a1.trans b1.symm) (a2.trans b2.symm)).trans w.symm
    · have es : zs_sbo v su = zs_rd su (v 4 &&& 255) 6 (zs_adr v 6 7) (zs_adr v 8 9) 10 (v 11) (v 10) := by
        unfold zs_sbo
        rw [if_pos he, if_neg k1]
      have s0 : zs_sbo v su 0 = v 4 &&& 255 := by
        rw [es]
        rfl
      have s1 : zs_sbo v su 1 = zs_adr v 6 7 := by
        rw [es]
        rfl
      have s2 : zs_sbo v su 2 = v 10 := by
        rw [es]
        rfl
      have s3 : zs_sbo v su 3 = zs_adr v 8 9 := by
        rw [es]
        rfl
      have s4 : zs_sbo v su 4 = v 11 := by
        rw [es]
        rfl
      have s5 : zs_sbo v su 5 = 6 := by
        rw [es]
        rfl
      have s6 : zs_sbo v su 6 = 10 := by
        rw [es]
        rfl
      have x1 : zz_ix (zs_sbo v su 5) 6 48 := by
        rw [s5]
        exact ⟨by decide, by decide, by decide⟩
      have x2 : zz_ix (zs_sbo v su 5 + 1) 7 48 := by
        rw [s5]
        exact ⟨by decide, by decide, by decide⟩
      have x3 : zz_ix (zs_sbo v su 6) 10 48 := by
        rw [s6]
        exact ⟨by decide, by decide, by decide⟩
      have ff := zr_fmi (zs_sbo v su) hF
      rw [s0, s1, s2, s3, s4] at ff
      cases hq : zs_ff (zs_mi pm fl (zs_sbo v su)) 0 c with
      | some i =>
        obtain ⟨hi0, hm⟩ := zr_ffS c 0 hq
        have hi : i < c := by omega
        have g := zr_miS hm
        obtain ⟨r1, r2, r3, r4, r5⟩ := zo_rw1n (l := l) (G := G) (la := la) (nl := nl) (ra := ra) (su := zs_sbo v su) h16 hn h10 t hk3 he (d := 10) hF hc hi (.inr ⟨k1, rfl⟩)
        exact zo_ok1 hB hR h10 hj hw t hF hc hi (fun _ => zc_PT_so_g1 hpm hc i1 o1 hq he hi (hne i (by omega)) x1 x2 x3) (fun _ => zc_MO_fo_10s hc i1 o1 ve k1 hi (ff.trans hq)) r1 r2 (.inl ⟨r3, r4, r5, g.1⟩)
      | none =>
        have hm := zr_may (v := v) hU (k := v 4 &&& 255) (o := zs_adr v 8 9) rfl s0 s3 (by rcases hk3 with w | w | w <;> rw [w] <;> decide)
        have hb : ∀ i, ru i 4 = 0 ∨ ru i 4 = 1 := fun i => (hU i).2.1
        have hb2 : ∀ i, ra 3 i = 0 ∨ ra 3 i = 1 := fun i => (hU i).2.2
        by_cases may : zs_may v (zs_sbo v su) ru = 0
        · exact zo_no1 hB hR hj hw t (an := 5) (x := -5) (fun _ => zc_PT_so_e hpm hc i1 o1 hq he hb may) (fun _ => zc_MO_fo_10n hc i1 o1 ve k1 (ff.trans hq) (zc_MO_begin_no hc hb2 (hm.trans may))) (by decide) (by decide) (by decide) (by decide)
        have may2 : ¬ zv_may v ra (v 4 &&& 255) (zs_adr v 8 9) = 0 := fun w => may (hm.symm.trans w)
        by_cases c12 : c = 12
        · subst c12
          exact zo_no1 hB hR hj hw t (an := 6) (x := -6) (fun _ => zc_PT_so_f1 hpm i1 o1 hq he hb may) (fun _ => zc_MO_fo_10n hc i1 o1 ve k1 (ff.trans hq) (zc_MO_begin_full hb2 may2)) (by decide) (by decide) (by decide) (by decide)
        have hc12 : c < 12 := by omega
        have pf : zv_pf fa c (v 4 &&& 255) (zs_adr v 6 7) (v 10) = if zs_bin pm fl (zs_sbo v su) 0 c = -1 then zs_lf pm fl c (zs_sbo v su 0) 0 6 else zs_bin pm fl (zs_sbo v su) 0 c := by
          rw [← zr_pf hF, s0, s1, s2]
        have mk : ∀ P, (∃ p, p < 6 ∧ P = nI (40000 + p)) → (∀ r, r < c → fl (pm r) 0 = zs_sbo v su 0 → fl (pm r) 1 = zs_sbo v su 1 → fl (pm r) 2 = zs_sbo v su 2 → fl (pm r) 5 = P) → zv_pf fa c (v 4 &&& 255) (zs_adr v 6 7) (v 10) = P → (∀ Fx, zz_M l zy_PT_sendOut zb_PT_sendOut 3 (some .int) 5 113 G [.ref (G.2.2 0)] (zz_K G Fx v (nI n) lv (nI nl) (zs_sbo v su) pm (nI c) fl ru) (some (.int 0)) (zz_K G Fx (zs_vo v (zs_sbo v su) pm (va_up fl (pm c) (zs_sta (fl (pm c)) (zs_sbo v su) P)) c 6 7 10) (nI n) lv (nI nl) (zs_sbo v su) (zs_nto (zs_vo v (zs_sbo v su) pm (va_up fl (pm c) (zs_sta (fl (pm c)) (zs_sbo v su) P)) c 6 7 10) (zs_sbo v su) pm (va_up fl (pm c) (zs_sta (fl (pm c)) (zs_sbo v su) P)) (c + 1) c).1 (nI (zs_nto (zs_vo v (zs_sbo v su) pm (va_up fl (pm c) (zs_sta (fl (pm c)) (zs_sbo v su) P)) c 6 7 10) (zs_sbo v su) pm (va_up fl (pm c) (zs_sta (fl (pm c)) (zs_sbo v su) P)) (c + 1) c).2.2) (zs_nto (zs_vo v (zs_sbo v su) pm (va_up fl (pm c) (zs_sta (fl (pm c)) (zs_sbo v su) P)) c 6 7 10) (zs_sbo v su) pm (va_up fl (pm c) (zs_sta (fl (pm c)) (zs_sbo v su) P)) (c + 1) c).2.1 ru)) → zz_Ro l G 1 (zz_S G B v n lv la nl su pm c fl fa ru ra cd) := by
          intro P hP hu hpf hPT
          have hFn := zr_new hF hinj hc12 (su := zs_sbo v su) (P := P) (by rw [s0]; rcases hk3 with w | w | w; exact .inr (.inl w); exact .inr (.inr w); exact .inl w) (by rw [s2]; exact h16 _) hP hu
          obtain ⟨r1, r2, r3, r4, r5⟩ := zo_rw1n (l := l) (G := G) (la := la) (nl := nl) (ra := ra) (su := zs_sbo v su) h16 hn h10 t hk3 he (d := 10) hFn hc12 (Nat.lt_succ_self c) (.inr ⟨k1, rfl⟩)
          refine zo_ok1 hB hR h10 hj hw t hFn hc12 (Nat.lt_succ_self c) hPT (fun Fx => ?_) r1 r2 (.inl ⟨r3, r4, r5, by rw [zz_eq]; rfl⟩)
          rw [s0, s1, s2, s3, s4]
          refine zc_MO_fo_10n hc i1 o1 ve k1 (ff.trans hq) ?_
          obtain ⟨p, hp, ep⟩ := hP
          have b := zc_MO_begin_ok (l := l) (G := G) (F := Fx) (w := v) (sz := nI n) (la := la) (lz := nI nl) (ra := ra) (fa := fa) (cd := 0) (k := v 4 &&& 255) (a := zs_adr v 6 7) (p := v 10) (o := zs_adr v 8 9) (q := v 11) hc12 hb2 may2 (by rw [hpf, ep]; exact zr_pge hp)
          rw [hpf] at b
          exact b
        have hb0 := zr_binE (su := zs_sbo v su) hF c 0 (by omega)
        by_cases hbn : zs_bin pm fl (zs_sbo v su) 0 c = -1
        · rw [if_pos hbn] at pf
          by_cases hl : zs_lf pm fl c (zs_sbo v su 0) 0 6 = -1
          · exact zo_no1 hB hR hj hw t (an := 6) (x := -6) (fun _ => zc_PT_so_f2 hpm hc12 i1 o1 hq he hb may hbn hl) (fun _ => zc_MO_fo_10n hc i1 o1 ve k1 (ff.trans hq) (zc_MO_begin_nop hc12 hb2 may2 (by rw [pf, hl]; decide))) (by decide) (by decide) (by decide) (by decide)
          · refine mk _ ?_ ?_ pf (fun _ => zc_PT_so_h2 hpm hc12 i1 o1 hq he hb may hbn hl (hne c hc12) x1 x2 x3)
            · rcases zr_lfE (pm := pm) (fl := fl) (c := c) (zs_sbo v su 0) 6 0 (by decide) with w | w
              · exact absurd w hl
              · exact w
            · intro r hr a0 a1 a2
              rcases hb0 with ⟨-, w⟩ | ⟨r2, hr2, -, w⟩
              · exact absurd (w r (Nat.zero_le _) (by omega)) (zr_hinE.mpr ⟨a0, a1, a2⟩)
              · obtain ⟨p, hp, ep⟩ := (hF.1 r2 hr2).2.2.2.2.1
                rw [hbn, ep] at w
                exact absurd w.symm (zr_pne hp)
        · rw [if_neg hbn] at pf
          rcases hb0 with ⟨w, -⟩ | ⟨r2, hr2, ⟨b0, b1, b2⟩, w⟩
          · exact absurd w hbn
          refine mk _ ?_ ?_ pf (fun _ => zc_PT_so_h1 hpm hc12 i1 o1 hq he hb may hbn (hne c hc12) x1 x2 x3)
          · obtain ⟨p, hp, ep⟩ := (hF.1 r2 hr2).2.2.2.2.1
            exact ⟨p, hp, w.trans ep⟩
          · intro r hr a0 a1 a2
            exact (hF.2 r r2 hr hr2 (a0.trans b0.symm) (a1.trans b1.symm) (a2.trans b2.symm)).trans w.symm
  · have ve : ¬ zv_err v = 0 := fun w => he (eo.symm.trans w)
    by_cases k2 : v 18 &&& 255 = 1
    · have es : zs_sbo v su = zs_rd su (v 18 &&& 255) 22 (zs_adr v 22 23) (zs_adr v 20 21) 26 0 (v 26) := by
        unfold zs_sbo
        rw [if_neg he, if_pos k2]
      have s0 : zs_sbo v su 0 = v 18 &&& 255 := by
        rw [es]
        rfl
      have s1 : zs_sbo v su 1 = zs_adr v 22 23 := by
        rw [es]
        rfl
      have s2 : zs_sbo v su 2 = v 26 := by
        rw [es]
        rfl
      have s3 : zs_sbo v su 3 = zs_adr v 20 21 := by
        rw [es]
        rfl
      have s4 : zs_sbo v su 4 = 0 := by
        rw [es]
        rfl
      have s5 : zs_sbo v su 5 = 22 := by
        rw [es]
        rfl
      have s6 : zs_sbo v su 6 = 26 := by
        rw [es]
        rfl
      have x1 : zz_ix (zs_sbo v su 5) 22 48 := by
        rw [s5]
        exact ⟨by decide, by decide, by decide⟩
      have x2 : zz_ix (zs_sbo v su 5 + 1) 23 48 := by
        rw [s5]
        exact ⟨by decide, by decide, by decide⟩
      have x3 : zz_ix (zs_sbo v su 6) 26 48 := by
        rw [s6]
        exact ⟨by decide, by decide, by decide⟩
      have ff := zr_fmi (zs_sbo v su) hF
      rw [s0, s1, s2, s3, s4] at ff
      by_cases hf : zs_adr v 22 23 = zs_adr v 6 7
      · cases hq : zs_ff (zs_mi pm fl (zs_sbo v su)) 0 c with
        | some i =>
          obtain ⟨hi0, hm⟩ := zr_ffS c 0 hq
          have hi : i < c := by omega
          have g := zr_miS hm
          obtain ⟨r1, r2, r3, r4⟩ := zo_rw1e (l := l) (G := G) (la := la) (nl := nl) (ra := ra) (su := zs_sbo v su) h16 hn h10 t he (d := 26) hF hc hi (.inl ⟨k2, rfl⟩) s1 s2
          exact zo_ok1 hB hR h10 hj hw t hF hc hi (fun _ => zc_PT_so_g2 hpm hc i1 o1 hq he (g.2.1.trans (s1.trans hf)) hi (hne i (by omega)) x1 x2 x3) (fun _ => zc_MO_fo_1e i1 o1 ve (zc_MO_foe_11s hc hi k2 hf (ff.trans hq))) r1 r2 (.inr ⟨r3, r4⟩)
        | none => exact zo_no1 hB hR hj hw t (an := 5) (x := -5) (fun _ => zc_PT_so_c hpm hc i1 o1 hq he) (fun _ => zc_MO_fo_1e i1 o1 ve (zc_MO_foe_11n hc k2 hf (ff.trans hq))) (by decide) (by decide) (by decide) (by decide)
      · cases hq : zs_ff (zs_mi pm fl (zs_sbo v su)) 0 c with
        | some i =>
          obtain ⟨hi0, hm⟩ := zr_ffS c 0 hq
          have g := zr_miS hm
          exact zo_no1 hB hR hj hw t (an := 5) (x := -5) (fun _ => zc_PT_so_d hpm hc i1 o1 hq he (fun w => hf ((s1.symm.trans g.2.1.symm).trans w))) (fun _ => zc_MO_fo_1e i1 o1 ve (zc_MO_foe_11x k2 hf)) (by decide) (by decide) (by decide) (by decide)
        | none => exact zo_no1 hB hR hj hw t (an := 5) (x := -5) (fun _ => zc_PT_so_c hpm hc i1 o1 hq he) (fun _ => zc_MO_fo_1e i1 o1 ve (zc_MO_foe_11x k2 hf)) (by decide) (by decide) (by decide) (by decide)
    · have es : zs_sbo v su = zs_rd su (v 18 &&& 255) 22 (zs_adr v 22 23) (zs_adr v 20 21) 25 (v 24) (v 25) := by
        unfold zs_sbo
        rw [if_neg he, if_neg k2]
      have s0 : zs_sbo v su 0 = v 18 &&& 255 := by
        rw [es]
        rfl
      have s1 : zs_sbo v su 1 = zs_adr v 22 23 := by
        rw [es]
        rfl
      have s2 : zs_sbo v su 2 = v 25 := by
        rw [es]
        rfl
      have s3 : zs_sbo v su 3 = zs_adr v 20 21 := by
        rw [es]
        rfl
      have s4 : zs_sbo v su 4 = v 24 := by
        rw [es]
        rfl
      have s5 : zs_sbo v su 5 = 22 := by
        rw [es]
        rfl
      have s6 : zs_sbo v su 6 = 25 := by
        rw [es]
        rfl
      have x1 : zz_ix (zs_sbo v su 5) 22 48 := by
        rw [s5]
        exact ⟨by decide, by decide, by decide⟩
      have x2 : zz_ix (zs_sbo v su 5 + 1) 23 48 := by
        rw [s5]
        exact ⟨by decide, by decide, by decide⟩
      have x3 : zz_ix (zs_sbo v su 6) 25 48 := by
        rw [s6]
        exact ⟨by decide, by decide, by decide⟩
      have ff := zr_fmi (zs_sbo v su) hF
      rw [s0, s1, s2, s3, s4] at ff
      by_cases hf : zs_adr v 22 23 = zs_adr v 6 7
      · cases hq : zs_ff (zs_mi pm fl (zs_sbo v su)) 0 c with
        | some i =>
          obtain ⟨hi0, hm⟩ := zr_ffS c 0 hq
          have hi : i < c := by omega
          have g := zr_miS hm
          obtain ⟨r1, r2, r3, r4⟩ := zo_rw1e (l := l) (G := G) (la := la) (nl := nl) (ra := ra) (su := zs_sbo v su) h16 hn h10 t he (d := 25) hF hc hi (.inr ⟨k2, rfl⟩) s1 s2
          exact zo_ok1 hB hR h10 hj hw t hF hc hi (fun _ => zc_PT_so_g2 hpm hc i1 o1 hq he (g.2.1.trans (s1.trans hf)) hi (hne i (by omega)) x1 x2 x3) (fun _ => zc_MO_fo_1e i1 o1 ve (zc_MO_foe_10s hc hi k2 hf (ff.trans hq))) r1 r2 (.inr ⟨r3, r4⟩)
        | none => exact zo_no1 hB hR hj hw t (an := 5) (x := -5) (fun _ => zc_PT_so_c hpm hc i1 o1 hq he) (fun _ => zc_MO_fo_1e i1 o1 ve (zc_MO_foe_10n hc k2 hf (ff.trans hq))) (by decide) (by decide) (by decide) (by decide)
      · cases hq : zs_ff (zs_mi pm fl (zs_sbo v su)) 0 c with
        | some i =>
          obtain ⟨hi0, hm⟩ := zr_ffS c 0 hq
          have g := zr_miS hm
          exact zo_no1 hB hR hj hw t (an := 5) (x := -5) (fun _ => zc_PT_so_d hpm hc i1 o1 hq he (fun w => hf ((s1.symm.trans g.2.1.symm).trans w))) (fun _ => zc_MO_fo_1e i1 o1 ve (zc_MO_foe_10x k2 hf)) (by decide) (by decide) (by decide) (by decide)
        | none => exact zo_no1 hB hR hj hw t (an := 5) (x := -5) (fun _ => zc_PT_so_c hpm hc i1 o1 hq he) (fun _ => zc_MO_fo_1e i1 o1 ve (zc_MO_foe_10x k2 hf)) (by decide) (by decide) (by decide) (by decide)
