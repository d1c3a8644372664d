section
variable {l : Launch} {G : zz_G} {B : Nat → va_E} {o : Nat → Int64} {v : Nat → Int32} {n : Nat} {lv la : Nat → Int32} {nl : Nat} {su : Nat → Int32} {pm : Nat → Nat} {c : Nat} {fl fa ru ra : Nat → Nat → Int32} {cd : Int32}
theorem zo_no0 (hB : B 41 = .inl (G.2.1 2, 1, .inr (.inl o))) (hR : zr_R v n lv la nl pm c fl fa ru ra) (hj : zs_jdg v n = 0) (hw : ¬ zv_wl v n = 0) (ht : 2 ≤ v 4 / 256) {an x : Int32}
    (hPT : ∀ Fx, zz_M l zy_PT_letIn zb_PT_letIn 2 (some .int) 5 113 G [.ref (G.2.2 0)] (zz_K G Fx v (nI n) lv (nI nl) (zs_sbi v su) pm (nI c) fl ru) (some (.int an)) (zz_K G Fx v (nI n) lv (nI nl) (zs_sbi v su) pm (nI c) fl ru))
    (hMO : ∀ Fx, zz_M l zy_MO_flowOf zb_MO_flowOf 8 (some .int) 2 54 G [.ref (G.2.2 26), .int 0] (zz_N G Fx v (nI n) la (nI nl) ra (nI c) fa 0) (some (.int x)) (zz_N G Fx v (nI n) la (nI nl) ra (nI c) fa 0))
    (ha : ¬ an = 0) (hx : ¬ 0 ≤ x) (hx2 : x < 0) (hxa : -x = an) : zz_Ro l G 0 (zz_S G B v n lv la nl su pm c fl fa ru ra cd) := by
  have h16 := hR.2.2.2.1
  have hn := hR.1
  refine ⟨an, _, _, _, _, zc_PT_route_i_no hn hj (hPT _) ha, ?_, rfl, rfl, ⟨B, o, v, 0, lv, la, nl, zs_sbi v su, pm, c, fl, fa, ru, ra, 0, hB, rfl, Nat.zero_le _, hR.2⟩⟩
  have q := zc_MO_route_0n (l := l) (G := G) (F := zz_K G B v (nI 0) lv (nI nl) (zs_sbi v su) pm (nI c) fl ru) (cd := cd) hn (zr_tnn h16) (fun h10 => zr_bnn h16 hn h10 (v 4) _ rfl) hw ht (hMO _) hx hx2
  rw [hxa] at q
  exact zk_swapM q
theorem zo_ok0 (hB : B 41 = .inl (G.2.1 2, 1, .inr (.inl o))) (hR : zr_R v n lv la nl pm c fl fa ru ra) (h10 : 10 ≤ n) (hj : zs_jdg v n = 0) (hw : ¬ zv_wl v n = 0) (ht : 2 ≤ v 4 / 256) {c2 i : Nat} {fl2 fa2 : Nat → Nat → Int32} {W : Nat → Int32} (hF2 : zr_F pm c2 fl2 fa2) (hc2 : c2 ≤ 12) (hi : i < c2)
    (hPT : ∀ Fx, zz_M l zy_PT_letIn zb_PT_letIn 2 (some .int) 5 113 G [.ref (G.2.2 0)] (zz_K G Fx v (nI n) lv (nI nl) (zs_sbi v su) pm (nI c) fl ru) (some (.int 0)) (zz_K G Fx W (nI n) lv (nI nl) (zs_sbi v su) (zs_nti W (zs_sbi v su) pm fl2 c2 i).1 (nI (zs_nti W (zs_sbi v su) pm fl2 c2 i).2.2) (zs_nti W (zs_sbi v su) pm fl2 c2 i).2.1 ru))
    (hMO : ∀ Fx, zz_M l zy_MO_flowOf zb_MO_flowOf 8 (some .int) 2 54 G [.ref (G.2.2 26), .int 0] (zz_N G Fx v (nI n) la (nI nl) ra (nI c) fa 0) (some (.int (nI i))) (zz_N G Fx v (nI n) la (nI nl) ra (nI c2) fa2 0))
    (hRW : ∀ Fx, zz_M l zy_MO_rewrite zb_MO_rewrite 7 none 3 69 G [.ref (G.2.2 26), .int 0, .int (nI i)] (zz_N G Fx v (nI n) la (nI nl) ra (nI c2) fa2 0) none (zz_N G Fx (zs_wcs W n) (nI n) la (nI nl) ra (nI c2) fa2 0))
    (hW : ∀ j, zr_16 (zs_wcs W n j))
    (herr : (zs_err W = 0 ∧ zv_err (zs_wcs W n) = 0 ∧ zs_wcs W n 16 = W 16 ∧ fl2 (pm i) 0 = zs_sbi v su 0) ∨ ((¬ zs_err W = 0) ∧ ¬ zv_err (zs_wcs W n) = 0)) : zz_Ro l G 0 (zz_S G B v n lv la nl su pm c fl fa ru ra cd) := by
  have h16 := hR.2.2.2.1
  have hn := hR.1
  have hp := hR.2.2.2.2.2.1
  have hin := hR.2.2.2.2.2.2.1
  have hcp : ∀ j, j < n → zv_cp (zs_wcs W n) la 0 n j = va_cpy (zs_wcs W n) lv 0 0 48 j := by
    intro j hj2
    rw [zr_cp, if_pos (by omega), pk_cpy_in (Nat.zero_le _) (by omega), Nat.zero_add, Nat.sub_zero]
  rcases herr with ⟨e1, e2, e3, e4⟩ | ⟨e1, e2⟩
  · obtain ⟨g1, g2, g3, g4, g5⟩ := zr_nti (v := W) (w := zs_wcs W n) (su := zs_sbi v su) hF2 hp hin hc2 hi e1 e3 e4
    refine ⟨0, _, _, _, _, zc_PT_route_i_ok hn h10 hj (hPT _), ?_, rfl, rfl, ⟨B, o, zs_wcs W n, 0, va_cpy (zs_wcs W n) lv 0 0 48, zv_cp (zs_wcs W n) la 0 n, n, zs_sbi v su, (zs_nti W (zs_sbi v su) pm fl2 c2 i).1, (zs_nti W (zs_sbi v su) pm fl2 c2 i).2.2, (zs_nti W (zs_sbi v su) pm fl2 c2 i).2.1, (zv_tci (zs_wcs W n) fa2 c2 i).1, ru, ra, 0, hB, rfl, Nat.zero_le _, hn, Nat.le_trans g2 hc2, hW, hcp, g3, g4, g5, hR.2.2.2.2.2.2.2.2⟩⟩
    have q := zc_MO_route_0k (l := l) (G := G) (F := zz_K G B (zs_wcs W n) (nI 0) (va_cpy (zs_wcs W n) lv 0 0 48) (nI n) (zs_sbi v su) (zs_nti W (zs_sbi v su) pm fl2 c2 i).1 (nI (zs_nti W (zs_sbi v su) pm fl2 c2 i).2.2) (zs_nti W (zs_sbi v su) pm fl2 c2 i).2.1 ru) (cd := cd) hn (zr_tnn h16) (fun h10 => zr_bnn h16 hn h10 (v 4) _ rfl) hw ht (i := i) (by omega) (hMO _) (hRW _) e2 (zc_MO_touch_i hc2 hi)
    rw [g1] at q
    exact zk_swapM q
  · have en : zs_nti W (zs_sbi v su) pm fl2 c2 i = (pm, fl2, c2) := if_neg e1
    rw [en] at hPT
    refine ⟨0, _, _, _, _, zc_PT_route_i_ok hn h10 hj (hPT _), ?_, rfl, rfl, ⟨B, o, zs_wcs W n, 0, va_cpy (zs_wcs W n) lv 0 0 48, zv_cp (zs_wcs W n) la 0 n, n, zs_sbi v su, pm, c2, fl2, fa2, ru, ra, 0, hB, rfl, Nat.zero_le _, hn, hc2, hW, hcp, hp, hin, hF2, hR.2.2.2.2.2.2.2.2⟩⟩
    exact zk_swapM (zc_MO_route_0e (l := l) (G := G) (F := zz_K G B (zs_wcs W n) (nI 0) (va_cpy (zs_wcs W n) lv 0 0 48) (nI n) (zs_sbi v su) pm (nI c2) fl2 ru) (cd := cd) hn (zr_tnn h16) (fun h10 => zr_bnn h16 hn h10 (v 4) _ rfl) hw ht (i := i) (by omega) (hMO _) (hRW _) e2)
theorem zo_rw0n (h16 : ∀ j, zr_16 (v j)) (hn : n ≤ 48) (h10 : 10 ≤ n) (ht : 2 ≤ v 4 / 256) (hk3 : v 4 &&& 255 = 6 ∨ v 4 &&& 255 = 17 ∨ v 4 &&& 255 = 1) (he : zs_err v = 0) {d c2 i : Nat} {fa2 fl2 : Nat → Nat → Int32} (hF2 : zr_F pm c2 fl2 fa2) (hc2 : c2 ≤ 12) (hi : i < c2) (hd : v 4 &&& 255 = 1 ∧ d = 12 ∨ (¬ v 4 &&& 255 = 1) ∧ d = 11) :
    (∀ Fx, zz_M l zy_MO_rewrite zb_MO_rewrite 7 none 3 69 G [.ref (G.2.2 26), .int 0, .int (nI i)] (zz_N G Fx v (nI n) la (nI nl) ra (nI c2) fa2 0) none (zz_N G Fx (zs_wcs (zs_vi v su pm fl2 i 8 9 d) n) (nI n) la (nI nl) ra (nI c2) fa2 0)) ∧ (∀ j, zr_16 (zs_wcs (zs_vi v su pm fl2 i 8 9 d) n j)) ∧ zs_err (zs_vi v su pm fl2 i 8 9 d) = 0 ∧ zv_err (zs_wcs (zs_vi v su pm fl2 i 8 9 d) n) = 0 ∧ zs_wcs (zs_vi v su pm fl2 i 8 9 d) n 16 = zs_vi v su pm fl2 i 8 9 d 16 := by
  have q := hF2.1 i hi
  have e1 : fa2 1 i = fl2 (pm i) 1 := q.1 1 (by decide)
  have e2 : fa2 2 i = fl2 (pm i) 2 := q.1 2 (by decide)
  have hP : zr_16 (fl2 (pm i) 2) := q.2.2.2.1
  have qd : 4 ≠ d ∧ 16 ≠ d := by rcases hd with ⟨-, rfl⟩ | ⟨-, rfl⟩ <;> decide
  have qk : v 4 &&& 255 = 1 → 10 ≠ d := by
    intro k
    rcases hd with ⟨-, rfl⟩ | ⟨w, -⟩
    · decide
    · exact absurd k w
  obtain ⟨t1, t2, t3, t4, t5, t6, t7, t8, t9⟩ := zr_trn (su := su) h16 hn h10 ht rfl hk3 he (e1 := 8) (e2 := 9) (d := d) (x := fl2 (pm i) 1) (p := fl2 (pm i) 2) hP (by decide) (by decide) qd qk
  refine ⟨fun Fx => ?_, t4, t5, t6, t7⟩
  have ws := zc_MO_writeSums (l := l) (G := G) (F := Fx) (w := upd (zr_V v 8 9 (fl2 (pm i) 1)) d (fl2 (pm i) 2)) (la := la) (lz := nI nl) (ra := ra) (fn := nI c2) (fa := fa2) (cd := 0) hk3 h10 hn t8 t9
  rw [t3] at ws
  have ev : zv_w2i v (fl2 (pm i) 1) = zr_V v 8 9 (fl2 (pm i) 1) := rfl
  have V16 := zr_V16 h16 ht (e1 := 8) (e2 := 9) (x := fl2 (pm i) 1)
  have ve : zv_err (zr_V v 8 9 (fl2 (pm i) 1)) = 0 := (zr_err V16).trans t2
  rcases hd with ⟨k, rfl⟩ | ⟨k, rfl⟩
  · have r := zc_MO_rw_0n1 (l := l) (G := G) (F := Fx) (w := v) (sz := nI n) (la := la) (lz := nI nl) (ra := ra) (fn := nI c2) (fa := fa2) (cd := 0) (i := i) (w4 := zs_wcs (zs_trl v su 8 9 8 9 12 (fl2 (pm i) 1) (fl2 (pm i) 2)) n) (by omega)
    rw [e1, e2, ev] at r
    exact r ve k ws
  · have r := zc_MO_rw_0n0 (l := l) (G := G) (F := Fx) (w := v) (sz := nI n) (la := la) (lz := nI nl) (ra := ra) (fn := nI c2) (fa := fa2) (cd := 0) (i := i) (w4 := zs_wcs (zs_trl v su 8 9 8 9 11 (fl2 (pm i) 1) (fl2 (pm i) 2)) n) (by omega)
    rw [e1, e2, ev] at r
    exact r ve k ws
theorem zo_rw0e (h16 : ∀ j, zr_16 (v j)) (hn : n ≤ 48) (h10 : 10 ≤ n) (ht : 2 ≤ v 4 / 256) (he : ¬ zs_err v = 0) {d c2 i : Nat} {fa2 fl2 : Nat → Nat → Int32} (hF2 : zr_F pm c2 fl2 fa2) (hc2 : c2 ≤ 12) (hi : i < c2) (hd : v 18 &&& 255 = 1 ∧ d = 26 ∨ (¬ v 18 &&& 255 = 1) ∧ d = 24) (hs1 : su 1 = zs_adr v 20 21) (hs2 : su 2 = v d) :
    (∀ Fx, zz_M l zy_MO_rewrite zb_MO_rewrite 7 none 3 69 G [.ref (G.2.2 26), .int 0, .int (nI i)] (zz_N G Fx v (nI n) la (nI nl) ra (nI c2) fa2 0) none (zz_N G Fx (zs_wcs (zs_vi v su pm fl2 i 20 21 d) n) (nI n) la (nI nl) ra (nI c2) fa2 0)) ∧ (∀ j, zr_16 (zs_wcs (zs_vi v su pm fl2 i 20 21 d) n j)) ∧ (¬ zs_err (zs_vi v su pm fl2 i 20 21 d) = 0) ∧ ¬ zv_err (zs_wcs (zs_vi v su pm fl2 i 20 21 d) n) = 0 := by
  have q := hF2.1 i hi
  have e1 : fa2 1 i = fl2 (pm i) 1 := q.1 1 (by decide)
  have e2 : fa2 2 i = fl2 (pm i) 2 := q.1 2 (by decide)
  have hP : zr_16 (fl2 (pm i) 2) := q.2.2.2.1
  have k1 := zr_errI he
  have ev : zv_w2i v (fl2 (pm i) 1) = zr_V v 8 9 (fl2 (pm i) 1) := rfl
  rcases hd with ⟨k, rfl⟩ | ⟨k, rfl⟩
  · obtain ⟨t1, t2, t3, t4, t5, t6, t7, t8, t9, t10⟩ := zr_tre (su := su) h16 hn h10 ht he (e1 := 8) (e2 := 9) (a := 20) (b := 21) (d := 26) (x := fl2 (pm i) 1) (p := fl2 (pm i) 2) hP (by decide) (by decide) (by decide) (by decide) (by decide) (by decide) (by decide) (by decide) (fun w => by first | decide | exact absurd w k) (by decide) (by decide) (by decide) (by decide) (by decide) hs1 hs2
    refine ⟨fun Fx => ?_, t5, t6, t7⟩
    have ws := zc_MO_writeSums (l := l) (G := G) (F := Fx) (w := zv_co (zr_V v 8 9 (fl2 (pm i) 1)) 20 21 26 (fl2 (pm i) 1) (fl2 (pm i) 2)) (la := la) (lz := nI nl) (ra := ra) (fn := nI c2) (fa := fa2) (cd := 0) (k := 1) (.inr (.inr rfl)) h10 hn t9 t10
    have co := zc_MO_changeOther (l := l) (G := G) (F := Fx) (w := zr_V v 8 9 (fl2 (pm i) 1)) (sz := nI n) (la := la) (lz := nI nl) (ra := ra) (fn := nI c2) (fa := fa2) (cd := 0) (a := 20) (b := 21) (d := 26) (y := 20) (z := 26) (x := fl2 (pm i) 1) (p := fl2 (pm i) 2) ⟨by decide, by decide, by decide⟩ ⟨by decide, by decide, by decide⟩ ⟨by decide, by decide, by decide⟩ t8.1 t8.2.1 t8.2.2
    rw [t4] at ws
    have r := zc_MO_rw_0e1 (l := l) (G := G) (F := Fx) (w := v) (sz := nI n) (la := la) (lz := nI nl) (ra := ra) (fn := nI c2) (fa := fa2) (cd := 0) (i := i) (w3 := zv_co (zr_V v 8 9 (fl2 (pm i) 1)) 20 21 26 (fl2 (pm i) 1) (fl2 (pm i) 2)) (w4 := zs_wcs (zs_trl v su 8 9 20 21 26 (fl2 (pm i) 1) (fl2 (pm i) 2)) n) (by omega)
    rw [e1, e2, ev, k1] at r
    exact r t2 (by rw [t3]; exact k) co ws
  · obtain ⟨t1, t2, t3, t4, t5, t6, t7, t8, t9, t10⟩ := zr_tre (su := su) h16 hn h10 ht he (e1 := 8) (e2 := 9) (a := 20) (b := 21) (d := 24) (x := fl2 (pm i) 1) (p := fl2 (pm i) 2) hP (by decide) (by decide) (by decide) (by decide) (by decide) (by decide) (by decide) (by decide) (fun w => by first | decide | exact absurd w k) (by decide) (by decide) (by decide) (by decide) (by decide) hs1 hs2
    refine ⟨fun Fx => ?_, t5, t6, t7⟩
    have ws := zc_MO_writeSums (l := l) (G := G) (F := Fx) (w := zv_co (zr_V v 8 9 (fl2 (pm i) 1)) 20 21 24 (fl2 (pm i) 1) (fl2 (pm i) 2)) (la := la) (lz := nI nl) (ra := ra) (fn := nI c2) (fa := fa2) (cd := 0) (k := 1) (.inr (.inr rfl)) h10 hn t9 t10
    have co := zc_MO_changeOther (l := l) (G := G) (F := Fx) (w := zr_V v 8 9 (fl2 (pm i) 1)) (sz := nI n) (la := la) (lz := nI nl) (ra := ra) (fn := nI c2) (fa := fa2) (cd := 0) (a := 20) (b := 21) (d := 24) (y := 20) (z := 24) (x := fl2 (pm i) 1) (p := fl2 (pm i) 2) ⟨by decide, by decide, by decide⟩ ⟨by decide, by decide, by decide⟩ ⟨by decide, by decide, by decide⟩ t8.1 t8.2.1 t8.2.2
    rw [t4] at ws
    have r := zc_MO_rw_0e0 (l := l) (G := G) (F := Fx) (w := v) (sz := nI n) (la := la) (lz := nI nl) (ra := ra) (fn := nI c2) (fa := fa2) (cd := 0) (i := i) (w3 := zv_co (zr_V v 8 9 (fl2 (pm i) 1)) 20 21 24 (fl2 (pm i) 1) (fl2 (pm i) 2)) (w4 := zs_wcs (zs_trl v su 8 9 20 21 24 (fl2 (pm i) 1) (fl2 (pm i) 2)) n) (by omega)
    rw [e1, e2, ev, k1] at r
    exact r t2 (by rw [t3]; exact k) co ws
end
theorem zo_route0 {l : Launch} {G : zz_G} {F : Nat → va_E} (h : zz_In G F) : zz_Ro l G 0 F := by
  obtain ⟨B, o, v, n, lv, la, nl, su, pm, c, fl, fa, ru, ra, cd, hB, rfl, hR⟩ := h
  have h16 := hR.2.2.2.1
  have hn := hR.1
  have hc := hR.2.2.1
  have hpm := hR.2.2.2.2.2.1
  have hinj := hR.2.2.2.2.2.2.1
  have hF := hR.2.2.2.2.2.2.2.1
  have hU := hR.2.2.2.2.2.2.2.2
  have hwf := zr_wf h16 hn
  by_cases w0 : zs_wf v n = 0
  · have j1 : zs_jdg v n = 1 := if_pos w0
    have m := zc_PT_route_j (l := l) (G := G) (F := zz_N G B v (nI n) la (nI nl) ra (nI c) fa cd) (v := v) (lv := lv) (lz := nI nl) (su := su) (pm := pm) (cn := nI c) (fl := fl) (ru := ru) (o := 0) hn (by rw [j1]; decide)
    rw [j1] at m
    exact ⟨1, _, _, _, _, m, zk_swapM (zc_MO_route_m hn (zr_tnn h16) (fun h10 => zr_bnn h16 hn h10 (v 4) _ rfl) (hwf.symm.trans w0)), rfl, rfl, ⟨B, o, v, 0, lv, la, nl, su, pm, c, fl, fa, ru, ra, 0, hB, rfl, Nat.zero_le _, hR.2⟩⟩
  have hw : ¬ zv_wl v n = 0 := fun q => w0 (hwf.trans q)
  by_cases t : 2 ≤ v 4 / 256
  case neg =>
    have j1 : zs_jdg v n = 3 := by
      unfold zs_jdg
      rw [if_neg w0, zr_shr8 (h16 4), if_neg t]
    have m := zc_PT_route_j (l := l) (G := G) (F := zz_N G B v (nI n) la (nI nl) ra (nI c) fa cd) (v := v) (lv := lv) (lz := nI nl) (su := su) (pm := pm) (cn := nI c) (fl := fl) (ru := ru) (o := 0) hn (by rw [j1]; decide)
    rw [j1] at m
    exact ⟨3, _, _, _, _, m, zk_swapM (zc_MO_route_t hn (zr_tnn h16) (fun h10 => zr_bnn h16 hn h10 (v 4) _ rfl) hw t), rfl, rfl, ⟨B, o, v, 0, lv, la, nl, su, pm, c, fl, fa, ru, ra, 0, hB, rfl, Nat.zero_le _, hR.2⟩⟩
  have hj : zs_jdg v n = 0 := by
    unfold zs_jdg
    rw [if_neg w0, zr_shr8 (h16 4), if_pos t]
  obtain ⟨h10, hk3⟩ := zr_wfk w0
  have hne : ∀ i, i < 12 → ∀ j, j < i → pm j ≠ pm i := fun i hi j hji q => by have := hinj j i (by omega) hi q; omega
  have eo : zv_err v = zs_err v := zr_err h16
  by_cases i1 : ¬ zs_adr v 8 9 = -969710591
  · exact zo_no0 hB hR hj hw t (an := 5) (x := -5) (fun _ => zc_PT_li_a i1) (fun _ => zc_MO_fo_0a i1) (by decide) (by decide) (by decide) (by decide)
  replace i1 : zs_adr v 8 9 = -969710591 := Decidable.not_not.mp i1
  by_cases o1 : zv_out (zs_adr v 6 7) = 0
  · exact zo_no0 hB hR hj hw t (an := 5) (x := -5) (fun _ => zc_PT_li_b i1 o1) (fun _ => zc_MO_fo_0b i1 o1) (by decide) (by decide) (by decide) (by decide)
  by_cases he : zs_err v = 0
  · have ve : zv_err v = 0 := eo.trans he
    by_cases k1 : v 4 &&& 255 = 1
    · have es : zs_sbi v su = zs_rd su (v 4 &&& 255) 8 (zs_adr v 8 9) (zs_adr v 6 7) 12 0 (v 12) := by
        unfold zs_sbi
        rw [if_pos he, if_pos k1]
      have s0 : zs_sbi v su 0 = v 4 &&& 255 := by
        rw [es]
        rfl
      have s1 : zs_sbi v su 1 = zs_adr v 8 9 := by
        rw [es]
        rfl
      have s2 : zs_sbi v su 2 = v 12 := by
        rw [es]
        rfl
      have s3 : zs_sbi v su 3 = zs_adr v 6 7 := by
        rw [es]
        rfl
      have s4 : zs_sbi v su 4 = 0 := by
        rw [es]
        rfl
      have s5 : zs_sbi v su 5 = 8 := by
        rw [es]
        rfl
      have s6 : zs_sbi v su 6 = 12 := by
        rw [es]
        rfl
      have x1 : zz_ix (zs_sbi v su 5) 8 48 := by
        rw [s5]
        exact ⟨by decide, by decide, by decide⟩
      have x2 : zz_ix (zs_sbi v su 5 + 1) 9 48 := by
        rw [s5]
        exact ⟨by decide, by decide, by decide⟩
      have x3 : zz_ix (zs_sbi v su 6) 12 48 := by
        rw [s6]
        exact ⟨by decide, by decide, by decide⟩
      have ff := zr_fmo (zs_sbi v su) hF
      rw [s0, s2, s3, s4] at ff
      have hs : zs_sbi v su 1 = -969710591 := s1.trans i1
      by_cases v10 : v 10 = 2048
      · have hr : ¬ zs_req v = 0 := by
          unfold zs_req
          rw [if_pos k1, if_pos v10]
          decide
        cases hq : zs_ff (zs_mo pm fl (zs_sbi v su)) 0 c with
        | some i =>
          obtain ⟨hi0, hm⟩ := zr_ffS c 0 hq
          exact zo_no0 hB hR hj hw t (an := 5) (x := -5) (fun _ => zc_PT_li_d i1 o1 hs hr) (fun _ => zc_MO_fo_01q hc i1 o1 ve k1 (by omega) (ff.trans hq) v10) (by decide) (by decide) (by decide) (by decide)
        | none => exact zo_no0 hB hR hj hw t (an := 5) (x := -5) (fun _ => zc_PT_li_d i1 o1 hs hr) (fun _ => zc_MO_fo_01n hc i1 o1 ve k1 (ff.trans hq)) (by decide) (by decide) (by decide) (by decide)
      · have hr : zs_req v = 0 := by
          unfold zs_req
          rw [if_pos k1, if_neg v10]
        cases hq : zs_ff (zs_mo pm fl (zs_sbi v su)) 0 c with
        | some i =>
          obtain ⟨hi0, hm⟩ := zr_ffS c 0 hq
          have hi : i < c := by omega
          obtain ⟨r1, r2, r3, r4, r5⟩ := zo_rw0n (l := l) (G := G) (la := la) (nl := nl) (ra := ra) (su := zs_sbi v su) h16 hn h10 t hk3 he (d := 12) hF hc hi (.inl ⟨k1, rfl⟩)
          exact zo_ok0 hB hR h10 hj hw t hF hc hi (fun _ => zc_PT_li_g hpm hc i1 o1 hs hr hq hi (hne i (by omega)) x1 x2 x3) (fun _ => zc_MO_fo_01s hc i1 o1 ve k1 hi (ff.trans hq) v10) r1 r2 (.inl ⟨r3, r4, r5, zr_moS hm⟩)
        | none => exact zo_no0 hB hR hj hw t (an := 5) (x := -5) (fun _ => zc_PT_li_e hpm hc i1 o1 hs hr hq) (fun _ => zc_MO_fo_01n hc i1 o1 ve k1 (ff.trans hq)) (by decide) (by decide) (by decide) (by decide)
    · have es : zs_sbi v su = zs_rd su (v 4 &&& 255) 8 (zs_adr v 8 9) (zs_adr v 6 7) 11 (v 10) (v 11) := by
        unfold zs_sbi
        rw [if_pos he, if_neg k1]
      have s0 : zs_sbi v su 0 = v 4 &&& 255 := by
        rw [es]
        rfl
      have s1 : zs_sbi v su 1 = zs_adr v 8 9 := by
        rw [es]
        rfl
      have s2 : zs_sbi v su 2 = v 11 := by
        rw [es]
        rfl
      have s3 : zs_sbi v su 3 = zs_adr v 6 7 := by
        rw [es]
        rfl
      have s4 : zs_sbi v su 4 = v 10 := by
        rw [es]
        rfl
      have s5 : zs_sbi v su 5 = 8 := by
        rw [es]
        rfl
      have s6 : zs_sbi v su 6 = 11 := by
        rw [es]
        rfl
      have x1 : zz_ix (zs_sbi v su 5) 8 48 := by
        rw [s5]
        exact ⟨by decide, by decide, by decide⟩
      have x2 : zz_ix (zs_sbi v su 5 + 1) 9 48 := by
        rw [s5]
        exact ⟨by decide, by decide, by decide⟩
      have x3 : zz_ix (zs_sbi v su 6) 11 48 := by
        rw [s6]
        exact ⟨by decide, by decide, by decide⟩
      have ff := zr_fmo (zs_sbi v su) hF
      rw [s0, s2, s3, s4] at ff
      have hs : zs_sbi v su 1 = -969710591 := s1.trans i1
      have hr : zs_req v = 0 := if_neg k1
      cases hq : zs_ff (zs_mo pm fl (zs_sbi v su)) 0 c with
      | some i =>
        obtain ⟨hi0, hm⟩ := zr_ffS c 0 hq
        have hi : i < c := by omega
        obtain ⟨r1, r2, r3, r4, r5⟩ := zo_rw0n (l := l) (G := G) (la := la) (nl := nl) (ra := ra) (su := zs_sbi v su) h16 hn h10 t hk3 he (d := 11) hF hc hi (.inr ⟨k1, rfl⟩)
        exact zo_ok0 hB hR h10 hj hw t hF hc hi (fun _ => zc_PT_li_g hpm hc i1 o1 hs hr hq hi (hne i (by omega)) x1 x2 x3) (fun _ => zc_MO_fo_00s hc i1 o1 ve k1 hi (ff.trans hq)) r1 r2 (.inl ⟨r3, r4, r5, zr_moS hm⟩)
      | none => exact zo_no0 hB hR hj hw t (an := 5) (x := -5) (fun _ => zc_PT_li_e hpm hc i1 o1 hs hr hq) (fun _ => zc_MO_fo_00n hc i1 o1 ve k1 (ff.trans hq)) (by decide) (by decide) (by decide) (by decide)
  · have ve : ¬ zv_err v = 0 := fun w => he (eo.symm.trans w)
    have hr : zs_req v = 0 := by
      have k1 := zr_errI he
      unfold zs_req
      rw [if_pos k1]
      by_cases v10 : v 10 = 2048
      · exfalso
        apply he
        unfold zs_err
        rw [if_pos k1, v10]
        decide
      · rw [if_neg v10]
    by_cases k2 : v 18 &&& 255 = 1
    · have es : zs_sbi v su = zs_rd su (v 18 &&& 255) 20 (zs_adr v 20 21) (zs_adr v 22 23) 26 0 (v 26) := by
        unfold zs_sbi
        rw [if_neg he, if_pos k2]
      have s0 : zs_sbi v su 0 = v 18 &&& 255 := by
        rw [es]
        rfl
      have s1 : zs_sbi v su 1 = zs_adr v 20 21 := by
        rw [es]
        rfl
      have s2 : zs_sbi v su 2 = v 26 := by
        rw [es]
        rfl
      have s3 : zs_sbi v su 3 = zs_adr v 22 23 := by
        rw [es]
        rfl
      have s4 : zs_sbi v su 4 = 0 := by
        rw [es]
        rfl
      have s5 : zs_sbi v su 5 = 20 := by
        rw [es]
        rfl
      have s6 : zs_sbi v su 6 = 26 := by
        rw [es]
        rfl
      have x1 : zz_ix (zs_sbi v su 5) 20 48 := by
        rw [s5]
        exact ⟨by decide, by decide, by decide⟩
      have x2 : zz_ix (zs_sbi v su 5 + 1) 21 48 := by
        rw [s5]
        exact ⟨by decide, by decide, by decide⟩
      have x3 : zz_ix (zs_sbi v su 6) 26 48 := by
        rw [s6]
        exact ⟨by decide, by decide, by decide⟩
      have ff := zr_fmo (zs_sbi v su) hF
      rw [s0, s2, s3, s4] at ff
      by_cases hf : zs_adr v 20 21 = -969710591
      · have hs : zs_sbi v su 1 = -969710591 := s1.trans hf
        cases hq : zs_ff (zs_mo pm fl (zs_sbi v su)) 0 c with
        | some i =>
          obtain ⟨hi0, hm⟩ := zr_ffS c 0 hq
          have hi : i < c := by omega
          obtain ⟨r1, r2, r3, r4⟩ := zo_rw0e (l := l) (G := G) (la := la) (nl := nl) (ra := ra) (su := zs_sbi v su) h16 hn h10 t he (d := 26) hF hc hi (.inl ⟨k2, rfl⟩) s1 s2
          exact zo_ok0 hB hR h10 hj hw t hF hc hi (fun _ => zc_PT_li_g hpm hc i1 o1 hs hr hq hi (hne i (by omega)) x1 x2 x3) (fun _ => zc_MO_fo_0e i1 o1 ve (zc_MO_foe_01s hc hi k2 hf (ff.trans hq))) r1 r2 (.inr ⟨r3, r4⟩)
        | none => exact zo_no0 hB hR hj hw t (an := 5) (x := -5) (fun _ => zc_PT_li_e hpm hc i1 o1 hs hr hq) (fun _ => zc_MO_fo_0e i1 o1 ve (zc_MO_foe_01n hc k2 hf (ff.trans hq))) (by decide) (by decide) (by decide) (by decide)
      · exact zo_no0 hB hR hj hw t (an := 5) (x := -5) (fun _ => zc_PT_li_c i1 o1 (by rw [s1]; exact hf)) (fun _ => zc_MO_fo_0e i1 o1 ve (zc_MO_foe_01x k2 hf)) (by decide) (by decide) (by decide) (by decide)
    · have es : zs_sbi v su = zs_rd su (v 18 &&& 255) 20 (zs_adr v 20 21) (zs_adr v 22 23) 24 (v 25) (v 24) := by
        unfold zs_sbi
        rw [if_neg he, if_neg k2]
      have s0 : zs_sbi v su 0 = v 18 &&& 255 := by
        rw [es]
        rfl
      have s1 : zs_sbi v su 1 = zs_adr v 20 21 := by
        rw [es]
        rfl
      have s2 : zs_sbi v su 2 = v 24 := by
        rw [es]
        rfl
      have s3 : zs_sbi v su 3 = zs_adr v 22 23 := by
        rw [es]
        rfl
      have s4 : zs_sbi v su 4 = v 25 := by
        rw [es]
        rfl
      have s5 : zs_sbi v su 5 = 20 := by
        rw [es]
        rfl
      have s6 : zs_sbi v su 6 = 24 := by
        rw [es]
        rfl
      have x1 : zz_ix (zs_sbi v su 5) 20 48 := by
        rw [s5]
        exact ⟨by decide, by decide, by decide⟩
      have x2 : zz_ix (zs_sbi v su 5 + 1) 21 48 := by
        rw [s5]
        exact ⟨by decide, by decide, by decide⟩
      have x3 : zz_ix (zs_sbi v su 6) 24 48 := by
        rw [s6]
        exact ⟨by decide, by decide, by decide⟩
      have ff := zr_fmo (zs_sbi v su) hF
      rw [s0, s2, s3, s4] at ff
      by_cases hf : zs_adr v 20 21 = -969710591
      · have hs : zs_sbi v su 1 = -969710591 := s1.trans hf
        cases hq : zs_ff (zs_mo pm fl (zs_sbi v su)) 0 c with
        | some i =>
          obtain ⟨hi0, hm⟩ := zr_ffS c 0 hq
          have hi : i < c := by omega
          obtain ⟨r1, r2, r3, r4⟩ := zo_rw0e (l := l) (G := G) (la := la) (nl := nl) (ra := ra) (su := zs_sbi v su) h16 hn h10 t he (d := 24) hF hc hi (.inr ⟨k2, rfl⟩) s1 s2
          exact zo_ok0 hB hR h10 hj hw t hF hc hi (fun _ => zc_PT_li_g hpm hc i1 o1 hs hr hq hi (hne i (by omega)) x1 x2 x3) (fun _ => zc_MO_fo_0e i1 o1 ve (zc_MO_foe_00s hc hi k2 hf (ff.trans hq))) r1 r2 (.inr ⟨r3, r4⟩)
        | none => exact zo_no0 hB hR hj hw t (an := 5) (x := -5) (fun _ => zc_PT_li_e hpm hc i1 o1 hs hr hq) (fun _ => zc_MO_fo_0e i1 o1 ve (zc_MO_foe_00n hc k2 hf (ff.trans hq))) (by decide) (by decide) (by decide) (by decide)
      · exact zo_no0 hB hR hj hw t (an := 5) (x := -5) (fun _ => zc_PT_li_c i1 o1 (by rw [s1]; exact hf)) (fun _ => zc_MO_fo_0e i1 o1 ve (zc_MO_foe_00x k2 hf)) (by decide) (by decide) (by decide) (by decide)
