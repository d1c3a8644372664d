theorem zr_wfk {v : Nat → Int32} {n : Nat} (h : ¬ zs_wf v n = 0) : 10 ≤ n ∧ (v 4 &&& 255 = 6 ∨ v 4 &&& 255 = 17 ∨ v 4 &&& 255 = 1) := by
  unfold zs_wf at h
  by_cases h10 : nI n < 10
  · rw [if_pos h10] at h; exact absurd rfl h
  refine ⟨Nat.le_of_not_lt (fun q => h10 (nI_lt (b := 10) q (by decide))), ?_⟩
  rw [if_neg h10] at h
  by_cases a0 : v 0 >>> ((8 : Int32) &&& 31) = 69
  case neg => rw [if_neg a0] at h; exact absurd rfl h
  by_cases a1 : v 1 = 2 * nI n
  case neg => rw [if_pos a0, if_neg a1] at h; exact absurd rfl h
  by_cases a3 : v 3 &&& 49151 = 0
  case neg => rw [if_pos a0, if_pos a1, if_neg a3] at h; exact absurd rfl h
  by_cases as : zs_sum (zs_tot v 0 10 0) = 65535
  case neg => rw [if_pos a0, if_pos a1, if_pos a3, if_neg as] at h; exact absurd rfl h
  rw [if_pos a0, if_pos a1, if_pos a3, if_pos as] at h
  by_cases k1 : v 4 &&& 255 = 1
  · exact .inr (.inr k1)
  by_cases k6 : v 4 &&& 255 = 6
  · exact .inl k6
  by_cases k17 : v 4 &&& 255 = 17
  · exact .inr (.inl k17)
  rw [if_neg k1, if_neg k6, if_neg k17] at h
  exact absurd rfl h
section
variable {l : Launch} {G : zz_G} {B : Nat → va_E} {o : Nat → Int64} {v : Nat → Int32} {n : Nat} {lv la : Nat → Int32} {nl : Nat} {su : Nat → Int32} {pm : Nat → Nat} {c : Nat} {fl fa ru ra : Nat → Nat → Int32} {cd : Int32}
def zz_Ro (l : Launch) (G : zz_G) (z : Int32) (F : Nat → va_E) : Prop := ∃ x F2 F3 fs1 fs2, zz_M l zy_PT_route zb_PT_route 3 (some .int) 6 135 G [.ref (G.2.2 0), .int z] F (some (.int x)) F2 ∧ zz_M l zy_MO_route zb_MO_route 5 (some .int) 4 95 G [.ref (G.2.2 26), .int z] F2 (some (.int x)) F3 ∧ F 0 = .inr (0, fs1) ∧ F2 26 = .inr (7, fs2) ∧ zz_In G F3
theorem zo_no1 (hB : B 41 = .inl (G.2.1 2, 1, .inr (.inl o))) (hR : zr_R v n lv la nl pm c fl fa ru ra) (hj : zs_jdg v n = 0) (hw : ¬ zv_wl v n = 0) (ht : 2 ≤ v 4 / 256) {an x : Int32}
    (hPT : ∀ Fx, zz_M l zy_PT_sendOut zb_PT_sendOut 3 (some .int) 5 113 G [.ref (G.2.2 0)] (zz_K G Fx v (nI n) lv (nI nl) (zs_sbo v su) pm (nI c) fl ru) (some (.int an)) (zz_K G Fx v (nI n) lv (nI nl) (zs_sbo v su) pm (nI c) fl ru))
    (hMO : ∀ Fx, zz_M l zy_MO_flowOf zb_MO_flowOf 8 (some .int) 2 54 G [.ref (G.2.2 26), .int 1] (zz_N G Fx v (nI n) la (nI nl) ra (nI c) fa 0) (some (.int x)) (zz_N G Fx v (nI n) la (nI nl) ra (nI c) fa 0))
    (ha : ¬ an = 0) (hx : ¬ 0 ≤ x) (hx2 : x < 0) (hxa : -x = an) : zz_Ro l G 1 (zz_S G B v n lv la nl su pm c fl fa ru ra cd) := by
  have h16 := hR.2.2.2.1
  have hn := hR.1
  refine ⟨an, _, _, _, _, zc_PT_route_o_no hn hj (hPT _) ha, ?_, rfl, rfl, ⟨B, o, v, 0, lv, la, nl, zs_sbo v su, pm, c, fl, fa, ru, ra, 0, hB, rfl, Nat.zero_le _, hR.2⟩⟩
  have q := zc_MO_route_1n (l := l) (G := G) (F := zz_K G B v (nI 0) lv (nI nl) (zs_sbo v su) pm (nI c) fl ru) (cd := cd) hn (zr_tnn h16) (fun h10 => zr_bnn h16 hn h10 (v 4) _ rfl) hw ht (hMO _) hx hx2
  rw [hxa] at q
  exact zk_swapM q
theorem zo_ok1 (hB : B 41 = .inl (G.2.1 2, 1, .inr (.inl o))) (hR : zr_R v n lv la nl pm c fl fa ru ra) (h10 : 10 ≤ n) (hj : zs_jdg v n = 0) (hw : ¬ zv_wl v n = 0) (ht : 2 ≤ v 4 / 256) {c2 i : Nat} {fl2 fa2 : Nat → Nat → Int32} {W : Nat → Int32} (hF2 : zr_F pm c2 fl2 fa2) (hc2 : c2 ≤ 12) (hi : i < c2)
    (hPT : ∀ Fx, zz_M l zy_PT_sendOut zb_PT_sendOut 3 (some .int) 5 113 G [.ref (G.2.2 0)] (zz_K G Fx v (nI n) lv (nI nl) (zs_sbo v su) pm (nI c) fl ru) (some (.int 0)) (zz_K G Fx W (nI n) lv (nI nl) (zs_sbo v su) (zs_nto W (zs_sbo v su) pm fl2 c2 i).1 (nI (zs_nto W (zs_sbo v su) pm fl2 c2 i).2.2) (zs_nto W (zs_sbo v su) pm fl2 c2 i).2.1 ru))
    (hMO : ∀ Fx, zz_M l zy_MO_flowOf zb_MO_flowOf 8 (some .int) 2 54 G [.ref (G.2.2 26), .int 1] (zz_N G Fx v (nI n) la (nI nl) ra (nI c) fa 0) (some (.int (nI i))) (zz_N G Fx v (nI n) la (nI nl) ra (nI c2) fa2 0))
    (hRW : ∀ Fx, zz_M l zy_MO_rewrite zb_MO_rewrite 7 none 3 69 G [.ref (G.2.2 26), .int 1, .int (nI i)] (zz_N G Fx v (nI n) la (nI nl) ra (nI c2) fa2 0) none (zz_N G Fx (zs_wcs W n) (nI n) la (nI nl) ra (nI c2) fa2 0))
    (hW : ∀ j, zr_16 (zs_wcs W n j))
    (herr : (zs_err W = 0 ∧ zv_err (zs_wcs W n) = 0 ∧ zs_wcs W n 16 = W 16 ∧ fl2 (pm i) 0 = zs_sbo v su 0) ∨ ((¬ zs_err W = 0) ∧ ¬ zv_err (zs_wcs W n) = 0)) : zz_Ro l G 1 (zz_S G B v n lv la nl su pm c fl fa ru ra cd) := by
  have h16 := hR.2.2.2.1
  have hn := hR.1
  have hp := hR.2.2.2.2.2.1
  have hin := hR.2.2.2.2.2.2.1
  have hcp : ∀ j, j < n → zv_cp (zs_wcs W n) la 0 n j = va_cpy (zs_wcs W n) lv 0 0 48 j := by
    intro j hj2
    rw [zr_cp, if_pos (by omega), pk_cpy_in (Nat.zero_le _) (by omega), Nat.zero_add, Nat.sub_zero]
  rcases herr with ⟨e1, e2, e3, e4⟩ | ⟨e1, e2⟩
  · obtain ⟨g1, g2, g3, g4, g5⟩ := zr_nto (v := W) (w := zs_wcs W n) (su := zs_sbo v su) hF2 hp hin hc2 hi e1 e3 e4
    refine ⟨0, _, _, _, _, zc_PT_route_o_ok hn h10 hj (hPT _), ?_, rfl, rfl, ⟨B, o, zs_wcs W n, 0, va_cpy (zs_wcs W n) lv 0 0 48, zv_cp (zs_wcs W n) la 0 n, n, zs_sbo v su, (zs_nto W (zs_sbo v su) pm fl2 c2 i).1, (zs_nto W (zs_sbo v su) pm fl2 c2 i).2.2, (zs_nto W (zs_sbo v su) pm fl2 c2 i).2.1, (zv_tco (zs_wcs W n) fa2 c2 i).1, ru, ra, 0, hB, rfl, Nat.zero_le _, hn, Nat.le_trans g2 hc2, hW, hcp, g3, g4, g5, hR.2.2.2.2.2.2.2.2⟩⟩
    have q := zc_MO_route_1k (l := l) (G := G) (F := zz_K G B (zs_wcs W n) (nI 0) (va_cpy (zs_wcs W n) lv 0 0 48) (nI n) (zs_sbo v su) (zs_nto W (zs_sbo v su) pm fl2 c2 i).1 (nI (zs_nto W (zs_sbo v su) pm fl2 c2 i).2.2) (zs_nto W (zs_sbo v su) pm fl2 c2 i).2.1 ru) (cd := cd) hn (zr_tnn h16) (fun h10 => zr_bnn h16 hn h10 (v 4) _ rfl) hw ht (i := i) (by omega) (hMO _) (hRW _) e2 (zc_MO_touch_o hc2 hi)
    rw [g1] at q
    exact zk_swapM q
  · have en : zs_nto W (zs_sbo v su) pm fl2 c2 i = (pm, fl2, c2) := if_neg e1
    rw [en] at hPT
    refine ⟨0, _, _, _, _, zc_PT_route_o_ok hn h10 hj (hPT _), ?_, rfl, rfl, ⟨B, o, zs_wcs W n, 0, va_cpy (zs_wcs W n) lv 0 0 48, zv_cp (zs_wcs W n) la 0 n, n, zs_sbo v su, pm, c2, fl2, fa2, ru, ra, 0, hB, rfl, Nat.zero_le _, hn, hc2, hW, hcp, hp, hin, hF2, hR.2.2.2.2.2.2.2.2⟩⟩
    exact zk_swapM (zc_MO_route_1e (l := l) (G := G) (F := zz_K G B (zs_wcs W n) (nI 0) (va_cpy (zs_wcs W n) lv 0 0 48) (nI n) (zs_sbo v su) pm (nI c2) fl2 ru) (cd := cd) hn (zr_tnn h16) (fun h10 => zr_bnn h16 hn h10 (v 4) _ rfl) hw ht (i := i) (by omega) (hMO _) (hRW _) e2)
/-- the reference's rewriting of a packet that goes out -/
theorem zo_rw1n (h16 : ∀ j, zr_16 (v j)) (hn : n ≤ 48) (h10 : 10 ≤ n) (ht : 2 ≤ v 4 / 256) (hk3 : v 4 &&& 255 = 6 ∨ v 4 &&& 255 = 17 ∨ v 4 &&& 255 = 1) (he : zs_err v = 0) {d c2 i : Nat} {fa2 fl2 : Nat → Nat → Int32} (hF2 : zr_F pm c2 fl2 fa2) (hc2 : c2 ≤ 12) (hi : i < c2) (hd : v 4 &&& 255 = 1 ∧ d = 12 ∨ (¬ v 4 &&& 255 = 1) ∧ d = 10) :
    (∀ Fx, zz_M l zy_MO_rewrite zb_MO_rewrite 7 none 3 69 G [.ref (G.2.2 26), .int 1, .int (nI i)] (zz_N G Fx v (nI n) la (nI nl) ra (nI c2) fa2 0) none (zz_N G Fx (zs_wcs (zs_vo v su pm fl2 i 6 7 d) n) (nI n) la (nI nl) ra (nI c2) fa2 0)) ∧ (∀ j, zr_16 (zs_wcs (zs_vo v su pm fl2 i 6 7 d) n j)) ∧ zs_err (zs_vo v su pm fl2 i 6 7 d) = 0 ∧ zv_err (zs_wcs (zs_vo v su pm fl2 i 6 7 d) n) = 0 ∧ zs_wcs (zs_vo v su pm fl2 i 6 7 d) n 16 = zs_vo v su pm fl2 i 6 7 d 16 := by
  have q := hF2.1 i hi
  obtain ⟨p, hp, ep⟩ := q.2.2.2.2.1
  have e5 : fa2 5 i = fl2 (pm i) 5 := q.1 5 (by decide)
  have hP : zr_16 (fl2 (pm i) 5) := ⟨40000 + p, by omega, ep⟩
  have qd : 4 ≠ d ∧ 16 ≠ d := by rcases hd with ⟨-, rfl⟩ | ⟨-, rfl⟩ <;> decide
  have qk : v 4 &&& 255 = 1 → 10 ≠ d := by
    intro k
    rcases hd with ⟨-, rfl⟩ | ⟨w, -⟩
    · decide
    · exact absurd k w
  obtain ⟨t1, t2, t3, t4, t5, t6, t7, t8, t9⟩ := zr_trn (su := su) h16 hn h10 ht rfl hk3 he (e1 := 6) (e2 := 7) (d := d) (x := -969710591) (p := fl2 (pm i) 5) hP (by decide) (by decide) qd qk
  refine ⟨fun Fx => ?_, t4, t5, t6, t7⟩
  have ws := zc_MO_writeSums (l := l) (G := G) (F := Fx) (w := upd (zr_V v 6 7 (-969710591)) d (fl2 (pm i) 5)) (la := la) (lz := nI nl) (ra := ra) (fn := nI c2) (fa := fa2) (cd := 0) hk3 h10 hn t8 t9
  rw [t3] at ws
  have ev : zv_w2o v = zr_V v 6 7 (-969710591) := rfl
  have V16 := zr_V16 h16 ht (e1 := 6) (e2 := 7) (x := -969710591)
  have ve : zv_err (zv_w2o v) = 0 := (zr_err V16).trans t2
  rcases hd with ⟨k, rfl⟩ | ⟨k, rfl⟩
  · have r := zc_MO_rw_1n1 (l := l) (G := G) (F := Fx) (w := v) (sz := nI n) (la := la) (lz := nI nl) (ra := ra) (fn := nI c2) (fa := fa2) (cd := 0) (i := i) (w4 := zs_wcs (zs_trl v su 6 7 6 7 12 (-969710591) (fl2 (pm i) 5)) n) (by omega) ve k
    rw [e5, ev] at r
    exact r ws
  · have r := zc_MO_rw_1n0 (l := l) (G := G) (F := Fx) (w := v) (sz := nI n) (la := la) (lz := nI nl) (ra := ra) (fn := nI c2) (fa := fa2) (cd := 0) (i := i) (w4 := zs_wcs (zs_trl v su 6 7 6 7 10 (-969710591) (fl2 (pm i) 5)) n) (by omega) ve k
    rw [e5, ev] at r
    exact r ws
theorem zo_rw1e (h16 : ∀ j, zr_16 (v j)) (hn : n ≤ 48) (h10 : 10 ≤ n) (ht : 2 ≤ v 4 / 256) (he : ¬ zs_err v = 0) {d c2 i : Nat} {fa2 fl2 : Nat → Nat → Int32} (hF2 : zr_F pm c2 fl2 fa2) (hc2 : c2 ≤ 12) (hi : i < c2) (hd : v 18 &&& 255 = 1 ∧ d = 26 ∨ (¬ v 18 &&& 255 = 1) ∧ d = 25) (hs1 : su 1 = zs_adr v 22 23) (hs2 : su 2 = v d) :
    (∀ Fx, zz_M l zy_MO_rewrite zb_MO_rewrite 7 none 3 69 G [.ref (G.2.2 26), .int 1, .int (nI i)] (zz_N G Fx v (nI n) la (nI nl) ra (nI c2) fa2 0) none (zz_N G Fx (zs_wcs (zs_vo v su pm fl2 i 22 23 d) n) (nI n) la (nI nl) ra (nI c2) fa2 0)) ∧ (∀ j, zr_16 (zs_wcs (zs_vo v su pm fl2 i 22 23 d) n j)) ∧ (¬ zs_err (zs_vo v su pm fl2 i 22 23 d) = 0) ∧ ¬ zv_err (zs_wcs (zs_vo v su pm fl2 i 22 23 d) n) = 0 := by
  have q := hF2.1 i hi
  obtain ⟨p, hp, ep⟩ := q.2.2.2.2.1
  have e5 : fa2 5 i = fl2 (pm i) 5 := q.1 5 (by decide)
  have hP : zr_16 (fl2 (pm i) 5) := ⟨40000 + p, by omega, ep⟩
  have k1 := zr_errI he
  rcases hd with ⟨k, rfl⟩ | ⟨k, rfl⟩
  · obtain ⟨t1, t2, t3, t4, t5, t6, t7, t8, t9, t10⟩ := zr_tre (su := su) h16 hn h10 ht he (e1 := 6) (e2 := 7) (a := 22) (b := 23) (d := 26) (x := -969710591) (p := fl2 (pm i) 5) hP (by decide) (by decide) (by decide) (by decide) (by decide) (by decide) (by decide) (by decide) (fun _ => by decide) (by decide) (by decide) (by decide) (by decide) (by decide) hs1 hs2
    refine ⟨fun Fx => ?_, t5, t6, t7⟩
    have ws := zc_MO_writeSums (l := l) (G := G) (F := Fx) (w := zv_co (zr_V v 6 7 (-969710591)) 22 23 26 (-969710591) (fl2 (pm i) 5)) (la := la) (lz := nI nl) (ra := ra) (fn := nI c2) (fa := fa2) (cd := 0) (k := 1) (.inr (.inr rfl)) h10 hn t9 t10
    have co := zc_MO_changeOther (l := l) (G := G) (F := Fx) (w := zr_V v 6 7 (-969710591)) (sz := nI n) (la := la) (lz := nI nl) (ra := ra) (fn := nI c2) (fa := fa2) (cd := 0) (a := 22) (b := 23) (d := 26) (y := 22) (z := 26) (x := -969710591) (p := fl2 (pm i) 5) zq_in_22_48 zq_in_23_48 zq_in_26_48 t8.1 t8.2.1 t8.2.2
    rw [t4] at ws
    have ev : zv_w2o v = zr_V v 6 7 (-969710591) := rfl
    have r := zc_MO_rw_1e1 (l := l) (G := G) (F := Fx) (w := v) (sz := nI n) (la := la) (lz := nI nl) (ra := ra) (fn := nI c2) (fa := fa2) (cd := 0) (i := i) (w3 := zv_co (zr_V v 6 7 (-969710591)) 22 23 26 (-969710591) (fl2 (pm i) 5)) (w4 := zs_wcs (zs_trl v su 6 7 22 23 26 (-969710591) (fl2 (pm i) 5)) n) (by omega)
    rw [e5, ev, k1] at r
    exact r t2 (by rw [t3]; exact k) co ws
  · obtain ⟨t1, t2, t3, t4, t5, t6, t7, t8, t9, t10⟩ := zr_tre (su := su) h16 hn h10 ht he (e1 := 6) (e2 := 7) (a := 22) (b := 23) (d := 25) (x := -969710591) (p := fl2 (pm i) 5) hP (by decide) (by decide) (by decide) (by decide) (by decide) (by decide) (by decide) (by decide) (fun w => absurd w k) (by decide) (by decide) (by decide) (by decide) (by decide) hs1 hs2
    refine ⟨fun Fx => ?_, t5, t6, t7⟩
    have ws := zc_MO_writeSums (l := l) (G := G) (F := Fx) (w := zv_co (zr_V v 6 7 (-969710591)) 22 23 25 (-969710591) (fl2 (pm i) 5)) (la := la) (lz := nI nl) (ra := ra) (fn := nI c2) (fa := fa2) (cd := 0) (k := 1) (.inr (.inr rfl)) h10 hn t9 t10
    have co := zc_MO_changeOther (l := l) (G := G) (F := Fx) (w := zr_V v 6 7 (-969710591)) (sz := nI n) (la := la) (lz := nI nl) (ra := ra) (fn := nI c2) (fa := fa2) (cd := 0) (a := 22) (b := 23) (d := 25) (y := 22) (z := 25) (x := -969710591) (p := fl2 (pm i) 5) zq_in_22_48 zq_in_23_48 zq_in_25_48 t8.1 t8.2.1 t8.2.2
    rw [t4] at ws
    have ev : zv_w2o v = zr_V v 6 7 (-969710591) := rfl
    have r := zc_MO_rw_1e0 (l := l) (G := G) (F := Fx) (w := v) (sz := nI n) (la := la) (lz := nI nl) (ra := ra) (fn := nI c2) (fa := fa2) (cd := 0) (i := i) (w3 := zv_co (zr_V v 6 7 (-969710591)) 22 23 25 (-969710591) (fl2 (pm i) 5)) (w4 := zs_wcs (zs_trl v su 6 7 22 23 25 (-969710591) (fl2 (pm i) 5)) n) (by omega)
    rw [e5, ev, k1] at r
    exact r t2 (by rw [t3]; exact k) co ws
end
