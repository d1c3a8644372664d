theorem zr_self (x : Int32) : nI x.toBitVec.toNat = x := by
  apply Int32.toBitVec_inj.mp
  apply BitVec.eq_of_toNat_eq
  exact pk_tn x.toBitVec.isLt
theorem zr_16_0 : zr_16 0 := ⟨0, by decide, rfl⟩
theorem zr_16_m : zr_16 65535 := ⟨65535, by decide, rfl⟩
theorem zr_16_ush (x : Int32) : zr_16 (zs_ush x 16) := by
  refine ⟨x.toBitVec.toNat / 65536, by have := x.toBitVec.isLt; omega, ?_⟩
  have := zr_ush16 (m := x.toBitVec.toNat) x.toBitVec.isLt
  rw [zr_self] at this
  exact this
theorem zr_16_set {v : Nat → Int32} {a b : Nat} {x : Int32} (h : ∀ i, zr_16 (v i)) : ∀ i, zr_16 (zs_set v a b x i) := zr_16_upd (zr_16_upd h (zr_16_ush x)) (zr_16_and x)
theorem zr_adr {v : Nat → Int32} (h : ∀ i, zr_16 (v i)) (a b : Nat) : zs_adr v a b = nI (zr_v v a * 65536 + zr_v v b) := by
  have ha := zr_vE h a
  have hb := zr_vE h b
  unfold zs_adr
  have e1 : v a <<< ((16 : Int32) &&& 31) = nI (zr_v v a * 65536) := by
    rw [ha.1]
    exact pk_shlN _ 16 (by decide) (by have := ha.2; omega)
  rw [e1]
  apply Int32.toBitVec_inj.mp
  apply BitVec.eq_of_toNat_eq
  have t1 : (nI (zr_v v a * 65536)).toBitVec.toNat = zr_v v a * 65536 := pk_tn (by have := ha.2; omega)
  have t2 : (v b).toBitVec.toNat = zr_v v b := (congrArg (fun q : Int32 => q.toBitVec.toNat) hb.1).trans (pk_tn (by have := hb.2; omega))
  rw [Int32.toBitVec_or, BitVec.toNat_or, t1, t2, pk_tn (by have := ha.2; have := hb.2; omega)]
  have := Nat.two_pow_add_eq_or_of_lt (i := 16) (b := zr_v v b) hb.2 (zr_v v a)
  rw [Nat.mul_comm] at this
  exact this.symm
theorem zr_adr_h {v : Nat → Int32} (h : ∀ i, zr_16 (v i)) (a b : Nat) : zs_ush (zs_adr v a b) 16 = v a := by
  have ha := zr_vE h a
  have hb := zr_vE h b
  rw [zr_adr h, zr_ush16 (by have := ha.2; have := hb.2; omega), show (zr_v v a * 65536 + zr_v v b) / 65536 = zr_v v a by have := hb.2; omega]
  exact ha.1.symm
theorem zr_adr_l {v : Nat → Int32} (h : ∀ i, zr_16 (v i)) (a b : Nat) : zs_adr v a b &&& 65535 = v b := by
  have ha := zr_vE h a
  have hb := zr_vE h b
  rw [zr_adr h, zr_and16 (by have := ha.2; have := hb.2; omega), show (zr_v v a * 65536 + zr_v v b) % 65536 = zr_v v b by have := hb.2; omega]
  exact hb.1.symm
theorem zr_uu {f : Nat → Int32} {i : Nat} {a b : Int32} : upd (upd f i a) i b = upd f i b := by
  funext j
  by_cases e : j = i
  · subst e; rw [pk_us, pk_us]
  · rw [pk_un e, pk_un e, pk_un e]
theorem zr_ss {f : Nat → Int32} {a b : Nat} {x : Int32} : zs_set (zs_set f a b x) a b x = zs_set f a b x := by
  unfold zs_set
  funext j
  by_cases e : j = b
  · subst e; rw [pk_us, pk_us]
  · rw [pk_un e, pk_un e]
    by_cases e2 : j = a
    · subst e2; rw [pk_us, pk_us]
    · rw [pk_un e2, pk_un e, pk_un e2]
theorem zr_tm {x : Int32} (h : zr_16 x) (ht : 2 ≤ x / 256) : zr_16 (x - 256) ∧ (x - 256) &&& 255 = x &&& 255 := by
  obtain ⟨m, hm, rfl⟩ := h
  rw [show (256 : Int32) = nI 256 from rfl, pk_div (by omega) (by decide) (by decide)] at ht
  have h2 : 2 ≤ m / 256 := (nI_leI (a := 2) (by decide) (by omega)).mp ht
  rw [show (256 : Int32) = nI 256 from rfl, pk_sub (by omega)]
  refine ⟨⟨m - 256, by omega, rfl⟩, ?_⟩
  rw [pk_andN (m := 255) (by omega) 8 (by decide), pk_andN (m := 255) (by omega) 8 (by decide)]
  refine congrArg nI ?_
  omega
theorem zr_hc {v : Nat → Int32} (h : ∀ i, zr_16 (v i)) : zv_hc v = zs_hcs v ∧ ∀ j, zr_16 (zs_hcs v j) := by
  have u := zr_16_upd (k := 5) h zr_16_0
  have b := zr_ntB u 10 0
  unfold zv_hc zs_hcs
  rw [zr_tot0 u, zr_sumE (by omega)]
  refine ⟨rfl, zr_16_upd u ?_⟩
  rw [← zr_sumE (by omega)]
  exact zr_16c (by omega)
theorem zr_wbc {v : Nat → Int32} (h : ∀ i, zr_16 (v i)) {n : Nat} (hn : n ≤ 48) (h10 : 10 ≤ n) {i : Nat} (hi : 4 ≠ i) {k : Int32} (hk : v 4 &&& 255 = k) : zv_bs v n i k = zs_wbc v n i ∧ ∀ j, zr_16 (zs_wbc v n i j) := by
  have u := zr_16_upd (k := i) h zr_16_0
  have e4 : upd v i 0 4 &&& 255 = k := by rw [pk_un hi]; exact hk
  have eb := zr_btE u h10
  rw [e4] at eb
  obtain ⟨m, hm, em⟩ := zr_btN u hn h10 (upd v i 0 4) k e4.symm
  unfold zv_bs zs_wbc
  rw [eb, em, zr_sumE hm]
  refine ⟨rfl, zr_16_upd u ?_⟩
  rw [← zr_sumE hm]
  exact zr_16c hm
theorem zr_wcs {v : Nat → Int32} (h : ∀ i, zr_16 (v i)) {n : Nat} (hn : n ≤ 48) (h10 : 10 ≤ n) {k : Int32} (hk : v 4 &&& 255 = k) (hk3 : k = 6 ∨ k = 17 ∨ k = 1) : zv_ws v n k = zs_wcs v n ∧ (∀ j, zr_16 (zs_wcs v n j)) ∧ (∀ j, j ≠ 5 → j ≠ 18 → j ≠ 13 → j ≠ 11 → zs_wcs v n j = v j) ∧ (¬ zs_tot (upd v 5 0) 0 10 0 < 0) ∧ ¬ zv_bt (upd (zv_hc v) (zv_at k) 0) n k < 0 := by
  obtain ⟨eh, h16⟩ := zr_hc h
  have e4 : zs_hcs v 4 = v 4 := rfl
  have k4 : zs_hcs v 4 &&& 255 = k := by rw [e4]; exact hk
  have ho : ∀ j, j ≠ 5 → zs_hcs v j = v j := fun j hj => (pk_un hj).trans (pk_un hj)
  have hw : ∀ i j, j ≠ i → zs_wbc (zs_hcs v) n i j = zs_hcs v j := fun i j hj => (pk_un hj).trans (pk_un hj)
  have nn : ∀ i, 4 ≠ i → ¬ zv_bt (upd (zs_hcs v) i 0) n k < 0 := fun i hi => zr_bnn (zr_16_upd h16 zr_16_0) hn h10 (upd (zs_hcs v) i 0 4) k (by rw [pk_un hi]; exact k4.symm)
  refine ⟨?_, ?_, ?_, zr_tnn (zr_16_upd h zr_16_0), ?_⟩
  · unfold zv_ws zs_wcs
    rw [eh, k4]
    rcases hk3 with e | e | e
    · rw [if_pos e, if_pos e]
      exact (zr_wbc h16 hn h10 (by decide) k4).1
    · have w := zr_wbc h16 hn h10 (i := 13) (by decide) k4
      have k6 : ¬ k = 6 := by rw [e]; decide
      have k1 : ¬ k = 1 := by rw [e]; decide
      rw [if_neg k6, if_pos e, if_neg k6, if_neg k1]
      by_cases h13 : zs_hcs v 13 = 0
      · rw [if_pos h13, if_pos h13]
      · rw [if_neg h13, if_neg h13, ← w.1]
        have q : zv_bs (zs_hcs v) n 13 k 13 = 65535 - zv_fo (zv_bt (upd (zs_hcs v) 13 0) n k) := pk_us
        rw [q]
        by_cases z : 65535 - zv_fo (zv_bt (upd (zs_hcs v) 13 0) n k) = 0
        · rw [if_pos z, if_pos z]
          unfold zv_bs
          rw [zr_uu, zr_uu, zr_uu]
        · rw [if_neg z, if_neg z]
    · have k6 : ¬ k = 6 := by rw [e]; decide
      have k17 : ¬ k = 17 := by rw [e]; decide
      rw [if_neg k6, if_neg k17, if_neg k6, if_pos e]
      exact (zr_wbc h16 hn h10 (by decide) k4).1
  · unfold zs_wcs
    rw [k4]
    rcases hk3 with e | e | e
    · rw [if_pos e]
      exact (zr_wbc h16 hn h10 (by decide) k4).2
    · have w := zr_wbc h16 hn h10 (i := 13) (by decide) k4
      rw [if_neg (by rw [e]; decide), if_neg (by rw [e]; decide)]
      by_cases h13 : zs_hcs v 13 = 0
      · rw [if_pos h13]; exact h16
      · rw [if_neg h13]
        by_cases z : zs_wbc (zs_hcs v) n 13 13 = 0
        · rw [if_pos z]; exact zr_16_upd w.2 zr_16_m
        · rw [if_neg z]; exact w.2
    · rw [if_neg (by rw [e]; decide), if_pos e]
      exact (zr_wbc h16 hn h10 (by decide) k4).2
  · intro j j5 j18 j13 j11
    unfold zs_wcs
    rw [k4]
    rcases hk3 with e | e | e
    · rw [if_pos e, hw _ _ j18, ho _ j5]
    · rw [if_neg (by rw [e]; decide), if_neg (by rw [e]; decide)]
      by_cases h13 : zs_hcs v 13 = 0
      · rw [if_pos h13, ho _ j5]
      · rw [if_neg h13]
        by_cases z : zs_wbc (zs_hcs v) n 13 13 = 0
        · rw [if_pos z, pk_un j13, hw _ _ j13, ho _ j5]
        · rw [if_neg z, hw _ _ j13, ho _ j5]
    · rw [if_neg (by rw [e]; decide), if_pos e, hw _ _ j11, ho _ j5]
  · rw [eh]
    unfold zv_at
    rcases hk3 with e | e | e
    · rw [if_pos e]; exact nn _ (by decide)
    · rw [if_neg (by rw [e]; decide), if_pos e]; exact nn _ (by decide)
    · rw [if_neg (by rw [e]; decide), if_neg (by rw [e]; decide)]; exact nn _ (by decide)
theorem zr_adjN {s : Nat} {x y : Int32} (hx : zr_16 x) (hy : zr_16 y) : ∃ t : Nat, t ≤ s + 131070 ∧ zv_adj (nI s) x y = nI t := by
  obtain ⟨a, ha, rfl⟩ := hx
  obtain ⟨b, hb, rfl⟩ := hy
  refine ⟨s + 65535 - a + b, by omega, ?_⟩
  unfold zv_adj
  rw [show (65535 : Int32) = nI 65535 from rfl, nI_add, pk_sub (by omega), nI_add]
theorem zr_cN {x : Int32} (hx : zr_16 x) : ∃ t : Nat, t ≤ 65535 ∧ 65535 - x = nI t := by
  obtain ⟨a, ha, rfl⟩ := hx
  exact ⟨65535 - a, by omega, pk_sub (a := 65535) (by omega)⟩
theorem zr_s1N {z x y x2 y2 : Int32} (hz : zr_16 z) (hx : zr_16 x) (hy : zr_16 y) (hx2 : zr_16 x2) (hy2 : zr_16 y2) : ∃ t : Nat, t < 2 ^ 30 ∧ zv_adj (zv_adj (65535 - z) x y) x2 y2 = nI t := by
  obtain ⟨t0, b0, e0⟩ := zr_cN hz
  obtain ⟨t1, b1, e1⟩ := zr_adjN (s := t0) hx hy
  obtain ⟨t2, b2, e2⟩ := zr_adjN (s := t1) hx2 hy2
  exact ⟨t2, by omega, by rw [e0, e1, e2]⟩
theorem zr_s2N {z x y x2 y2 x3 y3 : Int32} (hz : zr_16 z) (hx : zr_16 x) (hy : zr_16 y) (hx2 : zr_16 x2) (hy2 : zr_16 y2) (hx3 : zr_16 x3) (hy3 : zr_16 y3) : ∃ t : Nat, t < 2 ^ 30 ∧ zv_adj (zv_adj (zv_adj (65535 - z) x y) x2 y2) x3 y3 = nI t := by
  obtain ⟨t0, b0, e0⟩ := zr_cN hz
  obtain ⟨t1, b1, e1⟩ := zr_adjN (s := t0) hx hy
  obtain ⟨t2, b2, e2⟩ := zr_adjN (s := t1) hx2 hy2
  obtain ⟨t3, b3, e3⟩ := zr_adjN (s := t2) hx3 hy3
  exact ⟨t3, by omega, by rw [e0, e1, e2, e3]⟩
theorem zr_s3N {z x y : Int32} (hz : zr_16 z) (hx : zr_16 x) (hy : zr_16 y) : ∃ t : Nat, t < 2 ^ 30 ∧ zv_adj (65535 - z) x y = nI t := by
  obtain ⟨t0, b0, e0⟩ := zr_cN hz
  obtain ⟨t1, b1, e1⟩ := zr_adjN (s := t0) hx hy
  exact ⟨t1, by omega, by rw [e0, e1]⟩
theorem zr_e1 (z a x b y : Int32) : 65535 - z + (zs_chg a x + zs_chg b y) = zv_adj (zv_adj (65535 - z) a x) b y := by
  unfold zs_chg zv_adj
  simp only [Int32.sub_eq_add_neg]
  ac_rfl
theorem zr_e2 (z a x b y d p : Int32) : 65535 - z + (zs_chg a x + zs_chg b y + zs_chg d p) = zv_adj (zv_adj (zv_adj (65535 - z) a x) b y) d p := by
  unfold zs_chg zv_adj
  simp only [Int32.sub_eq_add_neg]
  ac_rfl
theorem zr_e3 (z d p : Int32) : 65535 - z + zs_chg d p = zv_adj (65535 - z) d p := by
  unfold zs_chg zv_adj
  simp only [Int32.sub_eq_add_neg]
  ac_rfl
theorem zr_16s {t : Nat} {y : Int32} (h : t < 2 ^ 30) (e : y = nI t) : zr_16 (65535 - zs_sum y) ∧ zv_fo y = zs_sum y := by
  rw [e]
  exact ⟨zr_16c (by omega), (zr_sumE (by omega)).symm⟩
