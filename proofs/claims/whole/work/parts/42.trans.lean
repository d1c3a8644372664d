theorem zr_cp (w : Nat → Int32) : ∀ (n i : Nat) (la : Nat → Int32) (j : Nat), zv_cp w la i n j = if i ≤ j ∧ j < i + n then w j else la j
  | 0, i, la, j => (if_neg (by omega)).symm
  | n + 1, i, la, j => by
    rw [zv_cp, zr_cp w n (i + 1)]
    by_cases h : i + 1 ≤ j ∧ j < i + 1 + n
    · rw [if_pos h, if_pos (by omega)]
    · rw [if_neg h]
      by_cases e : j = i
      · subst e; rw [pk_us, if_pos (by omega)]
      · rw [pk_un e, if_neg (by omega)]
def zr_V (v : Nat → Int32) (e1 e2 : Nat) (x : Int32) : Nat → Int32 := zs_set (upd v 4 (v 4 - 256)) e1 e2 x
theorem zr_Vo {v : Nat → Int32} {e1 e2 j : Nat} {x : Int32} (h4 : j ≠ 4) (h1 : j ≠ e1) (h2 : j ≠ e2) : zr_V v e1 e2 x j = v j := (pk_un h2).trans ((pk_un h1).trans (pk_un h4))
theorem zr_V4 {v : Nat → Int32} {e1 e2 : Nat} {x : Int32} (h1 : 4 ≠ e1) (h2 : 4 ≠ e2) : zr_V v e1 e2 x 4 = v 4 - 256 := (pk_un h2).trans ((pk_un h1).trans pk_us)
theorem zr_V16 {v : Nat → Int32} (h : ∀ i, zr_16 (v i)) (ht : 2 ≤ v 4 / 256) {e1 e2 : Nat} {x : Int32} : ∀ j, zr_16 (zr_V v e1 e2 x j) := zr_16_set (zr_16_upd h (zr_tm (h 4) ht).1)
theorem zr_errC {v w : Nat → Int32} (h4 : w 4 &&& 255 = v 4 &&& 255) (h10 : w 10 = v 10) : zs_err w = zs_err v := by
  unfold zs_err
  rw [h4, h10]
theorem zr_errK {v : Nat → Int32} (h : ¬ v 4 &&& 255 = 1) : zs_err v = 0 := if_neg h
theorem zr_errI {v : Nat → Int32} (h : ¬ zs_err v = 0) : v 4 &&& 255 = 1 := by
  by_cases e : v 4 &&& 255 = 1
  · exact e
  · exact absurd (zr_errK e) h
/-- a packet's translation, no error -/
theorem zr_trn {v su : Nat → Int32} (h : ∀ i, zr_16 (v i)) {n : Nat} (hn : n ≤ 48) (h10 : 10 ≤ n) (ht : 2 ≤ v 4 / 256) {k : Int32} (hk : v 4 &&& 255 = k) (hk3 : k = 6 ∨ k = 17 ∨ k = 1) (he : zs_err v = 0) {e1 e2 d : Nat} {x p : Int32} (hp : zr_16 p) (q1 : 4 ≠ e1 ∧ 10 ≠ e1 ∧ 16 ≠ e1) (q2 : 4 ≠ e2 ∧ 10 ≠ e2 ∧ 16 ≠ e2) (qd : 4 ≠ d ∧ 16 ≠ d) (qk : k = 1 → 10 ≠ d) :
    zs_trl v su e1 e2 e1 e2 d x p = upd (zr_V v e1 e2 x) d p ∧ zs_err (zr_V v e1 e2 x) = 0 ∧ zv_ws (upd (zr_V v e1 e2 x) d p) n k = zs_wcs (zs_trl v su e1 e2 e1 e2 d x p) n ∧ (∀ j, zr_16 (zs_wcs (zs_trl v su e1 e2 e1 e2 d x p) n j)) ∧ zs_err (zs_trl v su e1 e2 e1 e2 d x p) = 0 ∧ zv_err (zs_wcs (zs_trl v su e1 e2 e1 e2 d x p) n) = 0 ∧ zs_wcs (zs_trl v su e1 e2 e1 e2 d x p) n 16 = zs_trl v su e1 e2 e1 e2 d x p 16 ∧ (¬ zs_tot (upd (upd (zr_V v e1 e2 x) d p) 5 0) 0 10 0 < 0) ∧ ¬ zv_bt (upd (zv_hc (upd (zr_V v e1 e2 x) d p)) (zv_at k) 0) n k < 0 := by
  have V16 := zr_V16 h ht (e1 := e1) (e2 := e2) (x := x)
  have V4 : zr_V v e1 e2 x 4 &&& 255 = v 4 &&& 255 := by rw [zr_V4 q1.1 q2.1]; exact (zr_tm (h 4) ht).2
  have V10 : zr_V v e1 e2 x 10 = v 10 := zr_Vo (by decide) q1.2.1 q2.2.1
  have eV : zs_err (zr_V v e1 e2 x) = 0 := (zr_errC V4 V10).trans he
  have et : zs_trl v su e1 e2 e1 e2 d x p = upd (zr_V v e1 e2 x) d p := by
    unfold zs_trl zs_wrt
    rw [show zs_set (upd v 4 (v 4 - 256)) e1 e2 x = zr_V v e1 e2 x from rfl, if_pos eV]
    unfold zr_V
    rw [zr_ss]
  have W16 := zr_16_upd (k := d) V16 hp
  have W4 : upd (zr_V v e1 e2 x) d p 4 &&& 255 = k := by rw [pk_un qd.1, V4]; exact hk
  obtain ⟨s1, s2, s3, s4, s5⟩ := zr_wcs W16 hn h10 W4 hk3
  have eW : zs_err (upd (zr_V v e1 e2 x) d p) = 0 := by
    by_cases k1 : k = 1
    · rw [← he]
      refine zr_errC ?_ ?_
      · rw [pk_un qd.1]; exact V4
      · rw [pk_un (qk k1)]; exact V10
    · exact zr_errK (by rw [W4]; exact k1)
  rw [et]
  refine ⟨rfl, eV, s1, s2, eW, ?_, s3 16 (by decide) (by decide) (by decide) (by decide), s4, s5⟩
  rw [zr_err s2]
  refine (zr_errC ?_ ?_).trans eW
  · rw [s3 4 (by decide) (by decide) (by decide) (by decide)]
  · exact s3 10 (by decide) (by decide) (by decide) (by decide)
/-- an error's translation -/
theorem zr_tre {v su : Nat → Int32} (h : ∀ i, zr_16 (v i)) {n : Nat} (hn : n ≤ 48) (h10 : 10 ≤ n) (ht : 2 ≤ v 4 / 256) (he : ¬ zs_err v = 0) {e1 e2 a b d : Nat} {x p : Int32} (hp : zr_16 p) (q1 : 4 ≠ e1 ∧ 10 ≠ e1 ∧ 18 ≠ e1) (q2 : 4 ≠ e2 ∧ 10 ≠ e2 ∧ 18 ≠ e2) (hab : a ≠ b) (had : a ≠ d) (hbd : b ≠ d) (h19 : 19 ≠ a ∧ 19 ≠ b ∧ 19 ≠ d) (h18 : 18 ≠ a ∧ 18 ≠ b ∧ 18 ≠ d) (h27 : 27 ≠ a ∧ 27 ≠ b ∧ 27 ≠ d) (h25 : v 18 &&& 255 = 1 → 25 ≠ a ∧ 25 ≠ b ∧ 25 ≠ d) (h4 : 4 ≠ a ∧ 4 ≠ b ∧ 4 ≠ d) (hx : 10 ≠ a ∧ 10 ≠ b ∧ 10 ≠ d)
    (qa : a ≠ e1 ∧ a ≠ e2) (qb : b ≠ e1 ∧ b ≠ e2) (qd : d ≠ e1 ∧ d ≠ e2) (hs1 : su 1 = zs_adr v a b) (hs2 : su 2 = v d) :
    zs_trl v su e1 e2 a b d x p = zv_co (zr_V v e1 e2 x) a b d x p ∧ (¬ zv_err (zr_V v e1 e2 x) = 0) ∧ zr_V v e1 e2 x 18 = v 18 ∧ zv_ws (zv_co (zr_V v e1 e2 x) a b d x p) n 1 = zs_wcs (zs_trl v su e1 e2 a b d x p) n ∧ (∀ j, zr_16 (zs_wcs (zs_trl v su e1 e2 a b d x p) n j)) ∧ (¬ zs_err (zs_trl v su e1 e2 a b d x p) = 0) ∧ (¬ zv_err (zs_wcs (zs_trl v su e1 e2 a b d x p) n) = 0) ∧ ((¬ zv_s1 (zr_V v e1 e2 x) a b d x p < 0) ∧ (¬ zv_s2 (zr_V v e1 e2 x) a b d x p < 0) ∧ ¬ zv_s3 (zr_V v e1 e2 x) a b d x p < 0) ∧ (¬ zs_tot (upd (zv_co (zr_V v e1 e2 x) a b d x p) 5 0) 0 10 0 < 0) ∧ ¬ zv_bt (upd (zv_hc (zv_co (zr_V v e1 e2 x) a b d x p)) (zv_at 1) 0) n 1 < 0 := by
  have V16 := zr_V16 h ht (e1 := e1) (e2 := e2) (x := x)
  have k1 := zr_errI he
  have V4 : zr_V v e1 e2 x 4 &&& 255 = v 4 &&& 255 := by rw [zr_V4 q1.1 q2.1]; exact (zr_tm (h 4) ht).2
  have V10 : zr_V v e1 e2 x 10 = v 10 := zr_Vo (by decide) q1.2.1 q2.2.1
  have V18 : zr_V v e1 e2 x 18 = v 18 := zr_Vo (by decide) q1.2.2 q2.2.2
  have Va : zr_V v e1 e2 x a = v a := zr_Vo (Ne.symm h4.1) qa.1 qa.2
  have Vb : zr_V v e1 e2 x b = v b := zr_Vo (Ne.symm h4.2.1) qb.1 qb.2
  have Vd : zr_V v e1 e2 x d = v d := zr_Vo (Ne.symm h4.2.2) qd.1 qd.2
  have eV : ¬ zs_err (zr_V v e1 e2 x) = 0 := by rw [zr_errC V4 V10]; exact he
  obtain ⟨c1, c2, c3, c4⟩ := zr_co V16 hab had hbd h19 h18 h27 (by rw [V18]; exact h25) x p hp
  have et : zs_trl v su e1 e2 a b d x p = zv_co (zr_V v e1 e2 x) a b d x p := by
    rw [c1, Va, Vb, Vd]
    unfold zs_trl zs_wrt
    rw [show zs_set (upd v 4 (v 4 - 256)) e1 e2 x = zr_V v e1 e2 x from rfl, if_neg eV, hs1, hs2, zr_adr_h h, zr_adr_l h]
  have W4 : zv_co (zr_V v e1 e2 x) a b d x p 4 = zr_V v e1 e2 x 4 := c3 4 (by decide) (by decide) (by decide) h4.1 h4.2.1 h4.2.2
  have W10 : zv_co (zr_V v e1 e2 x) a b d x p 10 = zr_V v e1 e2 x 10 := c3 10 (by decide) (by decide) (by decide) hx.1 hx.2.1 hx.2.2
  have eW : ¬ zs_err (zv_co (zr_V v e1 e2 x) a b d x p) = 0 := by rw [zr_errC (by rw [W4]) W10]; exact eV
  obtain ⟨s1, s2, s3, s4, s5⟩ := zr_wcs c2 hn h10 (k := 1) (by rw [W4, V4]; exact k1) (.inr (.inr rfl))
  rw [et]
  refine ⟨rfl, by rw [zr_err V16]; exact eV, V18, s1, s2, eW, ?_, c4, s4, s5⟩
  rw [zr_err s2, zr_errC (by rw [s3 4 (by decide) (by decide) (by decide) (by decide)]) (s3 10 (by decide) (by decide) (by decide) (by decide))]
  exact eW
