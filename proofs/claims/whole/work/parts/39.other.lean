theorem zr_swap {W : Nat → Int32} {a b d i : Nat} {x p S : Int32} (ha : i ≠ a) (hb : i ≠ b) (hd : i ≠ d) : upd (upd (zs_set W a b x) d p) i S = upd (zs_set (upd W i S) a b x) d p := by
  unfold zs_set
  funext j
  by_cases e : j = i
  · subst e
    rw [pk_us, pk_un hd, pk_un hb, pk_un ha, pk_us]
  · rw [pk_un e]
    by_cases e1 : j = d
    · subst e1
      rw [pk_us, pk_us]
    · rw [pk_un e1, pk_un e1]
      by_cases e2 : j = b
      · subst e2
        rw [pk_us, pk_us]
      · rw [pk_un e2, pk_un e2]
        by_cases e3 : j = a
        · subst e3
          rw [pk_us, pk_us]
        · rw [pk_un e3, pk_un e3, pk_un e]
theorem zr_c1a {V : Nat → Int32} {a b d : Nat} {x p : Int32} (h1 : a ≠ b) (h2 : a ≠ d) : zv_c1 V a b d x p a = zs_ush x 16 := (pk_un h2).trans ((pk_un h1).trans pk_us)
theorem zr_c1b {V : Nat → Int32} {a b d : Nat} {x p : Int32} (h2 : b ≠ d) : zv_c1 V a b d x p b = x &&& 65535 := (pk_un h2).trans pk_us
theorem zr_c1o {V : Nat → Int32} {a b d j : Nat} {x p : Int32} (h1 : j ≠ a) (h2 : j ≠ b) (h3 : j ≠ d) : zv_c1 V a b d x p j = V j := (pk_un h3).trans ((pk_un h2).trans (pk_un h1))
theorem zr_co {V : Nat → Int32} (h : ∀ i, zr_16 (V i)) {a b d : Nat} (hab : a ≠ b) (had : a ≠ d) (hbd : b ≠ d) (h19 : 19 ≠ a ∧ 19 ≠ b ∧ 19 ≠ d) (h18 : 18 ≠ a ∧ 18 ≠ b ∧ 18 ≠ d) (h27 : 27 ≠ a ∧ 27 ≠ b ∧ 27 ≠ d) (h25 : V 18 &&& 255 = 1 → 25 ≠ a ∧ 25 ≠ b ∧ 25 ≠ d) (x p : Int32) (hp : zr_16 p) :
    zv_co V a b d x p = upd (zs_set (zs_ado V (zs_chg (V a) (zs_ush x 16) + zs_chg (V b) (x &&& 65535)) (zs_chg (V d) p)) a b x) d p ∧ (∀ j, zr_16 (zv_co V a b d x p j)) ∧ (∀ j, j ≠ 19 → j ≠ 25 → j ≠ 27 → j ≠ a → j ≠ b → j ≠ d → zv_co V a b d x p j = V j) ∧ (¬ zv_s1 V a b d x p < 0) ∧ (¬ zv_s2 V a b d x p < 0) ∧ ¬ zv_s3 V a b d x p < 0 := by
  have c16 : ∀ j, zr_16 (zv_c1 V a b d x p j) := zr_16_upd (zr_16_set h) hp
  have e1 : zv_s1 V a b d x p = zv_adj (zv_adj (65535 - V 19) (V a) (zs_ush x 16)) (V b) (x &&& 65535) := by
    unfold zv_s1
    rw [zr_c1a hab had, zr_c1b hbd, zr_c1o h19.1 h19.2.1 h19.2.2]
  obtain ⟨t1, b1, n1⟩ := zr_s1N (h 19) (h a) (zr_16_ush x) (h b) (zr_16_and x)
  obtain ⟨w1, f1⟩ := zr_16s b1 n1
  have c2e : zv_c2 V a b d x p = upd (zv_c1 V a b d x p) 19 (65535 - zs_sum (zv_adj (zv_adj (65535 - V 19) (V a) (zs_ush x 16)) (V b) (x &&& 65535))) := by
    unfold zv_c2
    rw [e1, f1]
  have d16 : ∀ j, zr_16 (zv_c2 V a b d x p j) := by
    rw [c2e]
    exact zr_16_upd c16 w1
  have oo : ∀ j, j ≠ 19 → zv_c2 V a b d x p j = zv_c1 V a b d x p j := fun j q => by rw [c2e, pk_un q]
  have e2 : zv_s2 V a b d x p = zv_adj (zv_adj (zv_adj (65535 - V 27) (V a) (zs_ush x 16)) (V b) (x &&& 65535)) (V d) p := by
    unfold zv_s2
    rw [oo 27 (by decide), oo a (Ne.symm h19.1), oo b (Ne.symm h19.2.1), zr_c1a hab had, zr_c1b hbd, zr_c1o h27.1 h27.2.1 h27.2.2]
  have e3 : zv_s3 V a b d x p = zv_adj (65535 - zv_c2 V a b d x p 25) (V d) p := by
    unfold zv_s3
    rfl
  obtain ⟨t2, b2, n2⟩ := zr_s2N (h 27) (h a) (zr_16_ush x) (h b) (zr_16_and x) (h d) hp
  obtain ⟨w2, f2⟩ := zr_16s b2 n2
  obtain ⟨t3, b3, n3⟩ := zr_s3N (d16 25) (h d) hp
  obtain ⟨w3, f3⟩ := zr_16s b3 n3
  have g18 : zv_c2 V a b d x p 18 = V 18 := (oo 18 (by decide)).trans (zr_c1o h18.1 h18.2.1 h18.2.2)
  have g27 : zv_c2 V a b d x p 27 = V 27 := (oo 27 (by decide)).trans (zr_c1o h27.1 h27.2.1 h27.2.2)
  have k18 : zs_adj V 19 (zs_chg (V a) (zs_ush x 16) + zs_chg (V b) (x &&& 65535)) 18 = V 18 := pk_un (by decide)
  have k27 : zs_adj V 19 (zs_chg (V a) (zs_ush x 16) + zs_chg (V b) (x &&& 65535)) 27 = V 27 := pk_un (by decide)
  have k25 : zs_adj V 19 (zs_chg (V a) (zs_ush x 16) + zs_chg (V b) (x &&& 65535)) 25 = V 25 := pk_un (by decide)
  have o2 : ∀ j, j ≠ 19 → j ≠ a → j ≠ b → j ≠ d → zv_c2 V a b d x p j = V j := fun j q1 q2 q3 q4 => (oo j q1).trans (zr_c1o q2 q3 q4)
  have cc : zv_c2 V a b d x p = upd (zs_set (zs_adj V 19 (zs_chg (V a) (zs_ush x 16) + zs_chg (V b) (x &&& 65535))) a b x) d p := by
    rw [c2e]
    unfold zv_c1
    rw [zr_swap h19.1 h19.2.1 h19.2.2]
    unfold zs_adj
    rw [zr_e1]
  have ob : ∀ (i : Nat) (S : Int32), i ≠ a → i ≠ b → i ≠ d → upd (zv_c2 V a b d x p) i S = upd (zs_set (upd (zs_adj V 19 (zs_chg (V a) (zs_ush x 16) + zs_chg (V b) (x &&& 65535))) i S) a b x) d p := fun i S q1 q2 q3 => by rw [cc, zr_swap q1 q2 q3]
  refine ⟨?_, ?_, ?_, by rw [e1, n1]; exact nI_pos (by omega), by rw [e2, n2]; exact nI_pos (by omega), by rw [e3, n3]; exact nI_pos (by omega)⟩
  · unfold zv_co zs_ado
    rw [g18, g27, k18, k27]
    by_cases k17 : V 18 &&& 255 = 17
    · have k1 : ¬ V 18 &&& 255 = 1 := by rw [k17]; decide
      rw [if_pos k17, if_pos k17]
      by_cases z : V 27 = 0
      · rw [if_pos z, if_pos z, if_neg k1, if_neg k1]
        exact cc
      · rw [if_neg z, if_neg z, e2, f2, ob 27 _ h27.1 h27.2.1 h27.2.2]
        have q : zs_adj (zs_adj V 19 (zs_chg (V a) (zs_ush x 16) + zs_chg (V b) (x &&& 65535))) 27 (zs_chg (V a) (zs_ush x 16) + zs_chg (V b) (x &&& 65535) + zs_chg (V d) p) = upd (zs_adj V 19 (zs_chg (V a) (zs_ush x 16) + zs_chg (V b) (x &&& 65535))) 27 (65535 - zs_sum (65535 - zs_adj V 19 (zs_chg (V a) (zs_ush x 16) + zs_chg (V b) (x &&& 65535)) 27 + (zs_chg (V a) (zs_ush x 16) + zs_chg (V b) (x &&& 65535) + zs_chg (V d) p))) := by
          rw [zs_adj]
        rw [q, k27, zr_e2]
    · rw [if_neg k17, if_neg k17]
      by_cases k1 : V 18 &&& 255 = 1
      · obtain ⟨q1, q2, q3⟩ := h25 k1
        have g25 : zv_c2 V a b d x p 25 = V 25 := (oo 25 (by decide)).trans (zr_c1o q1 q2 q3)
        rw [if_pos k1, if_pos k1, e3, f3, g25, ob 25 _ q1 q2 q3]
        have q : zs_adj (zs_adj V 19 (zs_chg (V a) (zs_ush x 16) + zs_chg (V b) (x &&& 65535))) 25 (zs_chg (V d) p) = upd (zs_adj V 19 (zs_chg (V a) (zs_ush x 16) + zs_chg (V b) (x &&& 65535))) 25 (65535 - zs_sum (65535 - zs_adj V 19 (zs_chg (V a) (zs_ush x 16) + zs_chg (V b) (x &&& 65535)) 25 + zs_chg (V d) p)) := by
          rw [zs_adj]
        rw [q, k25, zr_e3]
      · rw [if_neg k1, if_neg k1]
        exact cc
  · unfold zv_co
    rw [g18, g27, e2, e3, f2, f3]
    by_cases k17 : V 18 &&& 255 = 17
    · rw [if_pos k17]
      by_cases z : V 27 = 0
      · rw [if_pos z]
        by_cases k1 : V 18 &&& 255 = 1
        · rw [if_pos k1]; exact zr_16_upd d16 w3
        · rw [if_neg k1]; exact d16
      · rw [if_neg z]; exact zr_16_upd d16 w2
    · rw [if_neg k17]
      by_cases k1 : V 18 &&& 255 = 1
      · rw [if_pos k1]; exact zr_16_upd d16 w3
      · rw [if_neg k1]; exact d16
  · intro j q1 q25 q27 q2 q3 q4
    unfold zv_co
    rw [g18, g27]
    by_cases k17 : V 18 &&& 255 = 17
    · rw [if_pos k17]
      by_cases z : V 27 = 0
      · rw [if_pos z]
        by_cases k1 : V 18 &&& 255 = 1
        · rw [if_pos k1, pk_un q25]; exact o2 j q1 q2 q3 q4
        · rw [if_neg k1]; exact o2 j q1 q2 q3 q4
      · rw [if_neg z, pk_un q27]; exact o2 j q1 q2 q3 q4
    · rw [if_neg k17]
      by_cases k1 : V 18 &&& 255 = 1
      · rw [if_pos k1, pk_un q25]; exact o2 j q1 q2 q3 q4
      · rw [if_neg k1]; exact o2 j q1 q2 q3 q4
