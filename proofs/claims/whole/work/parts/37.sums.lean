def zr_v (v : Nat → Int32) (i : Nat) : Nat := (v i).toNatClampNeg
theorem zr_vE {v : Nat → Int32} (h : ∀ i, zr_16 (v i)) (i : Nat) : v i = nI (zr_v v i) ∧ zr_v v i < 65536 := by
  obtain ⟨m, hm, e⟩ := h i
  unfold zr_v
  rw [e, nI_clamp (by omega)]
  exact ⟨rfl, hm⟩
def zr_nt (v : Nat → Int32) : Nat → Nat → Nat
  | _, 0 => 0
  | i, n + 1 => zr_v v i + zr_nt v (i + 1) n
theorem zr_ntB {v : Nat → Int32} (h : ∀ i, zr_16 (v i)) : ∀ (n i : Nat), zr_nt v i n ≤ n * 65535
  | 0, _ => Nat.le_refl _
  | n + 1, i => by
    have := zr_ntB h n (i + 1)
    have := (zr_vE h i).2
    rw [zr_nt]
    omega
theorem zr_tot {v : Nat → Int32} (h : ∀ i, zr_16 (v i)) : ∀ (n i a : Nat), zs_tot v i n (nI a) = nI (a + zr_nt v i n)
  | 0, _, _ => rfl
  | n + 1, i, a => by
    rw [zs_tot, (zr_vE h i).1, nI_add, zr_tot h n, zr_nt, Nat.add_assoc]
theorem zr_tot0 {v : Nat → Int32} (h : ∀ i, zr_16 (v i)) (i n : Nat) : zs_tot v i n 0 = nI (zr_nt v i n) := by
  have := zr_tot h n i 0
  rw [nI_0, Nat.zero_add] at this
  exact this
theorem zr_ntS (v : Nat → Int32) : ∀ (a i b : Nat), zr_nt v i (a + b) = zr_nt v i a + zr_nt v (i + a) b
  | 0, i, b => by rw [Nat.zero_add, zr_nt, Nat.zero_add]; rfl
  | a + 1, i, b => by
    rw [Nat.add_right_comm, zr_nt, zr_nt, zr_ntS v a (i + 1) b, show i + 1 + a = i + (a + 1) by omega]
    omega
theorem zr_fold {m : Nat} (h : m < 2 ^ 31) : zv_fold m = if m ≤ 65535 then m else if m % 65536 + m / 65536 ≤ 65535 then m % 65536 + m / 65536 else (m % 65536 + m / 65536) - 65536 + 1 := by
  rw [zv_fold]
  by_cases h1 : m ≤ 65535
  · rw [if_pos h1, if_pos h1]
  · rw [if_neg h1, if_neg h1, zv_fold]
    by_cases h2 : m % 65536 + m / 65536 ≤ 65535
    · rw [if_pos h2, if_pos h2]
    · rw [if_neg h2, if_neg h2, zv_fold]
      have : (m % 65536 + m / 65536) % 65536 + (m % 65536 + m / 65536) / 65536 = (m % 65536 + m / 65536) - 65536 + 1 := by omega
      rw [if_pos (by omega), this]
theorem zr_foldB {m : Nat} (h : m < 2 ^ 31) : zv_fold m < 65536 := by
  rw [zr_fold h]
  by_cases h1 : m ≤ 65535
  · rw [if_pos h1]; omega
  · rw [if_neg h1]
    by_cases h2 : m % 65536 + m / 65536 ≤ 65535
    · rw [if_pos h2]; omega
    · rw [if_neg h2]; omega
theorem zr_fo {m : Nat} (h : m < 2 ^ 31) : zv_fo (nI m) = nI (zv_fold m) := by
  unfold zv_fo
  rw [nI_clamp h]
theorem zr_ush16 {m : Nat} (h : m < 2 ^ 32) : zs_ush (nI m) 16 = nI (m / 65536) := pk_ushrN h 16 16 (by decide)
theorem zr_and16 {m : Nat} (h : m < 2 ^ 32) : nI m &&& 65535 = nI (m % 65536) := pk_andN h 16 (by decide)
theorem zr_sum {m : Nat} (h : m < 2 ^ 31) : zs_sum (nI m) = nI (zv_fold m) := by
  unfold zs_sum
  rw [zr_and16 (by omega), zr_ush16 (by omega), nI_add, zr_and16 (by omega), zr_ush16 (by omega), nI_add, zr_fold h]
  by_cases h1 : m ≤ 65535
  · rw [if_pos h1]; refine congrArg nI ?_; omega
  · rw [if_neg h1]
    by_cases h2 : m % 65536 + m / 65536 ≤ 65535
    · rw [if_pos h2]; refine congrArg nI ?_; omega
    · rw [if_neg h2]; refine congrArg nI ?_; omega
theorem zr_sumE {m : Nat} (h : m < 2 ^ 31) : zs_sum (nI m) = zv_fo (nI m) := (zr_sum h).trans (zr_fo h).symm
theorem zr_16c {m : Nat} (h : m < 2 ^ 31) : zr_16 (65535 - zs_sum (nI m)) := by
  rw [zr_sum h]
  have := zr_foldB h
  exact ⟨65535 - zv_fold m, by omega, pk_sub (a := 65535) (by omega)⟩
theorem zr_kd (x : Int32) : ∃ k : Nat, k < 256 ∧ x &&& 255 = nI k := pk_andE x 8 (by decide)
/-- the body's total as a number -/
theorem zr_btN {v : Nat → Int32} (h : ∀ i, zr_16 (v i)) {n : Nat} (hn : n ≤ 48) (h10 : 10 ≤ n) (x : Int32) (k : Int32) (hk : k = x &&& 255) : ∃ m : Nat, m < 2 ^ 31 ∧ zv_bt v n k = nI m := by
  unfold zv_bt
  have b1 := zr_ntB h (n - 10) 10
  have b2 := zr_ntB h 4 6
  obtain ⟨q, hq, e⟩ := zr_kd x
  by_cases h1 : k = 1
  · rw [if_pos h1, zr_tot0 h]
    exact ⟨_, by omega, rfl⟩
  · rw [if_neg h1, zr_tot0 h, zr_tot0 h, hk, e, show nI n - 10 = nI (n - 10) from pk_sub (b := 10) h10, show (2 : Int32) * nI (n - 10) = nI (2 * (n - 10)) from pk_mul 2 _, nI_add, nI_add, nI_add]
    exact ⟨_, by omega, rfl⟩
theorem zr_btE {v : Nat → Int32} (h : ∀ i, zr_16 (v i)) {n : Nat} (h10 : 10 ≤ n) : zs_bt v n = zv_bt v n (v 4 &&& 255) := by
  unfold zs_bt zv_bt
  by_cases h1 : v 4 &&& 255 = 1
  · rw [if_pos h1, if_pos h1]
  · rw [if_neg h1, if_neg h1, zr_tot0 h, zr_tot0 h, zr_tot0 h, nI_add]
    have e : n - 6 = 4 + (n - 10) := by omega
    rw [e, zr_ntS, Nat.add_comm (zr_nt v 6 4)]
theorem zr_nn {m : Nat} (h : m < 2 ^ 31) : ¬ nI m < 0 := nI_pos h
theorem zr_tnn {v : Nat → Int32} (h : ∀ i, zr_16 (v i)) : ¬ zs_tot v 0 10 0 < 0 := by
  rw [zr_tot0 h]
  have := zr_ntB h 10 0
  exact nI_pos (by omega)
theorem zr_bnn {v : Nat → Int32} (h : ∀ i, zr_16 (v i)) {n : Nat} (hn : n ≤ 48) (h10 : 10 ≤ n) (x : Int32) (k : Int32) (hk : k = x &&& 255) : ¬ zv_bt v n k < 0 := by
  obtain ⟨m, hm, e⟩ := zr_btN h hn h10 x k hk
  rw [e]
  exact nI_pos hm
theorem zr_shr8 {x : Int32} (h : zr_16 x) : x >>> ((8 : Int32) &&& 31) = x / 256 := by
  obtain ⟨m, hm, rfl⟩ := h
  rw [pk_shrN (by omega) _ 8 (by decide), show (256 : Int32) = nI 256 from rfl, pk_div (by omega) (by decide) (by decide)]
theorem zr_shr12 {x : Int32} (h : zr_16 x) : x >>> ((12 : Int32) &&& 31) = x / 4096 := by
  obtain ⟨m, hm, rfl⟩ := h
  rw [pk_shrN (by omega) _ 12 (by decide), show (4096 : Int32) = nI 4096 from rfl, pk_div (by omega) (by decide) (by decide)]
theorem zr_err {v : Nat → Int32} (h : ∀ i, zr_16 (v i)) : zv_err v = zs_err v := by
  unfold zv_err zs_err
  rw [zr_shr8 (h 10)]
theorem zr_wf {v : Nat → Int32} (h : ∀ i, zr_16 (v i)) {n : Nat} (hn : n ≤ 48) : zs_wf v n = zv_wl v n := by
  unfold zs_wf zv_wl zv_wb zs_agr zs_oth zs_req zs_rep
  by_cases h10 : nI n < 10
  · rw [if_pos h10, if_pos h10]
  have hn10 : 10 ≤ n := Nat.le_of_not_lt (fun q => h10 (nI_lt (b := 10) q (by decide)))
  have bt := zr_ntB h 10 0
  rw [if_neg h10, if_neg h10, zr_shr8 (h 0), zr_shr12 (h 16), zr_shr8 (h 14), zr_tot0 h 0 10, zr_sumE (by omega), zr_btE h hn10, zr_err h, zr_isk, zr_isk]
  obtain ⟨m, hm, eb⟩ := zr_btN h hn hn10 (v 4) _ rfl
  rw [eb, zr_sumE hm]
  have e2 : ∀ {P : Prop} [Decidable P] {a : Int32}, (¬ P) → (if P then a else 0) = 0 := fun h => if_neg h
  by_cases a0 : v 0 / 256 = 69
  case neg => rw [e2 a0, e2 a0]
  by_cases a1 : v 1 = 2 * nI n
  case neg => simp only [a0, a1, if_true, if_false]
  by_cases a3 : v 3 &&& 49151 = 0
  case neg => simp only [a0, a1, a3, if_true, if_false]
  by_cases as : zv_fo (nI (zr_nt v 0 10)) = 65535
  case neg => simp only [a0, a1, a3, as, if_true, if_false]
  simp only [a0, a1, a3, as, if_true]
  have l14 : nI n < 14 ↔ ¬ 14 ≤ nI n := Int32.not_le.symm
  have l20 : nI n < 20 ↔ ¬ 20 ≤ nI n := Int32.not_le.symm
  by_cases k1 : v 4 &&& 255 = 1
  · have i1 : ¬ zs_isk (1 : Int32) = 0 := by decide
    have i2 : ¬ (1 : Int32) = 6 := by decide
    have i3 : ¬ (1 : Int32) = 17 := by decide
    have er : zs_err v = if v 10 / 256 = 3 then 1 else if v 10 / 256 = 11 then 1 else 0 := by
      unfold zs_err
      rw [if_pos k1, zr_shr8 (h 10)]
    simp only [k1, i1, i2, i3, if_true, if_false]
    by_cases n14 : nI n < 14
    · simp only [n14, l14.mp n14, if_true, if_false]
    · have n14' : 14 ≤ nI n := Int32.not_lt.mp n14
      simp only [n14, n14', if_true, if_false]
      by_cases ag : zv_fo (nI m) = 65535
      · have o1 : ¬ (1 : Int32) = 0 := by decide
        simp only [ag, o1, if_true, if_false]
        by_cases q1 : v 10 = 2048
        · have e0 : zs_err v = 0 := by rw [er, q1]; decide
          simp only [q1, e0, o1, if_true, if_false]
        · by_cases q0 : v 10 = 0
          · have e0 : zs_err v = 0 := by rw [er, q0]; decide
            simp only [q1, q0, e0, o1, if_true, if_false]
            decide
          · simp only [q1, q0, if_true, if_false]
            by_cases e0 : zs_err v = 0
            · simp only [e0, if_true]
            · simp only [e0, if_false]
      · simp only [ag, if_true, if_false]
  by_cases k6 : v 4 &&& 255 = 6
  · have i1 : ¬ zs_isk (6 : Int32) = 0 := by decide
    have i2 : ¬ (6 : Int32) = 1 := by decide
    have o1 : ¬ (1 : Int32) = 0 := by decide
    simp only [k6, i1, i2, if_true, if_false]
    by_cases n20 : nI n < 20
    · simp only [n20, l20.mp n20, if_true, if_false]
    · have n20' : 20 ≤ nI n := Int32.not_lt.mp n20
      simp only [n20, n20', if_true, if_false]
      by_cases ag : zv_fo (nI m) = 65535
      · by_cases w16 : v 16 / 4096 = 5
        · simp only [ag, w16, o1, if_true, if_false]
        · simp only [ag, w16, if_true, if_false]
      · by_cases w16 : v 16 / 4096 = 5
        · simp only [ag, w16, if_true, if_false]
        · simp only [ag, w16, if_true, if_false]
  by_cases k17 : v 4 &&& 255 = 17
  · have i1 : ¬ zs_isk (17 : Int32) = 0 := by decide
    have i2 : ¬ (17 : Int32) = 1 := by decide
    have i3 : ¬ (17 : Int32) = 6 := by decide
    have o1 : ¬ (1 : Int32) = 0 := by decide
    simp only [k17, i1, i2, i3, if_true, if_false]
    by_cases n14 : nI n < 14
    · simp only [n14, l14.mp n14, if_true, if_false]
    · have n14' : 14 ≤ nI n := Int32.not_lt.mp n14
      simp only [n14, n14', if_true, if_false]
      by_cases ag : zv_fo (nI m) = 65535
      · by_cases w12 : v 12 = 2 * (nI n - 10)
        · by_cases w13 : v 13 = 0
          · simp only [ag, w12, w13, o1, if_true, if_false]
          · simp only [ag, w12, w13, o1, if_true, if_false]
        · simp only [ag, w12, if_true, if_false]
      · by_cases w12 : v 12 = 2 * (nI n - 10)
        · by_cases w13 : v 13 = 0
          · simp only [ag, w12, w13, o1, if_true, if_false]
          · simp only [ag, w12, w13, if_true, if_false]
        · simp only [ag, w12, if_true, if_false]
  · have i1 : zs_isk (v 4 &&& 255) = 0 := by
      unfold zs_isk
      rw [if_neg k1, if_neg k6, if_neg k17]
    simp only [k1, k6, k17, i1, if_true, if_false]
