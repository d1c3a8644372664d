/-- a word of 16 bits -/
def zr_16 (x : Int32) : Prop := ∃ m : Nat, m < 65536 ∧ x = nI m
def zr_b (x : Int32) : Prop := x = 0 ∨ x = 1
/-- a flow of the class, and the same flow of the reference -/
def zr_f (g h : Nat → Int32) : Prop := (∀ a, a < 7 → h a = g a) ∧ h 7 = zs_flg g ∧ (g 0 = 1 ∨ g 0 = 6 ∨ g 0 = 17) ∧ zr_16 (g 2) ∧ (∃ p, p < 6 ∧ g 5 = nI (40000 + p)) ∧ zr_b (g 7) ∧ zr_b (g 8) ∧ zr_b (g 9)
def zr_F (pm : Nat → Nat) (c : Nat) (fl fa : Nat → Nat → Int32) : Prop := (∀ i, i < c → zr_f (fl (pm i)) (fun a => fa a i)) ∧
  ∀ i j, i < c → j < c → fl (pm i) 0 = fl (pm j) 0 → fl (pm i) 1 = fl (pm j) 1 → fl (pm i) 2 = fl (pm j) 2 → fl (pm i) 5 = fl (pm j) 5
/-- a rule of the class, and the same rule of the reference -/
def zr_u (g h : Nat → Int32) : Prop := (g 0 = 0 ∧ h 0 = -1 ∨ g 0 = 1 ∧ h 0 = g 1 ∧ h 1 = g 2 ∧ h 2 = g 3 ∧ h 3 = g 4 ∧ (g 1 = 0 ∨ g 1 = 1 ∨ g 1 = 6 ∨ g 1 = 17)) ∧ zr_b (g 4) ∧ zr_b (h 3)
def zr_U (ru ra : Nat → Nat → Int32) : Prop := ∀ i, zr_u (ru i) (fun a => ra a i)
/-- the class's state beside the reference's -/
def zr_R (v : Nat → Int32) (n : Nat) (lv la : Nat → Int32) (nl : Nat) (pm : Nat → Nat) (c : Nat) (fl fa ru ra : Nat → Nat → Int32) : Prop :=
  n ≤ 48 ∧ nl ≤ 48 ∧ c ≤ 12 ∧ (∀ i, zr_16 (v i)) ∧ (∀ i, i < nl → la i = lv i) ∧ (∀ i, pm i < 12) ∧ zs_inj pm ∧ zr_F pm c fl fa ∧ zr_U ru ra
theorem zk_comm {G : zz_G} {F : Nat → va_E} {v : Nat → Int32} {sz : Int32} {lv : Nat → Int32} {lz : Int32} {su : Nat → Int32} {pm : Nat → Nat} {cn : Int32} {fl ru : Nat → Nat → Int32} {w : Nat → Int32} {sz2 : Int32} {la : Nat → Int32} {lz2 : Int32} {ra : Nat → Nat → Int32} {fn : Int32} {fa : Nat → Nat → Int32} {cd : Int32} :
    zz_K G (zz_N G F w sz2 la lz2 ra fn fa cd) v sz lv lz su pm cn fl ru = zz_N G (zz_K G F v sz lv lz su pm cn fl ru) w sz2 la lz2 ra fn fa cd := by
  refine zk_ext rfl rfl rfl rfl rfl rfl rfl rfl rfl rfl rfl rfl rfl rfl rfl rfl rfl rfl rfl rfl rfl rfl rfl rfl rfl rfl (fun k hk => ?_)
  rw [zk_hi hk]
  by_cases h : 41 ≤ k
  · rw [zn_hi h, zn_hi h, zk_hi hk]
  · unfold zz_N
    have h1 : Nat.ble k 25 = false := by
      cases hb : Nat.ble k 25 with
      | false => rfl
      | true => exact absurd (Nat.le_of_ble_eq_true hb) (by omega)
    have h2 : Nat.ble 41 k = false := by
      cases hb : Nat.ble 41 k with
      | false => rfl
      | true => exact absurd (Nat.le_of_ble_eq_true hb) (by omega)
    rw [h1, h2]
    rfl
theorem zr_16_and (x : Int32) : zr_16 (x &&& 65535) := by
  obtain ⟨j, hj, e⟩ := pk_andE x (m := 65535) 16 (by decide)
  exact ⟨j, by omega, e⟩
theorem zr_16_upd {v : Nat → Int32} {k : Nat} {x : Int32} (h : ∀ i, zr_16 (v i)) (hx : zr_16 x) : ∀ i, zr_16 (upd v k x i) := by
  intro i
  unfold upd
  split
  · exact hx
  · exact h i
