theorem zr_mod {pm : Nat → Nat} {c : Nat} {fl fa fa' : Nat → Nat → Int32} {g' : Nat → Int32} {k : Nat} (hF : zr_F pm c fl fa) (hj : zs_inj pm) (hc : c ≤ 12) (hk : k < c) (h' : zr_f g' (fun a => fa' a k)) (e0 : g' 0 = fl (pm k) 0) (e1 : g' 1 = fl (pm k) 1) (e2 : g' 2 = fl (pm k) 2) (e5 : g' 5 = fl (pm k) 5) (ho : ∀ a i, i ≠ k → fa' a i = fa a i) : zr_F pm c (va_up fl (pm k) g') fa' := by
  have key : ∀ i, i < c → i ≠ k → va_up fl (pm k) g' (pm i) = fl (pm i) := fun i hi hne => zz_ne (fun q => hne (hj i k (by omega) (by omega) q))
  have same : ∀ i, i < c → ∀ a, (a = 0 ∨ a = 1 ∨ a = 2 ∨ a = 5) → va_up fl (pm k) g' (pm i) a = fl (pm i) a := by
    intro i hi a ha
    by_cases e : i = k
    · subst e
      rw [zz_eq]
      rcases ha with rfl | rfl | rfl | rfl
      · exact e0
      · exact e1
      · exact e2
      · exact e5
    · rw [key i hi e]
  refine ⟨fun i hi => ?_, fun i j hi hj2 q0 q1 q2 => ?_⟩
  · by_cases e : i = k
    · subst e
      rw [zz_eq]
      exact h'
    · rw [key i hi e]
      have q := hF.1 i hi
      have w : (fun a => fa' a i) = (fun a => fa a i) := funext (fun a => ho a i e)
      rw [w]
      exact q
  · rw [same i hi _ (.inl rfl), same j hj2 _ (.inl rfl)] at q0
    rw [same i hi _ (.inr (.inl rfl)), same j hj2 _ (.inr (.inl rfl))] at q1
    rw [same i hi _ (.inr (.inr (.inl rfl))), same j hj2 _ (.inr (.inr (.inl rfl)))] at q2
    rw [same i hi _ (.inr (.inr (.inr rfl))), same j hj2 _ (.inr (.inr (.inr rfl)))]
    exact hF.2 i j hi hj2 q0 q1 q2
/-- the flow that stands at row j once row k of c is gone -/
def zr_sg (k j : Nat) : Nat := if k ≤ j then j + 1 else j
theorem zr_shfE {pm : Nat → Nat} (i n j : Nat) : zs_shf pm i n j = if i ≤ j ∧ j < i + n then pm (j + 1) else pm j := by
  induction n generalizing pm i with
  | zero => rw [if_neg (by omega)]; rfl
  | succ n ih =>
    rw [zs_shf, ih]
    by_cases h1 : i + 1 ≤ j ∧ j < i + 1 + n
    · rw [if_pos h1, if_pos (by omega), zz_ne (by omega)]
    · rw [if_neg h1]
      by_cases h2 : j = i
      · subst h2
        rw [if_pos (by omega), zz_eq]
      · rw [if_neg (by omega), zz_ne h2]
theorem zr_sh1E {fa : Nat → Nat → Int32} (i a j : Nat) (ha : a < 8) : zv_sh1 fa i a j = if j = i then fa a (i + 1) else fa a j := by
  have u : ∀ f : Nat → Int32, upd f i (f (i + 1)) j = if j = i then f (i + 1) else f j := fun f => rfl
  match a, ha with
  | 0, _ => exact u (fa 0)
  | 1, _ => exact u (fa 1)
  | 2, _ => exact u (fa 2)
  | 3, _ => exact u (fa 3)
  | 4, _ => exact u (fa 4)
  | 5, _ => exact u (fa 5)
  | 6, _ => exact u (fa 6)
  | 7, _ => exact u (fa 7)
  | k + 8, h => exact absurd h (by omega)
theorem zr_vshE {fa : Nat → Nat → Int32} (i n a j : Nat) (ha : a < 8) : zv_shf fa i n a j = if i ≤ j ∧ j < i + n then fa a (j + 1) else fa a j := by
  induction n generalizing fa i with
  | zero => rw [if_neg (by omega)]; rfl
  | succ n ih =>
    rw [zv_shf, ih]
    by_cases h1 : i + 1 ≤ j ∧ j < i + 1 + n
    · rw [if_pos h1, if_pos (by omega), zr_sh1E _ _ _ ha, if_neg (by omega)]
    · rw [if_neg h1]
      by_cases h2 : j = i
      · subst h2
        rw [if_pos (by omega), zr_sh1E _ _ _ ha, if_pos rfl]
      · rw [if_neg (by omega), zr_sh1E _ _ _ ha, if_neg h2]
theorem zr_fcong {g h h' : Nat → Int32} (e : ∀ a, a < 8 → h' a = h a) (q : zr_f g h) : zr_f g h' := ⟨fun a ha => (e a (by omega)).trans (q.1 a ha), (e 7 (by decide)).trans q.2.1, q.2.2⟩
def zr_ta (k c j : Nat) : Nat := if j < k then j else if j < c - 1 then j + 1 else if j = c - 1 then k else j
theorem zr_endE {pm : Nat → Nat} (k c j : Nat) (hk : k < c) : zs_end pm k c j = pm (zr_ta k c j) := by
  unfold zs_end zr_ta
  by_cases e : j = c - 1
  · subst e
    rw [zz_eq, if_neg (by omega), if_neg (by omega), if_pos rfl]
  · rw [zz_ne e, zr_shfE]
    by_cases h1 : j < k
    · rw [if_neg (by omega), if_pos h1]
    · by_cases h2 : j < c - 1
      · rw [if_pos (by omega), if_neg h1, if_pos h2]
      · rw [if_neg (by omega), if_neg h1, if_neg h2, if_neg e]
theorem zr_taI {k c i j : Nat} (hk : k < c) (h : zr_ta k c i = zr_ta k c j) : i = j := by
  unfold zr_ta at h
  by_cases a1 : i < k
  · rw [if_pos a1] at h
    by_cases b1 : j < k
    · rw [if_pos b1] at h; exact h
    · rw [if_neg b1] at h
      by_cases b2 : j < c - 1
      · rw [if_pos b2] at h; omega
      · rw [if_neg b2] at h
        by_cases b3 : j = c - 1
        · rw [if_pos b3] at h; omega
        · rw [if_neg b3] at h; omega
  · rw [if_neg a1] at h
    by_cases a2 : i < c - 1
    · rw [if_pos a2] at h
      by_cases b1 : j < k
      · rw [if_pos b1] at h; omega
      · rw [if_neg b1] at h
        by_cases b2 : j < c - 1
        · rw [if_pos b2] at h; omega
        · rw [if_neg b2] at h
          by_cases b3 : j = c - 1
          · rw [if_pos b3] at h; omega
          · rw [if_neg b3] at h; omega
    · rw [if_neg a2] at h
      by_cases a3 : i = c - 1
      · rw [if_pos a3] at h
        by_cases b1 : j < k
        · rw [if_pos b1] at h; omega
        · rw [if_neg b1] at h
          by_cases b2 : j < c - 1
          · rw [if_pos b2] at h; omega
          · rw [if_neg b2] at h
            by_cases b3 : j = c - 1
            · omega
            · rw [if_neg b3] at h; omega
      · rw [if_neg a3] at h
        by_cases b1 : j < k
        · rw [if_pos b1] at h; omega
        · rw [if_neg b1] at h
          by_cases b2 : j < c - 1
          · rw [if_pos b2] at h; omega
          · rw [if_neg b2] at h
            by_cases b3 : j = c - 1
            · rw [if_pos b3] at h; omega
            · rw [if_neg b3] at h; exact h
theorem zr_taL {k c j : Nat} (hk : k < c) (hc : c ≤ 12) (hj : j < 12) : zr_ta k c j < 12 := by
  unfold zr_ta
  by_cases a1 : j < k
  · rw [if_pos a1]; omega
  · rw [if_neg a1]
    by_cases a2 : j < c - 1
    · rw [if_pos a2]; omega
    · rw [if_neg a2]
      by_cases a3 : j = c - 1
      · rw [if_pos a3]; omega
      · rw [if_neg a3]; omega
theorem zr_end {pm : Nat → Nat} {c : Nat} {fl fa : Nat → Nat → Int32} {k : Nat} (hF : zr_F pm c fl fa) (hj : zs_inj pm) (hc : c ≤ 12) (hk : k < c) : zs_inj (zs_end pm k c) ∧ zr_F (zs_end pm k c) (c - 1) fl (zv_shf fa k (c - 1 - k)) := by
  have lo : ∀ i, i < c - 1 → zr_ta k c i < c := by
    intro i hi
    unfold zr_ta
    by_cases a1 : i < k
    · rw [if_pos a1]; omega
    · rw [if_neg a1, if_pos hi]; omega
  refine ⟨fun i j hi hj2 h => ?_, fun i hi => ?_, fun i j hi hj2 q0 q1 q2 => ?_⟩
  · rw [zr_endE k c i hk, zr_endE k c j hk] at h
    exact zr_taI hk (hj _ _ (zr_taL hk hc hi) (zr_taL hk hc hj2) h)
  · rw [zr_endE k c i hk]
    refine zr_fcong (fun a ha => ?_) (hF.1 (zr_ta k c i) (lo i hi))
    show zv_shf fa k (c - 1 - k) a i = fa a (zr_ta k c i)
    rw [zr_vshE _ _ _ _ ha]
    unfold zr_ta
    by_cases a1 : i < k
    · rw [if_neg (by omega), if_pos a1]
    · rw [if_pos (by omega), if_neg a1, if_pos hi]
  · rw [zr_endE k c i hk, zr_endE k c j hk] at *
    exact hF.2 _ _ (lo i hi) (lo j hj2) q0 q1 q2
theorem zr_lif {g : Nat → Int32} (h0 : g 0 = 1 ∨ g 0 = 6 ∨ g 0 = 17) (h7 : zr_b (g 7)) (h8 : zr_b (g 8)) (h9 : zr_b (g 9)) : zv_lif (g 0) (zs_flg g) = zs_lif g := by
  unfold zv_lif zs_lif zs_flg
  rcases h0 with e | e | e <;> rw [e] <;> rcases h7 with e7 | e7 <;> rw [e7] <;> rcases h8 with e8 | e8 <;> rw [e8] <;> rcases h9 with e9 | e9 <;> rw [e9] <;> decide
theorem zr_f6 {g h h' : Nat → Int32} {x : Int32} (q : zr_f g h) (e6 : h' 6 = x) (e : ∀ a, a ≠ 6 → h' a = h a) : zr_f (va_up g 6 x) h' := by
  refine ⟨fun a ha => ?_, (e 7 (by decide)).trans q.2.1, q.2.2⟩
  by_cases w : a = 6
  · subst w
    rw [zz_eq]
    exact e6
  · rw [zz_ne w]
    exact (e a w).trans (q.1 a ha)
theorem zr_tic (t : Int32) : ∀ (k : Nat) (pm : Nat → Nat) (fl fa : Nat → Nat → Int32) (c : Nat) (e : Int32), k ≤ c → c ≤ 12 → (∀ i, pm i < 12) → zs_inj pm → zr_F pm c fl fa →
    (zv_tic t k fa c e).2.1 = (zs_grw t k pm fl c).2.2 ∧ (zv_tic t k fa c e).2.2 = e + (nI c - nI (zs_grw t k pm fl c).2.2) ∧ (zs_grw t k pm fl c).2.2 ≤ c ∧ (∀ i, (zs_grw t k pm fl c).1 i < 12) ∧ zs_inj (zs_grw t k pm fl c).1 ∧ zr_F (zs_grw t k pm fl c).1 (zs_grw t k pm fl c).2.2 (zs_grw t k pm fl c).2.1 (zv_tic t k fa c e).1
  | 0, pm, fl, fa, c, e, _, _, hp, hj, hF => ⟨rfl, by rw [zv_tic, zs_grw, Int32.sub_self, Int32.add_zero], Nat.le_refl _, hp, hj, hF⟩
  | k + 1, pm, fl, fa, c, e, hk, hc, hp, hj, hF => by
    have q := hF.1 k (by omega)
    have e0 : fa 0 k = fl (pm k) 0 := q.1 0 (by decide)
    have e6 : fa 6 k = fl (pm k) 6 := q.1 6 (by decide)
    have e7 : fa 7 k = zs_flg (fl (pm k)) := q.2.1
    have hF2 : zr_F pm c (va_up fl (pm k) (va_up (fl (pm k)) 6 (fl (pm k) 6 + t))) (va_up fa 6 (upd (fa 6) k (fa 6 k + t))) := by
      refine zr_mod hF hj hc (by omega) (zr_f6 q ?_ (fun a ha => ?_)) rfl rfl rfl rfl (fun a i hi => ?_)
      · show upd (fa 6) k (fa 6 k + t) k = _
        rw [pk_us, e6]
      · show va_up fa 6 (upd (fa 6) k (fa 6 k + t)) a k = fa a k
        rw [zz_ne ha]
      · by_cases w : a = 6
        · subst w
          rw [zz_eq, pk_un hi]
        · rw [zz_ne w]
    have et : (va_up fa 6 (upd (fa 6) k (fa 6 k + t)) 6 k ≤ zv_lif (va_up fa 6 (upd (fa 6) k (fa 6 k + t)) 0 k) (va_up fa 6 (upd (fa 6) k (fa 6 k + t)) 7 k)) ↔ zs_ovr (va_up (fl (pm k)) 6 (fl (pm k) 6 + t)) = 0 := by
      have a6 : va_up fa 6 (upd (fa 6) k (fa 6 k + t)) 6 k = fl (pm k) 6 + t := by rw [zz_eq, pk_us, e6]
      have a0 : va_up fa 6 (upd (fa 6) k (fa 6 k + t)) 0 k = fl (pm k) 0 := e0
      have a7 : va_up fa 6 (upd (fa 6) k (fa 6 k + t)) 7 k = zs_flg (fl (pm k)) := e7
      rw [a6, a0, a7, zr_lif q.2.2.1 q.2.2.2.2.2.1 q.2.2.2.2.2.2.1 q.2.2.2.2.2.2.2]
      unfold zs_ovr
      have b6 : va_up (fl (pm k)) 6 (fl (pm k) 6 + t) 6 = fl (pm k) 6 + t := zz_eq
      have bl : zs_lif (va_up (fl (pm k)) 6 (fl (pm k) 6 + t)) = zs_lif (fl (pm k)) := rfl
      rw [b6, bl]
      by_cases w : fl (pm k) 6 + t ≤ zs_lif (fl (pm k))
      · rw [if_pos w]; exact ⟨fun _ => rfl, fun _ => w⟩
      · rw [if_neg w]; exact ⟨fun h => absurd h w, fun h => absurd h (by decide)⟩
    rw [zv_tic, zs_grw]
    by_cases w : zs_ovr (va_up (fl (pm k)) 6 (fl (pm k) 6 + t)) = 0
    · rw [if_pos (et.mpr w), if_pos w]
      exact zr_tic t k _ _ _ c e (by omega) hc hp hj hF2
    · rw [if_neg (fun h => w (et.mp h)), if_neg w]
      have h2 := zr_end hF2 hj hc (k := k) (by omega)
      obtain ⟨r1, r2, r3, r4⟩ := zr_tic t k (zs_end pm k c) _ _ (c - 1) (e + 1) (by omega) (by omega) (zs_end_lt hp) h2.1 h2.2
      refine ⟨r1, ?_, by omega, r4⟩
      rw [r2]
      have ec : nI c = nI (c - 1) + 1 := by rw [nI_1, Nat.sub_add_cancel (by omega)]
      rw [ec, Int32.add_assoc, Int32.sub_eq_add_neg, Int32.sub_eq_add_neg, Int32.add_comm (nI (c - 1)) 1, Int32.add_assoc]
def zz_e1 (l : Launch) (G : zz_G) (F : Nat → va_E) (x : Int32) (r : Int32) (F2 : Nat → va_E) (mc ms : Nat) : Prop := zz_MW l zy_LA_tick zb_LA_tick 4 (some .int) [(0, 9, 12, 18)] 7 111 mc ms G [.ref (G.2.2 0), .int x, .ref (G.2.2 41)] F (some (.int r)) F2
def zz_e2 (l : Launch) (G : zz_G) (x : Int32) (F : Nat → va_E) (r : Int32) (F2 : Nat → va_E) : Prop := zz_M l zy_MO_tick zb_MO_tick 4 (some .int) 1 22 G [.ref (G.2.2 26), .int x] F (some (.int r)) F2
theorem zo_tick {l : Launch} (hfl : l.flags = pinnedFlags ++ [noTraceFlag]) {G : zz_G} {F : Nat → va_E} (h : zz_In G F) (x : Int32) : zz_Ok l G (fun F2 => zz_e1 l G F x 0 F2 0 0) (zz_e2 l G x) ∨ (zz_e1 l G F x 1 F 1 6 ∧ zz_Er l G F (zz_e2 l G x F) 1) := by
  obtain ⟨B, o, v, n, lv, la, nl, su, pm, c, fl, fa, ru, ra, cd, hB, rfl, hR⟩ := h
  have hc := hR.2.2.1
  by_cases h0 : x < 1
  · exact .inr ⟨zt_LA_tick rfl (zt_PT_tick_lo hfl h0), zo_p1 hB (fun _ => zc_MO_tick_lo hc h0) hR⟩
  by_cases h1 : x ≤ 100
  · obtain ⟨r1, r2, r3, r4, r5, r6⟩ := zr_tic x c pm fl fa c 0 (Nat.le_refl _) hc hR.2.2.2.2.2.1 hR.2.2.2.2.2.2.1 hR.2.2.2.2.2.2.2.1
    refine .inl (zo_p0 (r := nI c - nI (zs_grw x c pm fl c).2.2) (c := c) (su := su) (fa := fa) (ra := ra) (cd := cd) (fa' := (zv_tic x c fa c 0).1) hB (zc_LA_tick rfl hB (zc_PT_tick hR.2.2.2.2.2.1 hc h0 h1)) (fun Fx => ?_) ⟨hR.1, hR.2.1, Nat.le_trans r3 hc, hR.2.2.2.1, hR.2.2.2.2.1, r4, r5, r6, hR.2.2.2.2.2.2.2.2⟩)
    have q := zc_MO_tick (l := l) (G := G) (F := Fx) (w := v) (sz := nI n) (la := la) (lz := nI nl) (ra := ra) (fa := fa) (cd := cd) hc h0 h1
    rw [r2, Int32.zero_add, r1] at q
    exact q
  · exact .inr ⟨zt_LA_tick rfl (zt_PT_tick_hi hfl h0 h1), zo_p1 hB (fun _ => zc_MO_tick_hi hc h0 h1) hR⟩
