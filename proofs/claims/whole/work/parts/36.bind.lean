def zr_ct (P : Nat → Bool) : Nat → Nat → Int32 → Int32
  | _, 0, acc => acc
  | i, n + 1, acc => if P i = true then zr_ct P (i + 1) n (acc + 1) else zr_ct P (i + 1) n acc
theorem zr_ct_acc (P : Nat → Bool) : ∀ (n i : Nat) (acc : Int32), zr_ct P i n (acc + 1) = zr_ct P i n acc + 1
  | 0, _, _ => rfl
  | n + 1, i, acc => by
    rw [zr_ct, zr_ct, zr_ct_acc P n, zr_ct_acc P n]
    by_cases h : P i = true
    · rw [if_pos h, if_pos h]
    · rw [if_neg h, if_neg h]
theorem zr_ct_eq {P P' : Nat → Bool} : ∀ (n i : Nat) (acc : Int32), (∀ j, i ≤ j → j < i + n → P' j = P j) → zr_ct P' i n acc = zr_ct P i n acc
  | 0, _, _, _ => rfl
  | n + 1, i, acc, h => by
    rw [zr_ct, zr_ct, h i (Nat.le_refl _) (by omega), zr_ct_eq n (i + 1) _ (fun j a b => h j (by omega) (by omega)), zr_ct_eq n (i + 1) _ (fun j a b => h j (by omega) (by omega))]
theorem zr_ct_one {P P' : Nat → Bool} {p : Nat} (h0 : P p = false) (h1 : P' p = true) : ∀ (n i : Nat) (acc : Int32), i ≤ p → p < i + n → (∀ j, i ≤ j → j < i + n → j ≠ p → P' j = P j) → zr_ct P' i n acc = zr_ct P i n acc + 1
  | 0, i, _, a, b, _ => absurd b (by omega)
  | n + 1, i, acc, a, b, h => by
    rw [zr_ct, zr_ct]
    by_cases e : i = p
    · subst e
      rw [if_pos h1, if_neg (by rw [h0]; decide), zr_ct_acc, zr_ct_eq n (i + 1) _ (fun j u w => h j (by omega) (by omega) (by omega))]
    · rw [h i (Nat.le_refl _) (by omega) e, zr_ct_one h0 h1 n (i + 1) _ (by omega) (by omega) (fun j u w x => h j (by omega) (by omega) x), zr_ct_one h0 h1 n (i + 1) _ (by omega) (by omega) (fun j u w x => h j (by omega) (by omega) x)]
      by_cases w : P i = true
      · rw [if_pos w, if_pos w]
      · rw [if_neg w, if_neg w]
theorem zr_tk01 (pm : Nat → Nat) (fl : Nat → Nat → Int32) (k p : Int32) : ∀ (n i : Nat), zs_tk pm fl k p i n = 0 ∨ zs_tk pm fl k p i n = 1
  | 0, _ => .inl rfl
  | n + 1, i => by
    rw [zs_tk]
    by_cases h : zs_how (fl (pm i)) k p = 0
    · rw [if_pos h]; exact zr_tk01 pm fl k p n (i + 1)
    · rw [if_neg h]; exact .inr rfl
theorem zr_tkS (pm : Nat → Nat) (fl : Nat → Nat → Int32) (k p : Int32) : ∀ (n i : Nat), zs_tk pm fl k p i (n + 1) = if zs_tk pm fl k p i n = 0 then (if zs_how (fl (pm (i + n))) k p = 0 then 0 else 1) else 1
  | 0, i => by rw [zs_tk, zs_tk, zs_tk, if_pos rfl]; rfl
  | n + 1, i => by
    rw [zs_tk, zr_tkS pm fl k p n (i + 1), zs_tk]
    by_cases h : zs_how (fl (pm i)) k p = 0
    · rw [if_pos h, if_pos h, Nat.add_right_comm i 1 n]; rfl
    · rw [if_neg h, if_neg h, if_neg (by decide)]
theorem zr_cop (pm : Nat → Nat) (fl : Nat → Nat → Int32) (c : Nat) (k : Int32) : ∀ (n i : Nat) (acc : Int32), zs_cop pm fl c k i n acc = zr_ct (fun j => decide (¬ zs_tk pm fl k (nI (40000 + j)) 0 c = 0)) i n acc
  | 0, _, _ => rfl
  | n + 1, i, acc => by
    rw [zs_cop, zr_ct, zr_cop pm fl c k n, zr_cop pm fl c k n]
    by_cases h : zs_tk pm fl k (nI (40000 + i)) 0 c = 0
    · rw [if_pos h, if_neg (by simp [h])]
    · rw [if_neg h, if_pos (by simp [h])]
theorem zr_bndS (fa : Nat → Nat → Int32) (k : Int32) : ∀ (n f : Nat) (e : Int32), zv_bnd fa k f (n + 1) e = if zv_is fa k (f + n) 0 (f + n) (if fa 0 (f + n) = k then 1 else 0) = 0 then zv_bnd fa k f n e else zv_bnd fa k f n e + 1
  | 0, f, e => by rw [zv_bnd, zv_bnd, zv_bnd]; rfl
  | n + 1, f, e => by
    rw [zv_bnd, zr_bndS fa k n (f + 1), Nat.add_right_comm f 1 n]
    rw [show zv_bnd fa k f (n + 1) e = zv_bnd fa k (f + 1) n (if zv_is fa k f 0 f (if fa 0 f = k then 1 else 0) = 0 then e else e + 1) from rfl]
    rfl
theorem zr_is0 (fa : Nat → Nat → Int32) (k : Int32) (f : Nat) : ∀ (n g : Nat), zv_is fa k f g n 0 = 0
  | 0, _ => rfl
  | n + 1, g => by
    rw [zv_is, show zv_i1 fa k f g 0 = 0 from if_pos rfl]
    exact zr_is0 fa k f n (g + 1)
theorem zr_is1 {pm : Nat → Nat} {fl fa : Nat → Nat → Int32} (k : Int32) (f : Nat) : ∀ (n g : Nat), (∀ j, g ≤ j → j < g + n → fa 0 j = fl (pm j) 0 ∧ fa 5 j = fl (pm j) 5) → zv_is fa k f g n 1 = if zs_tk pm fl k (fa 5 f) g n = 0 then 1 else 0
  | 0, _, _ => rfl
  | n + 1, g, h => by
    obtain ⟨e0, e5⟩ := h g (Nat.le_refl _) (by omega)
    rw [zv_is, zs_tk]
    unfold zv_i1 zs_how
    rw [if_neg (by decide), e0, e5]
    have ih := zr_is1 (pm := pm) (fl := fl) (fa := fa) k f n (g + 1) (fun j a b => h j (by omega) (by omega))
    by_cases h1 : fl (pm g) 0 = k
    · rw [if_pos h1, if_pos h1]
      by_cases h2 : fl (pm g) 5 = fa 5 f
      · rw [if_pos h2, if_pos h2, if_neg (show ¬ (1 : Int32) = 0 by decide), if_neg (show ¬ (1 : Int32) = 0 by decide)]
        exact zr_is0 fa k f n (g + 1)
      · rw [if_neg h2, if_neg h2, if_pos rfl]
        exact ih
    · rw [if_neg h1, if_neg h1, if_pos rfl]
      exact ih
theorem zr_bnd {pm : Nat → Nat} {fl fa : Nat → Nat → Int32} (k : Int32) : ∀ (c : Nat), (∀ i, i < c → zr_f (fl (pm i)) (fun a => fa a i)) → zv_bnd fa k 0 c 0 = zs_cop pm fl c k 0 6 0
  | 0, _ => by
    rw [zr_cop]
    rfl
  | c + 1, h => by
    have ih := zr_bnd (pm := pm) (fl := fl) (fa := fa) k c (fun i hi => h i (by omega))
    rw [zr_bndS, Nat.zero_add, ih, zr_cop, zr_cop]
    have q := h c (by omega)
    have e0 : fa 0 c = fl (pm c) 0 := q.1 0 (by decide)
    have e5 : fa 5 c = fl (pm c) 5 := q.1 5 (by decide)
    obtain ⟨p, hp, ep⟩ := q.2.2.2.2.1
    by_cases hk : fl (pm c) 0 = k
    · rw [if_pos (e0.trans hk), zr_is1 (pm := pm) (fl := fl) k c c 0 (fun j _ hj => ⟨(h j (by omega)).1 0 (by decide), (h j (by omega)).1 5 (by decide)⟩), e5, ep]
      have oth : ∀ j, j < 6 → j ≠ p → zs_how (fl (pm c)) k (nI (40000 + j)) = 0 := by
        intro j hj hne
        unfold zs_how
        rw [if_pos hk, ep, if_neg (fun w => hne (by have := (nI_eq (by omega) (by omega)).mp w; omega))]
      have own : zs_how (fl (pm c)) k (nI (40000 + p)) = 1 := by
        unfold zs_how
        rw [if_pos hk, ep, if_pos rfl]
      by_cases ht : zs_tk pm fl k (nI (40000 + p)) 0 c = 0
      · rw [if_pos ht, if_neg (show ¬ (1 : Int32) = 0 by decide)]
        refine (zr_ct_one (p := p) ?_ ?_ 6 0 0 (Nat.zero_le _) (by omega) (fun j _ hj hne => ?_)).symm
        · simp [ht]
        · rw [zr_tkS, if_pos ht, Nat.zero_add, own]
          decide
        · rw [zr_tkS, Nat.zero_add, oth j (by omega) hne, if_pos rfl]
          rcases zr_tk01 pm fl k (nI (40000 + j)) c 0 with w | w
          · rw [w]; rfl
          · rw [w]; rfl
      · rw [if_neg ht, if_pos rfl]
        refine zr_ct_eq 6 0 0 (fun j _ hj => ?_)
        by_cases hne : j = p
        · subst hne
          rw [zr_tkS, if_neg ht]
          simp [ht]
        · rw [zr_tkS, Nat.zero_add, oth j (by omega) hne, if_pos rfl]
          rcases zr_tk01 pm fl k (nI (40000 + j)) c 0 with w | w
          · rw [w]; rfl
          · rw [w]; rfl
    · rw [if_neg (fun w => hk (e0.symm.trans w)), zr_is0, if_pos rfl]
      refine zr_ct_eq 6 0 0 (fun j _ hj => ?_)
      have oth : zs_how (fl (pm c)) k (nI (40000 + j)) = 0 := if_neg hk
      rw [zr_tkS, Nat.zero_add, oth, if_pos rfl]
      rcases zr_tk01 pm fl k (nI (40000 + j)) c 0 with w | w
      · rw [w]; rfl
      · rw [w]; rfl
theorem zo_bindings {l : Launch} {G : zz_G} {F : Nat → va_E} (h : zz_In G F) (k : Int32) : ∃ x F2 F3 fs1 fs2, zz_M l zy_PT_bindings zb_PT_bindings 2 (some .int) 3 68 G [.ref (G.2.2 0), .int k] F (some (.int x)) F2 ∧ zz_M l zy_MO_bindings zb_MO_bindings 6 (some .int) 0 0 G [.ref (G.2.2 26), .int k] F2 (some (.int x)) F3 ∧ F 0 = .inr (0, fs1) ∧ F2 26 = .inr (7, fs2) ∧ zz_In G F3 := by
  obtain ⟨B, o, v, n, lv, la, nl, su, pm, c, fl, fa, ru, ra, cd, hB, rfl, hR⟩ := h
  have hc := hR.2.2.1
  refine ⟨zs_cop pm fl c k 0 6 0, zz_S G B v n lv la nl su pm c fl fa ru ra cd, zz_S G B v n lv la nl su pm c fl fa ru ra 0, _, _, zc_PT_bindings hR.2.2.2.2.2.1 hc, ?_, rfl, rfl, ⟨B, o, v, n, lv, la, nl, su, pm, c, fl, fa, ru, ra, 0, hB, rfl, hR⟩⟩
  have q := zc_MO_bindings (l := l) (G := G) (F := zz_K G B v (nI n) lv (nI nl) su pm (nI c) fl ru) (w := v) (sz := nI n) (la := la) (lz := nI nl) (ra := ra) (fa := fa) (cd := cd) (k := k) hc
  rw [zr_bnd k c (fun i hi => hR.2.2.2.2.2.2.2.1.1 i hi)] at q
  exact zk_swapM q
