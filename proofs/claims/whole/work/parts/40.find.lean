theorem zr_ff {M M' : Nat → Int32} : ∀ (n i : Nat), (∀ j, i ≤ j → j < i + n → M' j = M j) → zs_ff M' i n = zs_ff M i n
  | 0, _, _ => rfl
  | n + 1, i, h => by
    rw [zs_ff, zs_ff, h i (Nat.le_refl _) (by omega), zr_ff n (i + 1) (fun j a b => h j (by omega) (by omega))]
theorem zr_ffS {M : Nat → Int32} {r : Nat} : ∀ (n i : Nat), zs_ff M i n = some r → r < i + n ∧ ¬ M r = 0
  | 0, _, h => absurd h (by simp [zs_ff])
  | n + 1, i, h => by
    rw [zs_ff] at h
    by_cases e : M i = 0
    · rw [if_pos e] at h
      have := zr_ffS n (i + 1) h
      exact ⟨by omega, this.2⟩
    · rw [if_neg e] at h
      cases h
      exact ⟨by omega, e⟩
theorem zr_hinE {g su : Nat → Int32} : ¬ zs_hin g su = 0 ↔ g 0 = su 0 ∧ g 1 = su 1 ∧ g 2 = su 2 := by
  unfold zs_hin
  by_cases h0 : g 0 = su 0
  · by_cases h1 : g 1 = su 1
    · by_cases h2 : g 2 = su 2
      · rw [if_pos h0, if_pos h1, if_pos h2]; exact ⟨fun _ => ⟨h0, h1, h2⟩, fun _ => by decide⟩
      · rw [if_pos h0, if_pos h1, if_neg h2]; exact ⟨fun h => absurd rfl h, fun h => absurd h.2.2 h2⟩
    · rw [if_pos h0, if_neg h1]; exact ⟨fun h => absurd rfl h, fun h => absurd h.2.1 h1⟩
  · rw [if_neg h0]; exact ⟨fun h => absurd rfl h, fun h => absurd h.1 h0⟩
theorem zr_mi {pm : Nat → Nat} {fl fa : Nat → Nat → Int32} {su : Nat → Int32} {i : Nat} (q : zr_f (fl (pm i)) (fun a => fa a i)) : zv_mr fa (su 0) (su 3) (su 4) (su 1) (su 2) i = zs_mi pm fl su i := by
  have e0 : fa 0 i = fl (pm i) 0 := q.1 0 (by decide)
  have e1 : fa 1 i = fl (pm i) 1 := q.1 1 (by decide)
  have e2 : fa 2 i = fl (pm i) 2 := q.1 2 (by decide)
  have e3 : fa 3 i = fl (pm i) 3 := q.1 3 (by decide)
  have e4 : fa 4 i = fl (pm i) 4 := q.1 4 (by decide)
  unfold zv_mr zv_m3 zs_mi zs_hin zs_hou
  rw [e0, e1, e2, e3, e4]
  have o1 : ¬ (1 : Int32) = 0 := by decide
  by_cases h0 : fl (pm i) 0 = su 0 <;> by_cases h1 : fl (pm i) 1 = su 1 <;> by_cases h2 : fl (pm i) 2 = su 2 <;> by_cases h3 : fl (pm i) 3 = su 3 <;> by_cases h4 : fl (pm i) 4 = su 4 <;> simp only [h0, h1, h2, h3, h4, o1, if_true, if_false]
theorem zr_mo {pm : Nat → Nat} {fl fa : Nat → Nat → Int32} {su : Nat → Int32} {i : Nat} (q : zr_f (fl (pm i)) (fun a => fa a i)) : zv_mw fa (su 0) (su 3) (su 4) (su 2) i = zs_mo pm fl su i := by
  have e0 : fa 0 i = fl (pm i) 0 := q.1 0 (by decide)
  have e5 : fa 5 i = fl (pm i) 5 := q.1 5 (by decide)
  have e3 : fa 3 i = fl (pm i) 3 := q.1 3 (by decide)
  have e4 : fa 4 i = fl (pm i) 4 := q.1 4 (by decide)
  unfold zv_mw zv_m3 zs_mo zs_how zs_hou
  rw [e0, e5, e3, e4]
  have o1 : ¬ (1 : Int32) = 0 := by decide
  by_cases h0 : fl (pm i) 0 = su 0 <;> by_cases h5 : fl (pm i) 5 = su 2 <;> by_cases h3 : fl (pm i) 3 = su 3 <;> by_cases h4 : fl (pm i) 4 = su 4 <;> simp only [h0, h5, h3, h4, o1, if_true, if_false]
theorem zr_fmi {pm : Nat → Nat} {c : Nat} {fl fa : Nat → Nat → Int32} (su : Nat → Int32) (hF : zr_F pm c fl fa) : zs_ff (zv_mr fa (su 0) (su 3) (su 4) (su 1) (su 2)) 0 c = zs_ff (zs_mi pm fl su) 0 c := zr_ff c 0 (fun j _ hj => zr_mi (hF.1 j (by omega)))
theorem zr_fmo {pm : Nat → Nat} {c : Nat} {fl fa : Nat → Nat → Int32} (su : Nat → Int32) (hF : zr_F pm c fl fa) : zs_ff (zv_mw fa (su 0) (su 3) (su 4) (su 2)) 0 c = zs_ff (zs_mo pm fl su) 0 c := zr_ff c 0 (fun j _ hj => zr_mo (hF.1 j (by omega)))
theorem zr_miS {pm : Nat → Nat} {fl : Nat → Nat → Int32} {su : Nat → Int32} {i : Nat} (h : ¬ zs_mi pm fl su i = 0) : fl (pm i) 0 = su 0 ∧ fl (pm i) 1 = su 1 ∧ fl (pm i) 2 = su 2 := by
  apply zr_hinE.mp
  intro e
  exact h (if_pos e)
theorem zr_moS {pm : Nat → Nat} {fl : Nat → Nat → Int32} {su : Nat → Int32} {i : Nat} (h : ¬ zs_mo pm fl su i = 0) : fl (pm i) 0 = su 0 := by
  by_cases e : fl (pm i) 0 = su 0
  · exact e
  · exfalso
    apply h
    have : zs_how (fl (pm i)) (su 0) (su 2) = 0 := if_neg e
    exact if_pos this
theorem zr_per {ru ra : Nat → Nat → Int32} (h : zr_U ru ra) {k a : Int32} (hk : ¬ -1 = k) : ∀ (n i : Nat), zv_per ra k a i n = zs_per ru k a i n
  | 0, _ => rfl
  | n + 1, i => by
    rw [zv_per, zs_per, zr_per h hk n]
    rcases (h i).1 with ⟨e1, e2⟩ | ⟨e1, e2, e3, e4, e5, -⟩
    · have e2' : ra 0 i = -1 := e2
      have s0 : zs_spk (ru i) k a = 0 := if_pos e1
      have v0 : zv_hit ra k a i = 0 := by
        unfold zv_hit
        rw [e2', if_neg (by decide), if_neg hk]
      rw [if_pos s0, if_pos v0]
    · have e2' : ra 0 i = ru i 1 := e2
      have e3' : ra 1 i = ru i 2 := e3
      have e4' : ra 2 i = ru i 3 := e4
      have e5' : ra 3 i = ru i 4 := e5
      have w : zv_hi2 ra a i = zs_hld (ru i) a := by
        unfold zv_hi2 zs_hld
        rw [e3', e4']
      have w01 : zs_hld (ru i) a = 0 ∨ zs_hld (ru i) a = 1 := by
        unfold zs_hld
        by_cases q1 : ru i 3 = 0
        · rw [if_pos q1]; exact .inr rfl
        · rw [if_neg q1]
          by_cases q2 : zs_ush (a ^^^ ru i 2) (32 - ru i 3) = 0
          · rw [if_pos q2]; exact .inr rfl
          · rw [if_neg q2]; exact .inl rfl
      have same : zv_hit ra k a i = zs_spk (ru i) k a := by
        unfold zv_hit zs_spk
        rw [e2', w, if_neg (show ¬ ru i 0 = 0 by rw [e1]; decide)]
        rcases w01 with q | q <;> rw [q] <;> by_cases k0 : ru i 1 = 0
        · rw [if_pos k0, if_pos k0, if_pos rfl]
        · rw [if_neg k0, if_neg k0]
          by_cases k1 : ru i 1 = k
          · rw [if_pos k1, if_pos k1, if_pos rfl]
          · rw [if_neg k1, if_neg k1]
        · rw [if_pos k0, if_pos k0, if_neg (by decide)]
        · rw [if_neg k0, if_neg k0]
          by_cases k1 : ru i 1 = k
          · rw [if_pos k1, if_pos k1, if_neg (by decide)]
          · rw [if_neg k1, if_neg k1]
      rw [same, e5']
theorem zr_l5 (x c : Int32) (h : (31 : Int32) &&& c = c) : x &&& c = (x &&& 31) &&& c := by rw [Int32.and_assoc, h]
theorem zr_st (x : Int32) : (x &&& 22 = 2) ↔ (¬ x &&& 2 = 0) ∧ x &&& 20 = 0 := by
  rw [zr_l5 x 22 (by decide), zr_l5 x 2 (by decide), zr_l5 x 20 (by decide)]
  obtain ⟨j, hj, e⟩ := pk_andE x (m := 31) 5 (by decide)
  rw [e]
  have : ∀ j, j < 32 → ((nI j &&& 22 = 2) ↔ (¬ nI j &&& 2 = 0) ∧ nI j &&& 20 = 0) := by decide +kernel
  exact this j hj
theorem zr_b1 (x : Int32) : x &&& 1 = 0 ∨ x &&& 1 = 1 := by
  rw [zr_l5 x 1 (by decide)]
  obtain ⟨j, hj, e⟩ := pk_andE x (m := 31) 5 (by decide)
  rw [e]
  have : ∀ j, j < 32 → (nI j &&& 1 = 0 ∨ nI j &&& 1 = 1) := by decide +kernel
  exact this j hj
theorem zr_b4 (x : Int32) : x &&& 4 = 0 ∨ x &&& 4 = 4 := by
  rw [zr_l5 x 4 (by decide)]
  obtain ⟨j, hj, e⟩ := pk_andE x (m := 31) 5 (by decide)
  rw [e]
  have : ∀ j, j < 32 → (nI j &&& 4 = 0 ∨ nI j &&& 4 = 4) := by decide +kernel
  exact this j hj
theorem zr_may {v su : Nat → Int32} {ru ra : Nat → Nat → Int32} (h : zr_U ru ra) {k o : Int32} (hk : v 4 &&& 255 = k) (h0 : su 0 = k) (h3 : su 3 = o) (hk1 : ¬ -1 = k) : zv_may v ra k o = zs_may v su ru := by
  unfold zv_may zs_may zv_st zs_rep
  rw [hk, h0, h3, zr_per h hk1]
  have o1 : ¬ (1 : Int32) = 0 := by decide
  by_cases k1 : k = 1
  · have k6 : ¬ k = 6 := by rw [k1]; decide
    rw [if_pos k1, if_pos k1, if_neg k6, if_neg k6]
    by_cases e : v 10 = 0
    · rw [if_pos e, if_pos e, if_neg o1]
    · rw [if_neg e, if_neg e, if_pos rfl]
  · rw [if_neg k1, if_neg k1, if_pos rfl]
    by_cases k6 : k = 6
    · rw [if_pos k6, if_pos k6]
      by_cases e : v 16 &&& 22 = 2
      · have q := (zr_st (v 16)).mp e
        rw [if_pos e, if_neg q.1, if_pos q.2, if_neg o1]
      · rw [if_neg e]
        by_cases e2 : v 16 &&& 2 = 0
        · rw [if_pos e2, if_pos rfl]
        · rw [if_neg e2, if_neg (fun e3 => e ((zr_st (v 16)).mpr ⟨e2, e3⟩)), if_pos rfl]
    · rw [if_neg k6, if_neg k6]
theorem zr_pne {p : Nat} (h : p < 6) : ¬ nI (40000 + p) = -1 := by
  match p, h with
  | 0, _ => decide
  | 1, _ => decide
  | 2, _ => decide
  | 3, _ => decide
  | 4, _ => decide
  | 5, _ => decide
  | k + 6, h => exact absurd h (by omega)
theorem zr_pge {p : Nat} (h : p < 6) : 0 ≤ nI (40000 + p) := nI_pos' (by omega)
theorem zr_binE {pm : Nat → Nat} {fl fa : Nat → Nat → Int32} {su : Nat → Int32} {c : Nat} (hF : zr_F pm c fl fa) : ∀ (n i : Nat), i + n ≤ c →
    (zs_bin pm fl su i n = -1 ∧ ∀ j, i ≤ j → j < i + n → zs_hin (fl (pm j)) su = 0) ∨ (∃ r, r < c ∧ (fl (pm r) 0 = su 0 ∧ fl (pm r) 1 = su 1 ∧ fl (pm r) 2 = su 2) ∧ zs_bin pm fl su i n = fl (pm r) 5)
  | 0, i, _ => .inl ⟨rfl, fun j a b => absurd b (by omega)⟩
  | n + 1, i, h => by
    rw [zs_bin]
    by_cases e : zs_hin (fl (pm i)) su = 0
    · rw [if_pos e]
      rcases zr_binE (su := su) hF n (i + 1) (by omega) with ⟨q1, q2⟩ | q
      · refine .inl ⟨q1, fun j a b => ?_⟩
        by_cases w : j = i
        · subst w; exact e
        · exact q2 j (by omega) (by omega)
      · exact .inr q
    · rw [if_neg e]
      exact .inr ⟨i, by omega, zr_hinE.mp e, rfl⟩
theorem zr_bd {pm : Nat → Nat} {fl fa : Nat → Nat → Int32} {su : Nat → Int32} {c : Nat} (hF : zr_F pm c fl fa) : ∀ (n i : Nat) (b : Int32), i + n ≤ c → zv_bd fa (su 0) (su 1) (su 2) i n b = if zs_bin pm fl su i n = -1 then b else zs_bin pm fl su i n
  | 0, _, _, _ => (if_pos rfl).symm
  | n + 1, i, b, h => by
    have q := hF.1 i (by omega)
    have e0 : fa 0 i = fl (pm i) 0 := q.1 0 (by decide)
    have e1 : fa 1 i = fl (pm i) 1 := q.1 1 (by decide)
    have e2 : fa 2 i = fl (pm i) 2 := q.1 2 (by decide)
    have e5 : fa 5 i = fl (pm i) 5 := q.1 5 (by decide)
    rw [zv_bd, zr_bd hF n (i + 1) _ (by omega), zs_bin]
    by_cases e : zs_hin (fl (pm i)) su = 0
    · have w : zv_b1 fa (su 0) (su 1) (su 2) b i = b := by
        unfold zv_b1
        rw [e0, e1, e2]
        by_cases a0 : fl (pm i) 0 = su 0
        · by_cases a1 : fl (pm i) 1 = su 1
          · by_cases a2 : fl (pm i) 2 = su 2
            · exact absurd e (zr_hinE.mpr ⟨a0, a1, a2⟩)
            · rw [if_pos a0, if_pos a1, if_neg a2]
          · rw [if_pos a0, if_neg a1]
        · rw [if_neg a0]
      rw [if_pos e, w]
    · obtain ⟨a0, a1, a2⟩ := zr_hinE.mp e
      have w : zv_b1 fa (su 0) (su 1) (su 2) b i = fl (pm i) 5 := by
        unfold zv_b1
        rw [e0, e1, e2, if_pos a0, if_pos a1, if_pos a2, e5]
      obtain ⟨p, hp, ep⟩ := q.2.2.2.2.1
      rw [if_neg e, w, if_neg (show ¬ fl (pm i) 5 = -1 by rw [ep]; exact zr_pne hp)]
      rcases zr_binE (su := su) hF n (i + 1) (by omega) with ⟨q1, -⟩ | ⟨r, hr, ⟨r0, r1, r2⟩, r5⟩
      · rw [if_pos q1]
      · have u := hF.2 r i hr (by omega) (r0.trans a0.symm) (r1.trans a1.symm) (r2.trans a2.symm)
        rw [r5, u, if_neg (show ¬ fl (pm i) 5 = -1 by rw [ep]; exact zr_pne hp)]
theorem zr_tk1 (fa : Nat → Nat → Int32) (k p : Int32) : ∀ (n i : Nat), zv_tk fa k p i n 1 = 1
  | 0, _ => rfl
  | n + 1, i => by
    rw [zv_tk, show zv_t1 fa k p 1 i = 1 from if_neg (by decide)]
    exact zr_tk1 fa k p n (i + 1)
theorem zr_tk {pm : Nat → Nat} {fl fa : Nat → Nat → Int32} {c : Nat} (hF : zr_F pm c fl fa) (k p : Int32) : ∀ (n i : Nat), i + n ≤ c → zv_tk fa k p i n 0 = zs_tk pm fl k p i n
  | 0, _, _ => rfl
  | n + 1, i, h => by
    have q := hF.1 i (by omega)
    have e0 : fa 0 i = fl (pm i) 0 := q.1 0 (by decide)
    have e5 : fa 5 i = fl (pm i) 5 := q.1 5 (by decide)
    rw [zv_tk, zs_tk]
    unfold zv_t1 zs_how
    rw [if_pos rfl, e0, e5]
    by_cases a0 : fl (pm i) 0 = k
    · by_cases a5 : fl (pm i) 5 = p
      · rw [if_pos a0, if_pos a5, if_neg (by decide)]
        exact zr_tk1 fa k p n (i + 1)
      · rw [if_pos a0, if_neg a5, if_pos rfl]
        exact zr_tk hF k p n (i + 1) (by omega)
    · rw [if_neg a0, if_pos rfl]
      exact zr_tk hF k p n (i + 1) (by omega)
theorem zr_lf {pm : Nat → Nat} {fl fa : Nat → Nat → Int32} {c : Nat} (hF : zr_F pm c fl fa) (k : Int32) : zv_fr fa c k 6 (-1) = zs_lf pm fl c k 0 6 := by
  rw [zv_fr, zv_fr, zv_fr, zv_fr, zv_fr, zv_fr, zv_fr, zs_lf, zs_lf, zs_lf, zs_lf, zs_lf, zs_lf, zs_lf]
  rw [zr_tk hF k _ c 0 (by omega), zr_tk hF k _ c 0 (by omega), zr_tk hF k _ c 0 (by omega), zr_tk hF k _ c 0 (by omega), zr_tk hF k _ c 0 (by omega), zr_tk hF k _ c 0 (by omega)]
theorem zr_lfE {pm : Nat → Nat} {fl : Nat → Nat → Int32} {c : Nat} (k : Int32) : ∀ (n i : Nat), i + n ≤ 6 → zs_lf pm fl c k i n = -1 ∨ ∃ p, p < 6 ∧ zs_lf pm fl c k i n = nI (40000 + p)
  | 0, _, _ => .inl rfl
  | n + 1, i, h => by
    rw [zs_lf]
    by_cases e : zs_tk pm fl k (nI (40000 + i)) 0 c = 0
    · rw [if_pos e]; exact .inr ⟨i, by omega, rfl⟩
    · rw [if_neg e]; exact zr_lfE k n (i + 1) (by omega)
theorem zr_pf {pm : Nat → Nat} {fl fa : Nat → Nat → Int32} {su : Nat → Int32} {c : Nat} (hF : zr_F pm c fl fa) : zv_pf fa c (su 0) (su 1) (su 2) = if zs_bin pm fl su 0 c = -1 then zs_lf pm fl c (su 0) 0 6 else zs_bin pm fl su 0 c := by
  unfold zv_pf
  rw [zr_bd hF c 0 _ (by omega), zr_lf hF]
/-- a new flow at row c -/
theorem zr_new {pm : Nat → Nat} {fl fa : Nat → Nat → Int32} {su : Nat → Int32} {c : Nat} {P : Int32} (hF : zr_F pm c fl fa) (hj : zs_inj pm) (hc : c < 12) (h0 : su 0 = 1 ∨ su 0 = 6 ∨ su 0 = 17) (h2 : zr_16 (su 2)) (hP : ∃ p, p < 6 ∧ P = nI (40000 + p)) (hu : ∀ r, r < c → fl (pm r) 0 = su 0 → fl (pm r) 1 = su 1 → fl (pm r) 2 = su 2 → fl (pm r) 5 = P) :
    zr_F pm (c + 1) (va_up fl (pm c) (zs_sta (fl (pm c)) su P)) (zv_add fa c (su 0) (su 1) (su 2) (su 3) (su 4) P) := by
  have key : ∀ i, i < c → va_up fl (pm c) (zs_sta (fl (pm c)) su P) (pm i) = fl (pm i) := fun i hi => zz_ne (fun q => by have := hj i c (by omega) (by omega) q; omega)
  have ho : ∀ a i, a < 8 → i ≠ c → zv_add fa c (su 0) (su 1) (su 2) (su 3) (su 4) P a i = fa a i := by
    intro a i ha hi
    match a, ha with
    | 0, _ => exact pk_un hi
    | 1, _ => exact pk_un hi
    | 2, _ => exact pk_un hi
    | 3, _ => exact pk_un hi
    | 4, _ => exact pk_un hi
    | 5, _ => exact pk_un hi
    | 6, _ => exact pk_un hi
    | 7, _ => exact pk_un hi
    | k + 8, h => exact absurd h (by omega)
  refine ⟨fun i hi => ?_, fun i j hi hj2 q0 q1 q2 => ?_⟩
  · by_cases e : i = c
    · subst e
      rw [zz_eq]
      refine ⟨fun a ha => ?_, ?_, h0, h2, hP, .inl rfl, .inl rfl, .inl rfl⟩
      · match a, ha with
        | 0, _ => exact pk_us
        | 1, _ => exact pk_us
        | 2, _ => exact pk_us
        | 3, _ => exact pk_us
        | 4, _ => exact pk_us
        | 5, _ => exact pk_us
        | 6, _ => exact pk_us
        | k + 7, h => exact absurd h (by omega)
      · have : zs_flg (zs_sta (fl (pm i)) su P) = 0 := by
          unfold zs_flg
          rw [show zs_sta (fl (pm i)) su P 7 = 0 from rfl, show zs_sta (fl (pm i)) su P 8 = 0 from rfl, show zs_sta (fl (pm i)) su P 9 = 0 from rfl]
          decide
        rw [this]
        exact pk_us
    · rw [key i (by omega)]
      exact zr_fcong (fun a ha => ho a i ha e) (hF.1 i (by omega))
  · have n0 : zs_sta (fl (pm c)) su P 0 = su 0 := rfl
    have n1 : zs_sta (fl (pm c)) su P 1 = su 1 := rfl
    have n2 : zs_sta (fl (pm c)) su P 2 = su 2 := rfl
    have n5 : zs_sta (fl (pm c)) su P 5 = P := rfl
    by_cases e : i = c
    · by_cases e2 : j = c
      · rw [e, e2]
      · subst e
        rw [key j (by omega)] at *
        rw [zz_eq] at *
        rw [n5]
        exact (hu j (by omega) (q0.symm.trans n0) (q1.symm.trans n1) (q2.symm.trans n2)).symm
    · by_cases e2 : j = c
      · subst e2
        rw [key i (by omega)] at *
        rw [zz_eq] at *
        rw [n5]
        exact hu i (by omega) (q0.trans n0) (q1.trans n1) (q2.trans n2)
      · rw [key i (by omega), key j (by omega)] at *
        exact hF.2 i j (by omega) (by omega) q0 q1 q2
