theorem zr_flg2 {g : Nat → Int32} (h7 : zr_b (g 7)) (h8 : zr_b (g 8)) (h9 : zr_b (g 9)) : zs_flg g ||| 2 = zs_flg (va_up g 8 1) := by
  unfold zs_flg
  rw [show va_up g 8 1 7 = g 7 from rfl, show va_up g 8 1 8 = 1 from rfl, show va_up g 8 1 9 = g 9 from rfl]
  rcases h7 with e | e <;> rw [e] <;> rcases h8 with e | e <;> rw [e] <;> rcases h9 with e | e <;> rw [e] <;> decide
theorem zr_flg4 {g : Nat → Int32} (h7 : zr_b (g 7)) (h8 : zr_b (g 8)) (h9 : zr_b (g 9)) : zs_flg g ||| 4 = zs_flg (va_up g 9 1) := by
  unfold zs_flg
  rw [show va_up g 9 1 7 = g 7 from rfl, show va_up g 9 1 8 = g 8 from rfl, show va_up g 9 1 9 = 1 from rfl]
  rcases h7 with e | e <;> rw [e] <;> rcases h8 with e | e <;> rw [e] <;> rcases h9 with e | e <;> rw [e] <;> decide
theorem zr_flg1 {g : Nat → Int32} (h7 : zr_b (g 7)) (h8 : zr_b (g 8)) (h9 : zr_b (g 9)) : zs_flg g ||| 1 = zs_flg (va_up g 7 1) := by
  unfold zs_flg
  rw [show va_up g 7 1 7 = 1 from rfl, show va_up g 7 1 8 = g 8 from rfl, show va_up g 7 1 9 = g 9 from rfl]
  rcases h7 with e | e <;> rw [e] <;> rcases h8 with e | e <;> rw [e] <;> rcases h9 with e | e <;> rw [e] <;> decide
theorem zr_f8 {g h h' : Nat → Int32} (q : zr_f g h) (e7 : h' 7 = h 7 ||| 2) (e : ∀ a, a ≠ 7 → h' a = h a) : zr_f (va_up g 8 1) h' := by
  refine ⟨fun a ha => ?_, ?_, q.2.2.1, q.2.2.2.1, q.2.2.2.2.1, q.2.2.2.2.2.1, .inr rfl, q.2.2.2.2.2.2.2⟩
  · rw [zz_ne (by omega)]
    exact (e a (by omega)).trans (q.1 a ha)
  · rw [e7, q.2.1]
    exact zr_flg2 q.2.2.2.2.2.1 q.2.2.2.2.2.2.1 q.2.2.2.2.2.2.2
theorem zr_f9 {g h h' : Nat → Int32} (q : zr_f g h) (e7 : h' 7 = h 7 ||| 4) (e : ∀ a, a ≠ 7 → h' a = h a) : zr_f (va_up g 9 1) h' := by
  refine ⟨fun a ha => ?_, ?_, q.2.2.1, q.2.2.2.1, q.2.2.2.2.1, q.2.2.2.2.2.1, q.2.2.2.2.2.2.1, .inr rfl⟩
  · rw [zz_ne (by omega)]
    exact (e a (by omega)).trans (q.1 a ha)
  · rw [e7, q.2.1]
    exact zr_flg4 q.2.2.2.2.2.1 q.2.2.2.2.2.2.1 q.2.2.2.2.2.2.2
theorem zr_f7 {g h h' : Nat → Int32} (q : zr_f g h) (e7 : h' 7 = h 7 ||| 1) (e : ∀ a, a ≠ 7 → h' a = h a) : zr_f (va_up g 7 1) h' := by
  refine ⟨fun a ha => ?_, ?_, q.2.2.1, q.2.2.2.1, q.2.2.2.2.1, .inr rfl, q.2.2.2.2.2.2.1, q.2.2.2.2.2.2.2⟩
  · rw [zz_ne (by omega)]
    exact (e a (by omega)).trans (q.1 a ha)
  · rw [e7, q.2.1]
    exact zr_flg1 q.2.2.2.2.2.1 q.2.2.2.2.2.2.1 q.2.2.2.2.2.2.2
theorem zr_fl7E {fa : Nat → Nat → Int32} {i : Nat} {x : Int32} : zv_fl7 fa i x 7 i = x ∧ (∀ a, a ≠ 7 → zv_fl7 fa i x a i = fa a i) ∧ ∀ a j, j ≠ i → zv_fl7 fa i x a j = fa a j := by
  unfold zv_fl7
  refine ⟨pk_us, fun a ha => by rw [zz_ne ha], fun a j hj => ?_⟩
  by_cases e : a = 7
  · subst e; rw [zz_eq, pk_un hj]
  · rw [zz_ne e]
theorem zr_ageE {fa : Nat → Nat → Int32} {i : Nat} {x : Int32} : zv_age fa i x 6 i = x ∧ (∀ a, a ≠ 6 → zv_age fa i x a i = fa a i) ∧ ∀ a j, j ≠ i → zv_age fa i x a j = fa a j := by
  unfold zv_age
  refine ⟨pk_us, fun a ha => by rw [zz_ne ha], fun a j hj => ?_⟩
  by_cases e : a = 6
  · subst e; rw [zz_eq, pk_un hj]
  · rw [zz_ne e]
/-- how a flow's row stands beside the reference's -/
def zr_G (pm : Nat → Nat) (c : Nat) (fl fa : Nat → Nat → Int32) (R : (Nat → Nat) × (Nat → Nat → Int32) × Nat) (S : (Nat → Nat → Int32) × Nat) : Prop :=
  S.2 = R.2.2 ∧ R.2.2 ≤ c ∧ (∀ j, R.1 j < 12) ∧ zs_inj R.1 ∧ zr_F R.1 R.2.2 R.2.1 S.1
theorem zr_keep {pm : Nat → Nat} {c : Nat} {fl fa fa' : Nat → Nat → Int32} {g' : Nat → Int32} {i : Nat} (hF : zr_F pm c fl fa) (hp : ∀ j, pm j < 12) (hj : zs_inj pm) (hc : c ≤ 12) (hi : i < c) (h' : zr_f g' (fun a => fa' a i)) (e0 : g' 0 = fl (pm i) 0) (e1 : g' 1 = fl (pm i) 1) (e2 : g' 2 = fl (pm i) 2) (e5 : g' 5 = fl (pm i) 5) (ho : ∀ a j, j ≠ i → fa' a j = fa a j) : zr_G pm c fl fa (pm, va_up fl (pm i) g', c) (fa', c) :=
  ⟨rfl, Nat.le_refl _, hp, hj, zr_mod hF hj hc hi h' e0 e1 e2 e5 ho⟩
theorem zr_gone {pm : Nat → Nat} {c : Nat} {fl fa fa' : Nat → Nat → Int32} {g' : Nat → Int32} {i : Nat} (hF : zr_F pm c fl fa) (hp : ∀ j, pm j < 12) (hj : zs_inj pm) (hc : c ≤ 12) (hi : i < c) (h' : zr_f g' (fun a => fa' a i)) (e0 : g' 0 = fl (pm i) 0) (e1 : g' 1 = fl (pm i) 1) (e2 : g' 2 = fl (pm i) 2) (e5 : g' 5 = fl (pm i) 5) (ho : ∀ a j, j ≠ i → fa' a j = fa a j) : zr_G pm c fl fa (zs_end pm i c, va_up fl (pm i) g', c - 1) (zv_shf fa' i (c - 1 - i), c - 1) := by
  have q := zr_end (zr_mod hF hj hc hi h' e0 e1 e2 e5 ho) hj hc hi
  exact ⟨rfl, Nat.sub_le _ _, zs_end_lt hp, q.1, q.2⟩
theorem zr_nto {v w su : Nat → Int32} {pm : Nat → Nat} {c : Nat} {fl fa : Nat → Nat → Int32} {i : Nat} (hF : zr_F pm c fl fa) (hp : ∀ j, pm j < 12) (hj : zs_inj pm) (hc : c ≤ 12) (hi : i < c) (he : zs_err v = 0) (h16 : w 16 = v 16) (h0 : fl (pm i) 0 = su 0) : zr_G pm c fl fa (zs_nto v su pm fl c i) (zv_tco w fa c i) := by
  have q := hF.1 i hi
  have a0 : zv_age fa i 0 0 i = fl (pm i) 0 := (zr_ageE.2.1 0 (by decide)).trans (q.1 0 (by decide))
  have qa : zr_f (va_up (fl (pm i)) 6 0) (fun a => zv_age fa i 0 a i) := zr_f6 q zr_ageE.1 (fun a ha => zr_ageE.2.1 a ha)
  have oa : ∀ a j, j ≠ i → zv_age fa i 0 a j = fa a j := zr_ageE.2.2
  unfold zs_nto zv_tco
  rw [if_pos he, a0, h0, h16]
  by_cases k6 : su 0 = 6
  · rw [if_pos k6, if_pos k6]
    unfold zs_nfo
    rcases zr_b1 (v 16) with b1 | b1
    · rw [if_pos b1, if_neg (show ¬ v 16 &&& 1 = 1 by rw [b1]; decide)]
      rcases zr_b4 (v 16) with b4 | b4
      · rw [if_pos b4, if_neg (show ¬ v 16 &&& 4 = 4 by rw [b4]; decide)]
        exact zr_keep hF hp hj hc hi qa rfl rfl rfl rfl oa
      · rw [if_neg (show ¬ v 16 &&& 4 = 0 by rw [b4]; decide), if_pos b4]
        exact zr_gone hF hp hj hc hi qa rfl rfl rfl rfl oa
    · have qb : zr_f (va_up (va_up (fl (pm i)) 6 0) 8 1) (fun a => zv_fl7 (zv_age fa i 0) i (zv_age fa i 0 7 i ||| 2) a i) := zr_f8 qa zr_fl7E.1 (fun a ha => zr_fl7E.2.1 a ha)
      have ob : ∀ a j, j ≠ i → zv_fl7 (zv_age fa i 0) i (zv_age fa i 0 7 i ||| 2) a j = fa a j := fun a j h => (zr_fl7E.2.2 a j h).trans (oa a j h)
      rw [if_neg (show ¬ v 16 &&& 1 = 0 by rw [b1]; decide), if_pos b1]
      rcases zr_b4 (v 16) with b4 | b4
      · rw [if_pos b4, if_neg (show ¬ v 16 &&& 4 = 4 by rw [b4]; decide)]
        exact zr_keep hF hp hj hc hi qb rfl rfl rfl rfl ob
      · rw [if_neg (show ¬ v 16 &&& 4 = 0 by rw [b4]; decide), if_pos b4]
        exact zr_gone hF hp hj hc hi qb rfl rfl rfl rfl ob
  · rw [if_neg k6, if_neg k6]
    exact zr_keep hF hp hj hc hi qa rfl rfl rfl rfl oa
theorem zr_tc1 {x : Int32} {w : Nat → Int32} {pm : Nat → Nat} {c : Nat} {fl fa fb : Nat → Nat → Int32} {i : Nat} {g : Nat → Int32} (hF : zr_F pm c fl fa) (hp : ∀ j, pm j < 12) (hj : zs_inj pm) (hc : c ≤ 12) (hi : i < c) (h16 : w 16 = x) (qa : zr_f g (fun a => fb a i)) (oa : ∀ a j, j ≠ i → fb a j = fa a j) (e0 : g 0 = fl (pm i) 0) (e1 : g 1 = fl (pm i) 1) (e2 : g 2 = fl (pm i) 2) (e5 : g 5 = fl (pm i) 5) :
    zr_G pm c fl fa (if x &&& 4 = 0 then (pm, va_up fl (pm i) (if x &&& 1 = 0 then g else va_up g 9 1), c) else (zs_end pm i c, va_up fl (pm i) (if x &&& 1 = 0 then g else va_up g 9 1), c - 1)) (zv_tc1 w fb c i) := by
  unfold zv_tc1
  rw [h16]
  rcases zr_b1 x with b1 | b1
  · rw [if_pos b1, if_neg (show ¬ x &&& 1 = 1 by rw [b1]; decide)]
    rcases zr_b4 x with b4 | b4
    · rw [if_pos b4, if_neg (show ¬ x &&& 4 = 4 by rw [b4]; decide)]
      exact zr_keep hF hp hj hc hi qa e0 e1 e2 e5 oa
    · rw [if_neg (show ¬ x &&& 4 = 0 by rw [b4]; decide), if_pos b4]
      exact zr_gone hF hp hj hc hi qa e0 e1 e2 e5 oa
  · have qb : zr_f (va_up g 9 1) (fun a => zv_fl7 fb i (fb 7 i ||| 4) a i) := zr_f9 qa zr_fl7E.1 (fun a ha => zr_fl7E.2.1 a ha)
    have ob : ∀ a j, j ≠ i → zv_fl7 fb i (fb 7 i ||| 4) a j = fa a j := fun a j h => (zr_fl7E.2.2 a j h).trans (oa a j h)
    rw [if_neg (show ¬ x &&& 1 = 0 by rw [b1]; decide), if_pos b1]
    rcases zr_b4 x with b4 | b4
    · rw [if_pos b4, if_neg (show ¬ x &&& 4 = 4 by rw [b4]; decide)]
      exact zr_keep hF hp hj hc hi qb e0 e1 e2 e5 ob
    · rw [if_neg (show ¬ x &&& 4 = 0 by rw [b4]; decide), if_pos b4]
      exact zr_gone hF hp hj hc hi qb e0 e1 e2 e5 ob
theorem zr_nti {v w su : Nat → Int32} {pm : Nat → Nat} {c : Nat} {fl fa : Nat → Nat → Int32} {i : Nat} (hF : zr_F pm c fl fa) (hp : ∀ j, pm j < 12) (hj : zs_inj pm) (hc : c ≤ 12) (hi : i < c) (he : zs_err v = 0) (h16 : w 16 = v 16) (h0 : fl (pm i) 0 = su 0) : zr_G pm c fl fa (zs_nti v su pm fl c i) (zv_tci w fa c i) := by
  have q := hF.1 i hi
  have a0 : zv_age fa i 0 0 i = fl (pm i) 0 := (zr_ageE.2.1 0 (by decide)).trans (q.1 0 (by decide))
  have qa : zr_f (va_up (fl (pm i)) 6 0) (fun a => zv_age fa i 0 a i) := zr_f6 q zr_ageE.1 (fun a ha => zr_ageE.2.1 a ha)
  have oa : ∀ a j, j ≠ i → zv_age fa i 0 a j = fa a j := zr_ageE.2.2
  unfold zs_nti zv_tci
  rw [if_pos he, a0, h0]
  by_cases k6 : su 0 = 6
  · rw [if_pos k6, if_pos k6, h16]
    unfold zs_nfi
    by_cases b18 : v 16 &&& 18 = 18
    · have qb : zr_f (va_up (va_up (fl (pm i)) 6 0) 7 1) (fun a => zv_fl7 (zv_age fa i 0) i (zv_age fa i 0 7 i ||| 1) a i) := zr_f7 qa zr_fl7E.1 (fun a ha => zr_fl7E.2.1 a ha)
      have ob : ∀ a j, j ≠ i → zv_fl7 (zv_age fa i 0) i (zv_age fa i 0 7 i ||| 1) a j = fa a j := fun a j h => (zr_fl7E.2.2 a j h).trans (oa a j h)
      rw [if_pos b18, if_pos b18]
      exact zr_tc1 hF hp hj hc hi h16 qb ob rfl rfl rfl rfl
    · rw [if_neg b18, if_neg b18]
      exact zr_tc1 hF hp hj hc hi h16 qa oa rfl rfl rfl rfl
  · rw [if_neg k6, if_neg k6]
    exact zr_keep hF hp hj hc hi qa rfl rfl rfl rfl oa
