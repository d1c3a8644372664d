theorem zk_swapM {l : Launch} {y : MethodName} {cc : ByteArray} {nL : Nat} {ret : Option FieldType} {fr lo : Nat} {as : List Value} {r : Option Value} {G : zz_G} {B : Nat → va_E} {v : Nat → Int32} {sz : Int32} {lv : Nat → Int32} {lz : Int32} {su : Nat → Int32} {pm : Nat → Nat} {cn : Int32} {fl ru : Nat → Nat → Int32} {w : Nat → Int32} {sz2 : Int32} {la : Nat → Int32} {lz2 : Int32} {ra : Nat → Nat → Int32} {fn : Int32} {fa : Nat → Nat → Int32} {cd : Int32} {w' : Nat → Int32} {sz2' : Int32} {la' : Nat → Int32} {lz2' : Int32} {ra' : Nat → Nat → Int32} {fn' : Int32} {fa' : Nat → Nat → Int32} {cd' : Int32}
    (h : zz_M l y cc nL ret fr lo G as (zz_N G (zz_K G B v sz lv lz su pm cn fl ru) w sz2 la lz2 ra fn fa cd) r (zz_N G (zz_K G B v sz lv lz su pm cn fl ru) w' sz2' la' lz2' ra' fn' fa' cd')) :
    zz_M l y cc nL ret fr lo G as (zz_K G (zz_N G B w sz2 la lz2 ra fn fa cd) v sz lv lz su pm cn fl ru) r (zz_K G (zz_N G B w' sz2' la' lz2' ra' fn' fa' cd') v sz lv lz su pm cn fl ru) := by
  rw [zk_comm, zk_comm]
  exact h
theorem zk_u41 {G : zz_G} {B : Nat → va_E} {v : Nat → Int32} {sz : Int32} {lv : Nat → Int32} {lz : Int32} {su : Nat → Int32} {pm : Nat → Nat} {cn : Int32} {fl ru : Nat → Nat → Int32} {w : Nat → Int32} {sz2 : Int32} {la : Nat → Int32} {lz2 : Int32} {ra : Nat → Nat → Int32} {fn : Int32} {fa : Nat → Nat → Int32} {cd : Int32} {e : va_E} :
    va_up (zz_K G (zz_N G B w sz2 la lz2 ra fn fa cd) v sz lv lz su pm cn fl ru) 41 e = zz_K G (zz_N G (va_up B 41 e) w sz2 la lz2 ra fn fa cd) v sz lv lz su pm cn fl ru := by
  refine zk_ext rfl rfl rfl rfl rfl rfl rfl rfl rfl rfl rfl rfl rfl rfl rfl rfl rfl rfl rfl rfl rfl rfl rfl rfl rfl rfl (fun k hk => ?_)
  rw [zk_hi hk]
  by_cases h : 41 ≤ k
  · rw [zn_hi h]
    by_cases h3 : k = 41
    · subst h3
      rw [zz_eq, zz_eq]
    · rw [zz_ne h3, zz_ne h3, zk_hi hk, zn_hi h]
  · rw [zz_ne (by omega), zk_hi hk]
    unfold zz_N
    have h2 : Nat.ble 41 k = false := by
      cases hb : Nat.ble 41 k with
      | false => rfl
      | true => exact absurd (Nat.le_of_ble_eq_true hb) (by omega)
    have h1 : Nat.ble k 25 = false := by
      cases hb : Nat.ble k 25 with
      | false => rfl
      | true => exact absurd (Nat.le_of_ble_eq_true hb) (by omega)
    rw [h2, h1]
    rfl
theorem zo_length {l : Launch} {G : zz_G} {F : Nat → va_E} (h : zz_In G F) : ∃ x F2 F3 fs1 fs2, zz_M l zy_PT_length zb_PT_length 1 (some .int) 0 0 G [.ref (G.2.2 0)] F (some (.int x)) F2 ∧ zz_M l zy_MO_length zb_MO_length 1 (some .int) 0 0 G [.ref (G.2.2 26)] F2 (some (.int x)) F3 ∧ F 0 = .inr (0, fs1) ∧ F2 26 = .inr (7, fs2) ∧ zz_In G F3 := by
  obtain ⟨B, o, v, n, lv, la, nl, su, pm, c, fl, fa, ru, ra, cd, hB, rfl, hR⟩ := h
  exact ⟨_, _, _, _, _, zc_PT_length, zk_swapM zc_MO_length, rfl, rfl, ⟨B, o, v, n, lv, la, nl, su, pm, c, fl, fa, ru, ra, 0, hB, rfl, hR⟩⟩
theorem zo_flows {l : Launch} {G : zz_G} {F : Nat → va_E} (h : zz_In G F) : ∃ x F2 F3 fs1 fs2, zz_M l zy_PT_flows zb_PT_flows 1 (some .int) 0 0 G [.ref (G.2.2 0)] F (some (.int x)) F2 ∧ zz_M l zy_MO_flows zb_MO_flows 1 (some .int) 0 0 G [.ref (G.2.2 26)] F2 (some (.int x)) F3 ∧ F 0 = .inr (0, fs1) ∧ F2 26 = .inr (7, fs2) ∧ zz_In G F3 := by
  obtain ⟨B, o, v, n, lv, la, nl, su, pm, c, fl, fa, ru, ra, cd, hB, rfl, hR⟩ := h
  exact ⟨_, _, _, _, _, zc_PT_flows, zk_swapM zc_MO_flows, rfl, rfl, ⟨B, o, v, n, lv, la, nl, su, pm, c, fl, fa, ru, ra, 0, hB, rfl, hR⟩⟩
theorem zo_scrap {l : Launch} {G : zz_G} {F : Nat → va_E} (h : zz_In G F) : ∃ F2 F3 fs1 fs2, zz_M l zy_PT_scrap zb_PT_scrap 1 none 1 20 G [.ref (G.2.2 0)] F none F2 ∧ zz_M l zy_MO_scrap zb_MO_scrap 1 none 0 0 G [.ref (G.2.2 26)] F2 none F3 ∧ F 0 = .inr (0, fs1) ∧ F2 26 = .inr (7, fs2) ∧ zz_In G F3 := by
  obtain ⟨B, o, v, n, lv, la, nl, su, pm, c, fl, fa, ru, ra, cd, hB, rfl, hR⟩ := h
  exact ⟨_, _, _, _, zc_PT_scrap, zk_swapM zc_MO_scrap, rfl, rfl, ⟨B, o, v, 0, lv, la, nl, su, pm, c, fl, fa, ru, ra, 0, hB, rfl, Nat.zero_le _, hR.2⟩⟩

theorem zr_hi0 : ∀ j : Fin 32, 16 ≤ j.val → (65535#32)[j.val] = false := by decide
theorem zr_sh (x : BitVec 64) (s i : Nat) (hi : i < 32) (hs : s ≤ 48) : ((BitVec.signExtend 32 (x >>> s))[i] && (65535#32)[i]) = ((BitVec.signExtend 32 (x.sshiftRight s))[i] && (65535#32)[i]) := by
  by_cases h : i < 16
  · have e : (BitVec.signExtend 32 (x >>> s))[i] = (BitVec.signExtend 32 (x.sshiftRight s))[i] := by
      rw [BitVec.getElem_signExtend, BitVec.getElem_signExtend, dif_pos (by omega), dif_pos (by omega)]
      rw [BitVec.getElem_ushiftRight, BitVec.getElem_sshiftRight, dif_pos (by omega), BitVec.getLsbD_eq_getElem (by omega)]
    rw [e]
  · rw [zr_hi0 ⟨i, hi⟩ (Nat.le_of_not_lt h), Bool.and_false, Bool.and_false]
theorem zr_wd (x : Int64) (l : Nat) (h : l < 4) : zs_wd x (nI l) = zv_wd x (nI l) := by
  unfold zs_wd zv_wd
  apply Int32.toBitVec_inj.mp
  match l, h with
  | 0, _ => ext i hi; simp [nI]
  | 1, _ => ext i hi; simp [nI]; exact zr_sh _ 16 i hi (by decide)
  | 2, _ => ext i hi; simp [nI]; exact zr_sh _ 32 i hi (by decide)
  | 3, _ => ext i hi; simp [nI]; exact zr_sh _ 48 i hi (by decide)
theorem zr_16_wd (x : Int64) (y : Int32) : zr_16 (zs_wd x y) := zr_16_and _
theorem zr_pw (x : Int64) : ∀ (a : Nat) (v : Nat → Int32) (n : Nat), a ≤ 4 → zv_pw x a v n = zs_pw x a v n
  | 0, _, _, _ => rfl
  | l + 1, v, n, h => by
    rw [zv_pw, zs_pw, zr_wd x l (by omega), zr_pw x l _ _ (by omega)]
theorem zr_pw16 (x : Int64) : ∀ (a : Nat) (v : Nat → Int32) (n : Nat), (∀ i, zr_16 (v i)) → ∀ i, zr_16 (zs_pw x a v n i)
  | 0, _, _, h => h
  | l + 1, v, n, h => by
    rw [zs_pw]
    exact zr_pw16 x l _ _ (zr_16_upd h (zr_16_wd _ _))
theorem zo_put {l : Launch} {G : zz_G} {F : Nat → va_E} (h : zz_In G F) (k : Int32) (x : Int64) : ∃ r F2 F3 fs1 fs2, zz_M l zy_PT_put zb_PT_put 5 (some .boolean) 1 21 G [.ref (G.2.2 0), .int k, .long x] F (some (.int r)) F2 ∧ zz_M l zy_MO_put zb_MO_put 5 (some .boolean) 0 0 G [.ref (G.2.2 26), .int k, .long x] F2 (some (.int r)) F3 ∧ F 0 = .inr (0, fs1) ∧ F2 26 = .inr (7, fs2) ∧ zz_In G F3 := by
  obtain ⟨B, o, v, n, lv, la, nl, su, pm, c, fl, fa, ru, ra, cd, hB, rfl, hR⟩ := h
  have hI : zz_In G (zz_S G B v n lv la nl su pm c fl fa ru ra 0) := ⟨B, o, v, n, lv, la, nl, su, pm, c, fl, fa, ru, ra, 0, hB, rfl, hR⟩
  by_cases h1 : k < 1
  · exact ⟨_, _, _, _, _, zc_PT_put_lo h1, zk_swapM (zc_MO_put_lo h1), rfl, rfl, hI⟩
  by_cases h4 : 4 < k
  · exact ⟨_, _, _, _, _, zc_PT_put_hi h4, zk_swapM (zc_MO_put_hi h4), rfl, rfl, hI⟩
  obtain ⟨a, ha, rfl⟩ := nI_of2 (x := k) (M := 4) (n := 4) rfl (fun q => h1 (Int32.lt_trans q (by decide))) (Int32.not_lt.mp h4)
  have ha1 : 1 ≤ a := by
    rcases Nat.eq_zero_or_pos a with e | e
    · subst e; exact absurd (by decide) h1
    · exact e
  by_cases hf : n + a ≤ 48
  · refine ⟨_, _, _, _, _, zc_PT_put ha1 ha hf, zk_swapM (zc_MO_put ha1 ha hf), rfl, rfl, ⟨B, o, zs_pw x a v n, n + a, lv, la, nl, su, pm, c, fl, fa, ru, ra, 0, hB, ?_, hf, hR.2.1, hR.2.2.1, zr_pw16 x a v n hR.2.2.2.1, hR.2.2.2.2⟩⟩
    rw [zr_pw x a v n ha]
    rfl
  · exact ⟨_, _, _, _, _, zc_PT_put_full (zq_noroom hR.1 ha (by omega)), zk_swapM (zc_MO_put_full (by rw [nI_add]; exact nI_ge (a := 48) (by omega) (by have := hR.1; omega))), rfl, rfl, hI⟩
def zz_Ok (l : Launch) (G : zz_G) (W1 : (Nat → va_E) → Prop) (W2 : (Nat → va_E) → Int32 → (Nat → va_E) → Prop) : Prop :=
  ∃ r F2 F3 fs2 fs3 o, W1 F2 ∧ W2 F2 r F3 ∧ zz_M l zy_MO_thrown zb_MO_thrown 1 (some .int) 0 0 G [.ref (G.2.2 26)] F3 (some (.int 0)) F3 ∧ F2 26 = .inr (7, fs2) ∧ F3 26 = .inr (7, fs3) ∧ F3 41 = .inl (G.2.1 2, 1, .inr (.inl o)) ∧ o 0 = r.toInt64 ∧ zz_In G F3
def zz_Er (l : Launch) (G : zz_G) (F : Nat → va_E) (W2 : Int32 → (Nat → va_E) → Prop) (cd : Int32) : Prop :=
  ∃ r F3 fs2 fs3, W2 r F3 ∧ zz_M l zy_MO_thrown zb_MO_thrown 1 (some .int) 0 0 G [.ref (G.2.2 26)] F3 (some (.int cd)) F3 ∧ F 26 = .inr (7, fs2) ∧ F3 26 = .inr (7, fs3) ∧ zz_In G F3
/-- the class answers `r`, and so does the reference -/
theorem zo_p0 {l : Launch} {G : zz_G} {B : Nat → va_E} {o : Nat → Int64} {v : Nat → Int32} {n : Nat} {lv la : Nat → Int32} {nl : Nat} {su : Nat → Int32} {c : Nat} {fa ra : Nat → Nat → Int32} {cd : Int32} {pm' : Nat → Nat} {c' : Nat} {fl' fa' ru' ra' : Nat → Nat → Int32}
    {y2 : MethodName} {cc2 : ByteArray} {nL2 : Nat} {ret2 : Option FieldType} {fr2 lo2 : Nat} {as2 : List Value} {W1 : (Nat → va_E) → Prop} {r : Int32}
    (hB : B 41 = .inl (G.2.1 2, 1, .inr (.inl o)))
    (h1 : W1 (va_up (zz_K G (zz_N G B v (nI n) la (nI nl) ra (nI c) fa cd) v (nI n) lv (nI nl) su pm' (nI c') fl' ru') 41 (.inl (G.2.1 2, 1, .inr (.inl (vp_updL o 0 r.toInt64))))))
    (h2 : ∀ F, zz_M l y2 cc2 nL2 ret2 fr2 lo2 G as2 (zz_N G F v (nI n) la (nI nl) ra (nI c) fa cd) (some (.int r)) (zz_N G F v (nI n) la (nI nl) ra' (nI c') fa' 0))
    (hR : zr_R v n lv la nl pm' c' fl' fa' ru' ra') : zz_Ok l G W1 (fun F2 r F3 => zz_M l y2 cc2 nL2 ret2 fr2 lo2 G as2 F2 (some (.int r)) F3) := by
  rw [zk_u41] at h1
  exact ⟨r, _, _, _, _, vp_updL o 0 r.toInt64, h1, zk_swapM (h2 _), zk_swapM zc_MO_thrown, rfl, rfl, rfl, pk_uLs, ⟨va_up B 41 _, vp_updL o 0 r.toInt64, v, n, lv, la, nl, su, pm', c', fl', fa', ru', ra', 0, zz_eq, rfl, hR⟩⟩
theorem zo_p1 {l : Launch} {G : zz_G} {B : Nat → va_E} {o : Nat → Int64} {v : Nat → Int32} {n : Nat} {lv la : Nat → Int32} {nl : Nat} {su : Nat → Int32} {pm : Nat → Nat} {c : Nat} {fl fa ru ra : Nat → Nat → Int32} {cd cd2 : Int32}
    {y2 : MethodName} {cc2 : ByteArray} {nL2 : Nat} {ret2 : Option FieldType} {fr2 lo2 : Nat} {as2 : List Value} {r : Int32}
    (hB : B 41 = .inl (G.2.1 2, 1, .inr (.inl o)))
    (h2 : ∀ F, zz_M l y2 cc2 nL2 ret2 fr2 lo2 G as2 (zz_N G F v (nI n) la (nI nl) ra (nI c) fa cd) (some (.int r)) (zz_N G F v (nI n) la (nI nl) ra (nI c) fa cd2))
    (hR : zr_R v n lv la nl pm c fl fa ru ra) : zz_Er l G (zz_S G B v n lv la nl su pm c fl fa ru ra cd) (fun r F3 => zz_M l y2 cc2 nL2 ret2 fr2 lo2 G as2 (zz_S G B v n lv la nl su pm c fl fa ru ra cd) (some (.int r)) F3) cd2 :=
  ⟨r, _, _, _, zk_swapM (h2 _), zk_swapM zc_MO_thrown, rfl, rfl, ⟨B, o, v, n, lv, la, nl, su, pm, c, fl, fa, ru, ra, cd2, hB, rfl, hR⟩⟩
def zz_a1 (l : Launch) (G : zz_G) (F : Nat → va_E) (x : Int32) (r : Int32) (F2 : Nat → va_E) (mc ms : Nat) : Prop := zz_MW l zy_LA_at zb_LA_at 4 (some .int) [(0, 9, 12, 13)] 7 111 mc ms G [.ref (G.2.2 0), .int x, .ref (G.2.2 41)] F (some (.int r)) F2
def zz_a2 (l : Launch) (G : zz_G) (x : Int32) (F : Nat → va_E) (r : Int32) (F2 : Nat → va_E) : Prop := zz_M l zy_MO_at zb_MO_at 2 (some .int) 0 0 G [.ref (G.2.2 26), .int x] F (some (.int r)) F2
theorem zo_at {l : Launch} (hfl : l.flags = pinnedFlags ++ [noTraceFlag]) {G : zz_G} {F : Nat → va_E} (h : zz_In G F) (x : Int32) : zz_Ok l G (fun F2 => zz_a1 l G F x 0 F2 0 0) (zz_a2 l G x) ∨ (zz_a1 l G F x 1 F 1 6 ∧ zz_Er l G F (zz_a2 l G x F) 1) := by
  obtain ⟨B, o, v, n, lv, la, nl, su, pm, c, fl, fa, ru, ra, cd, hB, rfl, hR⟩ := h
  have hn := hR.2.1
  by_cases h0 : x < 0
  · exact .inr ⟨zt_LA_at rfl (zt_PT_at_lo hfl h0), zo_p1 hB (fun _ => zc_MO_at_lo h0) hR⟩
  by_cases h1 : x < nI nl
  · obtain ⟨j, hj, rfl⟩ := nI_of h0
    have hj2 : j < nl := (nI_ltI hj (by omega)).mp h1
    have e := hR.2.2.2.2.1 j hj2
    refine .inl (zo_p0 (r := lv j) (c := c) (su := su) (fa := fa) (ra := ra) (cd := cd) hB ?_ (fun _ => ?_) hR)
    · exact zc_LA_at rfl hB (zc_PT_at hj2 hn)
    · have q := zc_MO_at (l := l) (G := G) (F := ‹_›) (w := v) (sz := nI n) (la := la) (ra := ra) (fn := nI c) (fa := fa) (cd := cd) hj2 hn
      rw [e] at q
      exact q
  · exact .inr ⟨zt_LA_at rfl (zt_PT_at_hi hfl h0 h1), zo_p1 hB (fun _ => zc_MO_at_hi h1) hR⟩

theorem zr_rc {ru ra : Nat → Nat → Int32} (h : zr_U ru ra) : ∀ (n i : Nat) (acc : Int32), zv_rc (ra 0) i n acc = zs_rc ru i n acc
  | 0, _, _ => rfl
  | n + 1, i, acc => by
    rw [zv_rc, zs_rc, zr_rc h n, zr_rc h n]
    rcases (h i).1 with ⟨e1, e2⟩ | ⟨e1, e2, -, -, -, e3⟩
    · have e2' : ra 0 i = -1 := e2
      rw [if_pos (show ra 0 i < 0 by rw [e2']; decide), if_pos e1]
    · have e2' : ra 0 i = ru i 1 := e2
      rw [if_neg (show ¬ ra 0 i < 0 by rw [e2']; rcases e3 with e | e | e | e <;> rw [e] <;> decide), if_neg (show ¬ ru i 0 = 0 by rw [e1]; decide)]
theorem zr_rul {ru ra : Nat → Nat → Int32} (h : zr_U ru ra) (i : Nat) {k w b p : Int32} (hk : k = 0 ∨ k = 1 ∨ k = 6 ∨ k = 17) (hp : p = 0 ∨ p = 1) : zr_U (va_up ru i (zs_bec (ru i) k w b p)) (zv_rul ra i k w b p) := by
  intro j
  have hp2 : vp_nar .boolean p = p := by rcases hp with rfl | rfl <;> rfl
  unfold zv_rul
  by_cases e : j = i
  · subst e
    rw [zz_eq]
    refine ⟨.inr ⟨rfl, pk_us, pk_us, pk_us, pk_us.trans hp2, hk⟩, hp, ?_⟩
    show zr_b (upd (ra 3) j (vp_nar .boolean p) j)
    rw [pk_us, hp2]
    exact hp
  · rw [zz_ne e]
    have q := h j
    have a0 : upd (ra 0) i k j = ra 0 j := pk_un e
    have a1 : upd (ra 1) i w j = ra 1 j := pk_un e
    have a2 : upd (ra 2) i b j = ra 2 j := pk_un e
    have a3 : upd (ra 3) i (vp_nar .boolean p) j = ra 3 j := pk_un e
    refine ⟨?_, q.2.1, ?_⟩
    · show (ru j 0 = 0 ∧ upd (ra 0) i k j = -1 ∨ ru j 0 = 1 ∧ upd (ra 0) i k j = ru j 1 ∧ upd (ra 1) i w j = ru j 2 ∧ upd (ra 2) i b j = ru j 3 ∧ upd (ra 3) i (vp_nar .boolean p) j = ru j 4 ∧ _)
      rw [a0, a1, a2, a3]
      exact q.1
    · show zr_b (upd (ra 3) i (vp_nar .boolean p) j)
      rw [a3]
      exact q.2.2
theorem zr_fgt {ru ra : Nat → Nat → Int32} (h : zr_U ru ra) (i : Nat) : zr_U (va_up ru i (va_up (ru i) 0 0)) (va_up ra 0 (upd (ra 0) i (-1))) := by
  intro j
  by_cases e : j = i
  · subst e
    rw [zz_eq]
    exact ⟨.inl ⟨rfl, pk_us⟩, (h j).2.1, (h j).2.2⟩
  · rw [zz_ne e]
    have q := h j
    have a0 : upd (ra 0) i (-1) j = ra 0 j := pk_un e
    refine ⟨?_, q.2.1, q.2.2⟩
    show (ru j 0 = 0 ∧ upd (ra 0) i (-1) j = -1 ∨ ru j 0 = 1 ∧ upd (ra 0) i (-1) j = ru j 1 ∧ ra 1 j = ru j 2 ∧ ra 2 j = ru j 3 ∧ ra 3 j = ru j 4 ∧ _)
    rw [a0]
    exact q.1
def zz_b1 (l : Launch) (G : zz_G) (F : Nat → va_E) (x k w b p : Int32) (r : Int32) (F2 : Nat → va_E) (mc ms : Nat) : Prop := zz_MW l zy_LA_rule zb_LA_rule 8 (some .int) [(0, 16, 19, 18)] 7 115 mc ms G [.ref (G.2.2 0), .int x, .int k, .int w, .int b, .int p, .ref (G.2.2 41)] F (some (.int r)) F2
def zz_b2 (l : Launch) (G : zz_G) (x k w b p : Int32) (F : Nat → va_E) (r : Int32) (F2 : Nat → va_E) : Prop := zz_M l zy_MO_rule zb_MO_rule 6 (some .int) 1 22 G [.ref (G.2.2 26), .int x, .int k, .int w, .int b, .int p] F (some (.int r)) F2
theorem zr_isk (k : Int32) : zv_isk k = zs_isk k := by
  unfold zv_isk zs_isk
  by_cases h1 : k = 1
  · subst h1; rfl
  by_cases h6 : k = 6
  · subst h6; rfl
  by_cases h17 : k = 17
  · subst h17; rfl
  rw [if_neg h6, if_neg h17, if_neg h1, if_neg h1, if_neg h6, if_neg h17]
theorem zr_iskE {k : Int32} (h : ¬ zs_isk k = 0) : k = 1 ∨ k = 6 ∨ k = 17 := by
  unfold zs_isk at h
  by_cases h1 : k = 1
  · exact .inl h1
  by_cases h6 : k = 6
  · exact .inr (.inl h6)
  by_cases h17 : k = 17
  · exact .inr (.inr h17)
  rw [if_neg h1, if_neg h6, if_neg h17] at h
  exact absurd rfl h
theorem zr_isn0 {x : Int32} (h : x < 0) : zs_isn x = 0 := if_pos h
theorem zr_isn4 {x : Int32} (h : 3 < x) : zs_isn x = 0 := by
  unfold zs_isn
  have h4 : (4 : Int32) ≤ x := by
    rw [Int32.le_iff_toInt_le]
    rw [Int32.lt_iff_toInt_lt] at h
    have e3 : (3 : Int32).toInt = 3 := rfl
    have e4 : (4 : Int32).toInt = 4 := rfl
    omega
  by_cases h0 : x < 0
  · rw [if_pos h0]
  · rw [if_neg h0, if_pos h4]
theorem zr_isn1 {x : Int32} (h0 : ¬ x < 0) (h : ¬ 3 < x) : ¬ zs_isn x = 0 := by
  unfold zs_isn
  have h4 : ¬ (4 : Int32) ≤ x := by
    rw [Int32.le_iff_toInt_le]
    rw [Int32.lt_iff_toInt_lt] at h
    have e3 : (3 : Int32).toInt = 3 := rfl
    have e4 : (4 : Int32).toInt = 4 := rfl
    omega
  rw [if_neg h0, if_neg h4]
  decide
theorem zo_rule {l : Launch} (hfl : l.flags = pinnedFlags ++ [noTraceFlag]) {G : zz_G} {F : Nat → va_E} (h : zz_In G F) (x k w b p : Int32) (hp : p = 0 ∨ p = 1) : zz_Ok l G (fun F2 => zz_b1 l G F x k w b p 0 F2 0 0) (zz_b2 l G x k w b p) ∨ (zz_b1 l G F x k w b p 1 F 1 6 ∧ zz_Er l G F (zz_b2 l G x k w b p F) 1) := by
  obtain ⟨B, o, v, n, lv, la, nl, su, pm, c, fl, fa, ru, ra, cd, hB, rfl, hR⟩ := h
  by_cases h0 : x < 0
  · exact .inr ⟨zt_LA_rule rfl (zt_PT_rule_a hfl (zr_isn0 h0)), zo_p1 hB (fun _ => zc_MO_rule_a h0) hR⟩
  by_cases h3 : 3 < x
  · exact .inr ⟨zt_LA_rule rfl (zt_PT_rule_a hfl (zr_isn4 h3)), zo_p1 hB (fun _ => zc_MO_rule_b h3) hR⟩
  have hn := zr_isn1 h0 h3
  obtain ⟨i, hi, rfl⟩ := nI_of2 (x := x) (M := 3) (n := 3) rfl h0 (Int32.not_lt.mp h3)
  have hU := hR.2.2.2.2.2.2.2.2
  by_cases hk : k = 0
  · by_cases hb0 : b < 0
    · exact .inr ⟨zt_LA_rule rfl (zt_PT_rule_d0 hfl hn hk hb0), zo_p1 hB (fun _ => zc_MO_rule_d hb0) hR⟩
    by_cases hb1 : b ≤ 32
    · refine .inl (zo_p0 (r := zs_rc (va_up ru i (zs_bec (ru i) k w b p)) 0 4 0) (c := c) (su := su) (fa := fa) (ra := ra) (cd := cd) (ra' := zv_rul ra i k w b p) hB (zc_LA_rule rfl hB (zc_PT_rule_ok0 (by omega) hk hb0 hb1 hp)) (fun Fx => ?_) ⟨hR.1, hR.2.1, hR.2.2.1, hR.2.2.2.1, hR.2.2.2.2.1, hR.2.2.2.2.2.1, hR.2.2.2.2.2.2.1, hR.2.2.2.2.2.2.2.1, zr_rul hU i (.inl hk) hp⟩)
      have q := zc_MO_rule_ok0 (l := l) (G := G) (F := Fx) (w := v) (sz := nI n) (la := la) (lz := nI nl) (ra := ra) (fn := nI c) (fa := fa) (cd := cd) (i := i) (w2 := w) (p := p) (by omega) hk hb0 hb1
      rw [zr_rc (zr_rul hU i (.inl hk) hp)] at q
      exact q
    · exact .inr ⟨zt_LA_rule rfl (zt_PT_rule_e0 hfl hn hk hb0 hb1), zo_p1 hB (fun _ => zc_MO_rule_e hb1) hR⟩
  by_cases hk2 : zs_isk k = 0
  · exact .inr ⟨zt_LA_rule rfl (zt_PT_rule_c hfl hn hk hk2), zo_p1 hB (fun _ => zc_MO_rule_c hk ((zr_isk k).trans hk2)) hR⟩
  have hk3 : ¬ zv_isk k = 0 := fun q => hk2 ((zr_isk k).symm.trans q)
  by_cases hb0 : b < 0
  · exact .inr ⟨zt_LA_rule rfl (zt_PT_rule_d1 hfl hn hk hk2 hb0), zo_p1 hB (fun _ => zc_MO_rule_d hb0) hR⟩
  by_cases hb1 : b ≤ 32
  · refine .inl (zo_p0 (r := zs_rc (va_up ru i (zs_bec (ru i) k w b p)) 0 4 0) (c := c) (su := su) (fa := fa) (ra := ra) (cd := cd) (ra' := zv_rul ra i k w b p) hB (zc_LA_rule rfl hB (zc_PT_rule_ok1 (by omega) hk hk2 hb0 hb1 hp)) (fun Fx => ?_) ⟨hR.1, hR.2.1, hR.2.2.1, hR.2.2.2.1, hR.2.2.2.2.1, hR.2.2.2.2.2.1, hR.2.2.2.2.2.2.1, hR.2.2.2.2.2.2.2.1, zr_rul hU i (.inr (zr_iskE hk2)) hp⟩)
    have q := zc_MO_rule_ok1 (l := l) (G := G) (F := Fx) (w := v) (sz := nI n) (la := la) (lz := nI nl) (ra := ra) (fn := nI c) (fa := fa) (cd := cd) (i := i) (w2 := w) (p := p) (by omega) hk hk3 hb0 hb1
    rw [zr_rc (zr_rul hU i (.inr (zr_iskE hk2)) hp)] at q
    exact q
  · exact .inr ⟨zt_LA_rule rfl (zt_PT_rule_e1 hfl hn hk hk2 hb0 hb1), zo_p1 hB (fun _ => zc_MO_rule_e hb1) hR⟩
def zz_c1 (l : Launch) (G : zz_G) (F : Nat → va_E) (x : Int32) (r : Int32) (F2 : Nat → va_E) (mc ms : Nat) : Prop := zz_MW l zy_LA_forget zb_LA_forget 4 (some .int) [(0, 9, 12, 18)] 7 111 mc ms G [.ref (G.2.2 0), .int x, .ref (G.2.2 41)] F (some (.int r)) F2
def zz_c2 (l : Launch) (G : zz_G) (x : Int32) (F : Nat → va_E) (r : Int32) (F2 : Nat → va_E) : Prop := zz_M l zy_MO_forget zb_MO_forget 2 (some .int) 1 22 G [.ref (G.2.2 26), .int x] F (some (.int r)) F2
theorem zo_forget {l : Launch} (hfl : l.flags = pinnedFlags ++ [noTraceFlag]) {G : zz_G} {F : Nat → va_E} (h : zz_In G F) (x : Int32) : zz_Ok l G (fun F2 => zz_c1 l G F x 0 F2 0 0) (zz_c2 l G x) ∨ (zz_c1 l G F x 1 F 1 6 ∧ zz_Er l G F (zz_c2 l G x F) 1) := by
  obtain ⟨B, o, v, n, lv, la, nl, su, pm, c, fl, fa, ru, ra, cd, hB, rfl, hR⟩ := h
  by_cases h0 : x < 0
  · exact .inr ⟨zt_LA_forget rfl (zt_PT_forget_a hfl (zr_isn0 h0)), zo_p1 hB (fun _ => zc_MO_forget_a h0) hR⟩
  by_cases h3 : 3 < x
  · exact .inr ⟨zt_LA_forget rfl (zt_PT_forget_a hfl (zr_isn4 h3)), zo_p1 hB (fun _ => zc_MO_forget_b h0 h3) hR⟩
  obtain ⟨i, hi, rfl⟩ := nI_of2 (x := x) (M := 3) (n := 3) rfl h0 (Int32.not_lt.mp h3)
  have hU := hR.2.2.2.2.2.2.2.2
  rcases (hU i).1 with ⟨e1, e2⟩ | ⟨e1, e2, -, -, -, e3⟩
  · have e2' : ra 0 i = -1 := e2
    exact .inr ⟨zt_LA_forget rfl (zt_PT_forget_c hfl (by omega) e1), zo_p1 hB (fun _ => zc_MO_forget_c (by omega) (by rw [e2']; decide)) hR⟩
  · have e2' : ra 0 i = ru i 1 := e2
    refine .inl (zo_p0 (r := zs_rc (va_up ru i (va_up (ru i) 0 0)) 0 4 0) (c := c) (su := su) (fa := fa) (ra := ra) (cd := cd) (ra' := va_up ra 0 (upd (ra 0) i (-1))) hB (zc_LA_forget rfl hB (zc_PT_forget_ok (by omega) (by rw [e1]; decide))) (fun Fx => ?_) ⟨hR.1, hR.2.1, hR.2.2.1, hR.2.2.2.1, hR.2.2.2.2.1, hR.2.2.2.2.2.1, hR.2.2.2.2.2.2.1, hR.2.2.2.2.2.2.2.1, zr_fgt hU i⟩)
    have q := zc_MO_forget_ok (l := l) (G := G) (F := Fx) (w := v) (sz := nI n) (la := la) (lz := nI nl) (ra := ra) (fn := nI c) (fa := fa) (cd := cd) (i := i) (by omega) (by rw [e2']; rcases e3 with e | e | e | e <;> rw [e] <;> decide)
    have e5 := zr_rc (zr_fgt hU i) 4 0 0
    rw [zz_eq] at e5
    rw [e5] at q
    exact q
def zz_d1 (l : Launch) (G : zz_G) (F : Nat → va_E) (x y : Int32) (r : Int32) (F2 : Nat → va_E) (mc ms : Nat) : Prop := zz_MW l zy_LA_flow zb_LA_flow 5 (some .int) [(0, 10, 13, 13), (0, 10, 17, 18)] 7 112 mc ms G [.ref (G.2.2 0), .int x, .int y, .ref (G.2.2 41)] F (some (.int r)) F2
def zz_d2 (l : Launch) (G : zz_G) (x y : Int32) (F : Nat → va_E) (r : Int32) (F2 : Nat → va_E) : Prop := zz_M l zy_MO_flow zb_MO_flow 3 (some .int) 0 0 G [.ref (G.2.2 26), .int x, .int y] F (some (.int r)) F2
theorem zo_flow {l : Launch} (hfl : l.flags = pinnedFlags ++ [noTraceFlag]) {G : zz_G} {F : Nat → va_E} (h : zz_In G F) (x y : Int32) : zz_Ok l G (fun F2 => zz_d1 l G F x y 0 F2 0 0) (zz_d2 l G x y) ∨ (zz_d1 l G F x y 1 F 1 6 ∧ zz_Er l G F (zz_d2 l G x y F) 1) ∨ (zz_d1 l G F x y 2 F 1 6 ∧ zz_Er l G F (zz_d2 l G x y F) 2) := by
  obtain ⟨B, o, v, n, lv, la, nl, su, pm, c, fl, fa, ru, ra, cd, hB, rfl, hR⟩ := h
  have hc := hR.2.2.1
  have hpm := hR.2.2.2.2.2.1
  by_cases h0 : x < 0
  · exact .inr (.inl ⟨zt_LA_flow rfl (zt_PT_flow_a hfl h0), zo_p1 hB (fun _ => zc_MO_flow_a h0) hR⟩)
  by_cases h1 : ¬ x < nI c
  · exact .inr (.inl ⟨zt_LA_flow rfl (zt_PT_flow_b hfl h0 h1), zo_p1 hB (fun _ => zc_MO_flow_b h1) hR⟩)
  have h1' : x < nI c := Decidable.not_not.mp h1
  by_cases hy0 : y < 0
  · refine .inr (.inr ⟨zt_LA_flow2 rfl (zt_PT_flow_c hfl h0 h1' hy0), ?_⟩)
    obtain ⟨j, hj, rfl⟩ := nI_of h0
    exact zo_p1 hB (fun _ => zc_MO_flow_c ((nI_ltI hj (by omega)).mp h1') hc hy0) hR
  by_cases hy7 : ¬ y ≤ 7
  · refine .inr (.inr ⟨zt_LA_flow2 rfl (zt_PT_flow_d hfl h0 h1' hy0 hy7), ?_⟩)
    obtain ⟨j, hj, rfl⟩ := nI_of h0
    exact zo_p1 hB (fun _ => zc_MO_flow_d ((nI_ltI hj (by omega)).mp h1') hc hy0 hy7) hR
  obtain ⟨j, hj, rfl⟩ := nI_of h0
  have hj2 : j < c := (nI_ltI hj (by omega)).mp h1'
  obtain ⟨a, ha, rfl⟩ := nI_of2 (x := y) (M := 7) (n := 7) rfl hy0 (Decidable.not_not.mp hy7)
  have hf := hR.2.2.2.2.2.2.2.1.1 j hj2
  refine .inl ?_
  match a, ha with
  | 0, _ =>
    refine zo_p0 (r := fl (pm j) 0) (c := c) (su := su) (fa := fa) (ra := ra) (cd := cd) hB (zc_LA_flow rfl hB (zc_PT_flow_0 hpm hc hj2)) (fun Fx => ?_) hR
    have q := zc_MO_flow_0 (l := l) (G := G) (F := Fx) (w := v) (sz := nI n) (la := la) (lz := nI nl) (ra := ra) (fa := fa) (cd := cd) hj2 hc
    rw [show fa 0 j = fl (pm j) 0 from hf.1 0 (by decide)] at q
    exact q
  | 1, _ =>
    refine zo_p0 (r := fl (pm j) 1) (c := c) (su := su) (fa := fa) (ra := ra) (cd := cd) hB (zc_LA_flow rfl hB (zc_PT_flow_1 hpm hc hj2)) (fun Fx => ?_) hR
    have q := zc_MO_flow_1 (l := l) (G := G) (F := Fx) (w := v) (sz := nI n) (la := la) (lz := nI nl) (ra := ra) (fa := fa) (cd := cd) hj2 hc
    rw [show fa 1 j = fl (pm j) 1 from hf.1 1 (by decide)] at q
    exact q
  | 2, _ =>
    refine zo_p0 (r := fl (pm j) 2) (c := c) (su := su) (fa := fa) (ra := ra) (cd := cd) hB (zc_LA_flow rfl hB (zc_PT_flow_2 hpm hc hj2)) (fun Fx => ?_) hR
    have q := zc_MO_flow_2 (l := l) (G := G) (F := Fx) (w := v) (sz := nI n) (la := la) (lz := nI nl) (ra := ra) (fa := fa) (cd := cd) hj2 hc
    rw [show fa 2 j = fl (pm j) 2 from hf.1 2 (by decide)] at q
    exact q
  | 3, _ =>
    refine zo_p0 (r := fl (pm j) 3) (c := c) (su := su) (fa := fa) (ra := ra) (cd := cd) hB (zc_LA_flow rfl hB (zc_PT_flow_3 hpm hc hj2)) (fun Fx => ?_) hR
    have q := zc_MO_flow_3 (l := l) (G := G) (F := Fx) (w := v) (sz := nI n) (la := la) (lz := nI nl) (ra := ra) (fa := fa) (cd := cd) hj2 hc
    rw [show fa 3 j = fl (pm j) 3 from hf.1 3 (by decide)] at q
    exact q
  | 4, _ =>
    refine zo_p0 (r := fl (pm j) 4) (c := c) (su := su) (fa := fa) (ra := ra) (cd := cd) hB (zc_LA_flow rfl hB (zc_PT_flow_4 hpm hc hj2)) (fun Fx => ?_) hR
    have q := zc_MO_flow_4 (l := l) (G := G) (F := Fx) (w := v) (sz := nI n) (la := la) (lz := nI nl) (ra := ra) (fa := fa) (cd := cd) hj2 hc
    rw [show fa 4 j = fl (pm j) 4 from hf.1 4 (by decide)] at q
    exact q
  | 5, _ =>
    refine zo_p0 (r := fl (pm j) 5) (c := c) (su := su) (fa := fa) (ra := ra) (cd := cd) hB (zc_LA_flow rfl hB (zc_PT_flow_5 hpm hc hj2)) (fun Fx => ?_) hR
    have q := zc_MO_flow_5 (l := l) (G := G) (F := Fx) (w := v) (sz := nI n) (la := la) (lz := nI nl) (ra := ra) (fa := fa) (cd := cd) hj2 hc
    rw [show fa 5 j = fl (pm j) 5 from hf.1 5 (by decide)] at q
    exact q
  | 6, _ =>
    refine zo_p0 (r := fl (pm j) 6) (c := c) (su := su) (fa := fa) (ra := ra) (cd := cd) hB (zc_LA_flow rfl hB (zc_PT_flow_6 hpm hc hj2)) (fun Fx => ?_) hR
    have q := zc_MO_flow_6 (l := l) (G := G) (F := Fx) (w := v) (sz := nI n) (la := la) (lz := nI nl) (ra := ra) (fa := fa) (cd := cd) hj2 hc
    rw [show fa 6 j = fl (pm j) 6 from hf.1 6 (by decide)] at q
    exact q
  | 7, _ =>
    refine zo_p0 (r := zs_flg (fl (pm j))) (c := c) (su := su) (fa := fa) (ra := ra) (cd := cd) hB (zc_LA_flow rfl hB (zc_PT_flow_7 hpm hc hj2)) (fun Fx => ?_) hR
    have q := zc_MO_flow_7 (l := l) (G := G) (F := Fx) (w := v) (sz := nI n) (la := la) (lz := nI nl) (ra := ra) (fa := fa) (cd := cd) hj2 hc
    rw [show fa 7 j = zs_flg (fl (pm j)) from hf.2.1] at q
    exact q
  | k + 8, hk => exact absurd hk (by omega)
