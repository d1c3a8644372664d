def zz_lx (a b : Int32) : Int64 := (a.toInt64 <<< ((32 : Int32).toInt64 &&& 63)) ||| (b.toInt64 &&& 4294967295)
section
variable {X : zz_X} {G : zz_G} {A : Nat → Prop} {nL kc ks fr lo : Nat} {cc : ByteArray} {own : String} {Q : State → Prop} {F : Nat → va_E} {pc : Nat} {L : List (Nat × Value)} {st : List Value}
theorem zi_sld (h : zz_C X G A nL cc own fr lo kc ks) {b N : Nat} {xs : Nat → Int32} (hX : va_X b N xs X.2.2.2.2.1 X.2.2.2.2.1.heap) (hbl : b < X.2.2.2.2.1.heap.size) (hbA : ¬ A b) {i : Int32} {j : Nat} (hin : zz_ix i j N) (hd : decode cc pc = .ok (.iaload, 1)) (kk : zz_W X G A nL kc ks Q F (pc + 1) L (.int (xs j) :: st)) : zz_W X G A nL kc ks Q F pc L (.int i :: .ref b :: st) :=
  fun H locs ls hP hS hl => va_sld h.exec h.code hX hbl hbA hS hin.vp hd (by rw [hin.2.1]; exact kk H locs ls hP hS hl)
theorem zi_slen (h : zz_C X G A nL cc own fr lo kc ks) {b N : Nat} {xs : Nat → Int32} (hX : va_X b N xs X.2.2.2.2.1 X.2.2.2.2.1.heap) (hbl : b < X.2.2.2.2.1.heap.size) (hbA : ¬ A b) (hd : decode cc pc = .ok (.arraylength, 1)) (kk : zz_W X G A nL kc ks Q F (pc + 1) L (.int (nI N) :: st)) : zz_W X G A nL kc ks Q F pc L (.ref b :: st) :=
  fun H locs ls hP hS hl => va_slen h.exec h.code hX hbl hbA hS hd (kk H locs ls hP hS hl)
theorem zi_widen {kc' ks' : Nat} (h1 : kc ≤ kc') (h2 : ks ≤ ks') (kk : zz_W X G A nL kc' ks' Q F pc L st) : zz_W X G A nL kc ks Q F pc L st :=
  fun H locs ls hP hS hl => W.widen h1 h2 (kk H locs ls hP hS hl)
end
theorem zz_l64 (x : Int32) : lg_cmp x.toInt64 x.toInt64 = 0 := by simp [lg_cmp]
set_option maxRecDepth 20000 in
theorem zl_law_put {X : zz_X} {G : zz_G} {A : Nat → Prop} {kc ks b N i : Nat} {xs : Nat → Int32} {Q : State → Prop} {F1 F2 F3 : Nat → va_E} {fs1 fs2 : List Value} {x : Int32} (h : zz_C X G A 7 zb_LA_law "PortTranslatorLaw" 10 348 kc ks) (hX : va_X b N xs X.2.2.2.2.1 X.2.2.2.2.1.heap) (hbl : b < X.2.2.2.2.1.heap.size) (hbA : ¬ A b) (hi : i + 6 ≤ N) (hN : N ≤ 3072)  (h0 : F1 0 = .inr (0, fs1)) (h26 : F2 26 = .inr (7, fs2)) (hM : zz_M X.2.1 zy_PT_put zb_PT_put 5 (some .boolean) 1 21 G [.ref (G.2.2 0), .int (xs (i + 1)), .long (zz_lx (xs (i + 2)) (xs (i + 3)))] F1 (some (.int x)) F2) (hM2 : zz_M X.2.1 zy_MO_put zb_MO_put 5 (some .boolean) 0 0 G [.ref (G.2.2 26), .int (xs (i + 1)), .long (zz_lx (xs (i + 2)) (xs (i + 3)))] F2 (some (.int x)) F3) (kk : zz_W X G A 7 kc ks Q F3 628 [(4, .int (nI i)), (3, .ref (G.2.2 41)), (2, .ref (G.2.2 26)), (1, .ref (G.2.2 0)), (0, .ref b)] []) : zz_W X G A 7 kc ks Q F1 100 [(4, .int (nI i)), (3, .ref (G.2.2 41)), (2, .ref (G.2.2 26)), (1, .ref (G.2.2 0)), (0, .ref b)] [] := by
  refine zi_aload_n (pc := 100) h (i := 1) zd_LA_law_100 rfl 3 rfl ?_
  refine zi_aload_n (pc := 101) h (i := 0) zd_LA_law_101 rfl 4 rfl ?_
  refine zi_iload (pc := 102) h (i := 4) zd_LA_law_102 0 rfl ?_
  refine zi_iconst (pc := 104) h zd_LA_law_104 zq_ic_1 ?_
  refine zi_iadd (pc := 105) h zd_LA_law_105 ?_
  refine zi_topv (nI (i + 1)) (nI_add i 1) ?_
  refine zi_sld (pc := 106) h hX hbl hbA (zz_ixN (j := i + 1) (by omega) (by omega)) zd_LA_law_106 ?_
  refine zi_aload_n (pc := 107) h (i := 0) zd_LA_law_107 rfl 4 rfl ?_
  refine zi_iload (pc := 108) h (i := 4) zd_LA_law_108 0 rfl ?_
  refine zi_iconst (pc := 110) h zd_LA_law_110 zq_ic_2 ?_
  refine zi_iadd (pc := 111) h zd_LA_law_111 ?_
  refine zi_topv (nI (i + 2)) (nI_add i 2) ?_
  refine zi_sld (pc := 112) h hX hbl hbA (zz_ixN (j := i + 2) (by omega) (by omega)) zd_LA_law_112 ?_
  refine zi_i2l (pc := 113) h zd_LA_law_113 ?_
  refine zi_bipush (pc := 114) h zd_LA_law_114 zq_bi_32 ?_
  refine zi_lshl (pc := 116) h zd_LA_law_116 rfl ?_
  refine zi_aload_n (pc := 117) h (i := 0) zd_LA_law_117 rfl 4 rfl ?_
  refine zi_iload (pc := 118) h (i := 4) zd_LA_law_118 0 rfl ?_
  refine zi_iconst (pc := 120) h zd_LA_law_120 zq_ic_3 ?_
  refine zi_iadd (pc := 121) h zd_LA_law_121 ?_
  refine zi_topv (nI (i + 3)) (nI_add i 3) ?_
  refine zi_sld (pc := 122) h hX hbl hbA (zz_ixN (j := i + 3) (by omega) (by omega)) zd_LA_law_122 ?_
  refine zi_i2l (pc := 123) h zd_LA_law_123 ?_
  refine zi_ldc2_w (pc := 124) h zw_792 zd_LA_law_124 ?_
  refine zi_land (pc := 127) h zd_LA_law_127 ?_
  refine zi_lor (pc := 128) h zd_LA_law_128 ?_
  refine zi_callV (pc := 129) h (st := []) hM zm_PT_put zw_190 zx_PT zq_k0 h0 ⟨by decide, by decide⟩ zd_LA_law_129 (Nat.le_of_ble_eq_true rfl) rfl ?_
  refine zi_aload_n (pc := 132) h (i := 2) zd_LA_law_132 rfl 2 rfl ?_
  refine zi_aload_n (pc := 133) h (i := 0) zd_LA_law_133 rfl 4 rfl ?_
  refine zi_iload (pc := 134) h (i := 4) zd_LA_law_134 0 rfl ?_
  refine zi_iconst (pc := 136) h zd_LA_law_136 zq_ic_1 ?_
  refine zi_iadd (pc := 137) h zd_LA_law_137 ?_
  refine zi_topv (nI (i + 1)) (nI_add i 1) ?_
  refine zi_sld (pc := 138) h hX hbl hbA (zz_ixN (j := i + 1) (by omega) (by omega)) zd_LA_law_138 ?_
  refine zi_aload_n (pc := 139) h (i := 0) zd_LA_law_139 rfl 4 rfl ?_
  refine zi_iload (pc := 140) h (i := 4) zd_LA_law_140 0 rfl ?_
  refine zi_iconst (pc := 142) h zd_LA_law_142 zq_ic_2 ?_
  refine zi_iadd (pc := 143) h zd_LA_law_143 ?_
  refine zi_topv (nI (i + 2)) (nI_add i 2) ?_
  refine zi_sld (pc := 144) h hX hbl hbA (zz_ixN (j := i + 2) (by omega) (by omega)) zd_LA_law_144 ?_
  refine zi_i2l (pc := 145) h zd_LA_law_145 ?_
  refine zi_bipush (pc := 146) h zd_LA_law_146 zq_bi_32 ?_
  refine zi_lshl (pc := 148) h zd_LA_law_148 rfl ?_
  refine zi_aload_n (pc := 149) h (i := 0) zd_LA_law_149 rfl 4 rfl ?_
  refine zi_iload (pc := 150) h (i := 4) zd_LA_law_150 0 rfl ?_
  refine zi_iconst (pc := 152) h zd_LA_law_152 zq_ic_3 ?_
  refine zi_iadd (pc := 153) h zd_LA_law_153 ?_
  refine zi_topv (nI (i + 3)) (nI_add i 3) ?_
  refine zi_sld (pc := 154) h hX hbl hbA (zz_ixN (j := i + 3) (by omega) (by omega)) zd_LA_law_154 ?_
  refine zi_i2l (pc := 155) h zd_LA_law_155 ?_
  refine zi_ldc2_w (pc := 156) h zw_792 zd_LA_law_156 ?_
  refine zi_land (pc := 159) h zd_LA_law_159 ?_
  refine zi_lor (pc := 160) h zd_LA_law_160 ?_
  refine zi_callV (pc := 161) h (st := [_]) hM2 zm_MO_put zw_644 zx_MO zq_k26 h26 ⟨by decide, by decide⟩ zd_LA_law_161 (Nat.le_of_ble_eq_true rfl) rfl ?_
  refine zi_icmp_eq_t (pc := 164) h (tgt := 628) zd_LA_law_164 rfl rfl ?_
  exact kk

set_option maxRecDepth 20000 in
theorem zl_law_scrap {X : zz_X} {G : zz_G} {A : Nat → Prop} {kc ks b N i : Nat} {xs : Nat → Int32} {Q : State → Prop} {F1 F2 F3 : Nat → va_E} {fs1 fs2 : List Value} (h : zz_C X G A 7 zb_LA_law "PortTranslatorLaw" 10 348 kc ks) (hX : va_X b N xs X.2.2.2.2.1 X.2.2.2.2.1.heap) (hbl : b < X.2.2.2.2.1.heap.size) (hbA : ¬ A b) (hi : i + 6 ≤ N) (hN : N ≤ 3072) (h0 : F1 0 = .inr (0, fs1)) (h26 : F2 26 = .inr (7, fs2)) (hM : zz_M X.2.1 zy_PT_scrap zb_PT_scrap 1 none 1 20 G [.ref (G.2.2 0)] F1 none F2) (hM2 : zz_M X.2.1 zy_MO_scrap zb_MO_scrap 1 none 0 0 G [.ref (G.2.2 26)] F2 none F3) (kk : zz_W X G A 7 kc ks Q F3 628 [(4, .int (nI i)), (3, .ref (G.2.2 41)), (2, .ref (G.2.2 26)), (1, .ref (G.2.2 0)), (0, .ref b)] []) : zz_W X G A 7 kc ks Q F1 169 [(4, .int (nI i)), (3, .ref (G.2.2 41)), (2, .ref (G.2.2 26)), (1, .ref (G.2.2 0)), (0, .ref b)] [] := by
  refine zi_aload_n (pc := 169) h (i := 1) zd_LA_law_169 rfl 3 rfl ?_
  refine zi_callVv (pc := 170) h (st := []) hM zm_PT_scrap zw_203 zx_PT zq_k0 h0 ⟨by decide, by decide⟩ zd_LA_law_170 (Nat.le_of_ble_eq_true rfl) rfl ?_
  refine zi_aload_n (pc := 173) h (i := 2) zd_LA_law_173 rfl 2 rfl ?_
  refine zi_callVv (pc := 174) h (st := []) hM2 zm_MO_scrap zw_649 zx_MO zq_k26 h26 ⟨by decide, by decide⟩ zd_LA_law_174 (Nat.le_of_ble_eq_true rfl) rfl ?_
  refine zi_goto (pc := 177) h (tgt := 628) zd_LA_law_177 rfl ?_
  exact kk

set_option maxRecDepth 20000 in
theorem zl_law_route1 {X : zz_X} {G : zz_G} {A : Nat → Prop} {kc ks b N i : Nat} {xs : Nat → Int32} {Q : State → Prop} {F1 F2 F3 : Nat → va_E} {fs1 fs2 : List Value} {x : Int32} (h : zz_C X G A 7 zb_LA_law "PortTranslatorLaw" 10 348 kc ks) (hX : va_X b N xs X.2.2.2.2.1 X.2.2.2.2.1.heap) (hbl : b < X.2.2.2.2.1.heap.size) (hbA : ¬ A b) (hi : i + 6 ≤ N) (hN : N ≤ 3072) (hb : ¬ xs (i + 1) = 0) (h0 : F1 0 = .inr (0, fs1)) (h26 : F2 26 = .inr (7, fs2)) (hM : zz_M X.2.1 zy_PT_route zb_PT_route 3 (some .int) 6 135 G [.ref (G.2.2 0), .int 1] F1 (some (.int x)) F2) (hM2 : zz_M X.2.1 zy_MO_route zb_MO_route 5 (some .int) 4 95 G [.ref (G.2.2 26), .int 1] F2 (some (.int x)) F3) (kk : zz_W X G A 7 kc ks Q F3 628 [(4, .int (nI i)), (3, .ref (G.2.2 41)), (2, .ref (G.2.2 26)), (1, .ref (G.2.2 0)), (0, .ref b)] []) : zz_W X G A 7 kc ks Q F1 180 [(4, .int (nI i)), (3, .ref (G.2.2 41)), (2, .ref (G.2.2 26)), (1, .ref (G.2.2 0)), (0, .ref b)] [] := by
  refine zi_aload_n (pc := 180) h (i := 1) zd_LA_law_180 rfl 3 rfl ?_
  refine zi_aload_n (pc := 181) h (i := 0) zd_LA_law_181 rfl 4 rfl ?_
  refine zi_iload (pc := 182) h (i := 4) zd_LA_law_182 0 rfl ?_
  refine zi_iconst (pc := 184) h zd_LA_law_184 zq_ic_1 ?_
  refine zi_iadd (pc := 185) h zd_LA_law_185 ?_
  refine zi_topv (nI (i + 1)) (nI_add i 1) ?_
  refine zi_sld (pc := 186) h hX hbl hbA (zz_ixN (j := i + 1) (by omega) (by omega)) zd_LA_law_186 ?_
  refine zi_if_eq_f (pc := 187) h (tgt := 194) zd_LA_law_187 rfl hb ?_
  refine zi_iconst (pc := 190) h zd_LA_law_190 zq_ic_1 ?_
  refine zi_goto (pc := 191) h (tgt := 195) zd_LA_law_191 rfl ?_
  refine zi_callV (pc := 195) h (st := []) hM zm_PT_route zw_211 zx_PT zq_k0 h0 ⟨by decide, by decide⟩ zd_LA_law_195 (Nat.le_of_ble_eq_true rfl) rfl ?_
  refine zi_aload_n (pc := 198) h (i := 2) zd_LA_law_198 rfl 2 rfl ?_
  refine zi_aload_n (pc := 199) h (i := 0) zd_LA_law_199 rfl 4 rfl ?_
  refine zi_iload (pc := 200) h (i := 4) zd_LA_law_200 0 rfl ?_
  refine zi_iconst (pc := 202) h zd_LA_law_202 zq_ic_1 ?_
  refine zi_iadd (pc := 203) h zd_LA_law_203 ?_
  refine zi_topv (nI (i + 1)) (nI_add i 1) ?_
  refine zi_sld (pc := 204) h hX hbl hbA (zz_ixN (j := i + 1) (by omega) (by omega)) zd_LA_law_204 ?_
  refine zi_if_eq_f (pc := 205) h (tgt := 212) zd_LA_law_205 rfl hb ?_
  refine zi_iconst (pc := 208) h zd_LA_law_208 zq_ic_1 ?_
  refine zi_goto (pc := 209) h (tgt := 213) zd_LA_law_209 rfl ?_
  refine zi_callV (pc := 213) h (st := [_]) hM2 zm_MO_route zw_653 zx_MO zq_k26 h26 ⟨by decide, by decide⟩ zd_LA_law_213 (Nat.le_of_ble_eq_true rfl) rfl ?_
  refine zi_icmp_eq_t (pc := 216) h (tgt := 628) zd_LA_law_216 rfl rfl ?_
  exact kk

set_option maxRecDepth 20000 in
theorem zl_law_route0 {X : zz_X} {G : zz_G} {A : Nat → Prop} {kc ks b N i : Nat} {xs : Nat → Int32} {Q : State → Prop} {F1 F2 F3 : Nat → va_E} {fs1 fs2 : List Value} {x : Int32} (h : zz_C X G A 7 zb_LA_law "PortTranslatorLaw" 10 348 kc ks) (hX : va_X b N xs X.2.2.2.2.1 X.2.2.2.2.1.heap) (hbl : b < X.2.2.2.2.1.heap.size) (hbA : ¬ A b) (hi : i + 6 ≤ N) (hN : N ≤ 3072) (hb : xs (i + 1) = 0) (h0 : F1 0 = .inr (0, fs1)) (h26 : F2 26 = .inr (7, fs2)) (hM : zz_M X.2.1 zy_PT_route zb_PT_route 3 (some .int) 6 135 G [.ref (G.2.2 0), .int 0] F1 (some (.int x)) F2) (hM2 : zz_M X.2.1 zy_MO_route zb_MO_route 5 (some .int) 4 95 G [.ref (G.2.2 26), .int 0] F2 (some (.int x)) F3) (kk : zz_W X G A 7 kc ks Q F3 628 [(4, .int (nI i)), (3, .ref (G.2.2 41)), (2, .ref (G.2.2 26)), (1, .ref (G.2.2 0)), (0, .ref b)] []) : zz_W X G A 7 kc ks Q F1 180 [(4, .int (nI i)), (3, .ref (G.2.2 41)), (2, .ref (G.2.2 26)), (1, .ref (G.2.2 0)), (0, .ref b)] [] := by
  refine zi_aload_n (pc := 180) h (i := 1) zd_LA_law_180 rfl 3 rfl ?_
  refine zi_aload_n (pc := 181) h (i := 0) zd_LA_law_181 rfl 4 rfl ?_
  refine zi_iload (pc := 182) h (i := 4) zd_LA_law_182 0 rfl ?_
  refine zi_iconst (pc := 184) h zd_LA_law_184 zq_ic_1 ?_
  refine zi_iadd (pc := 185) h zd_LA_law_185 ?_
  refine zi_topv (nI (i + 1)) (nI_add i 1) ?_
  refine zi_sld (pc := 186) h hX hbl hbA (zz_ixN (j := i + 1) (by omega) (by omega)) zd_LA_law_186 ?_
  refine zi_if_eq_t (pc := 187) h (tgt := 194) zd_LA_law_187 rfl hb ?_
  refine zi_iconst (pc := 194) h zd_LA_law_194 zq_ic_0 ?_
  refine zi_callV (pc := 195) h (st := []) hM zm_PT_route zw_211 zx_PT zq_k0 h0 ⟨by decide, by decide⟩ zd_LA_law_195 (Nat.le_of_ble_eq_true rfl) rfl ?_
  refine zi_aload_n (pc := 198) h (i := 2) zd_LA_law_198 rfl 2 rfl ?_
  refine zi_aload_n (pc := 199) h (i := 0) zd_LA_law_199 rfl 4 rfl ?_
  refine zi_iload (pc := 200) h (i := 4) zd_LA_law_200 0 rfl ?_
  refine zi_iconst (pc := 202) h zd_LA_law_202 zq_ic_1 ?_
  refine zi_iadd (pc := 203) h zd_LA_law_203 ?_
  refine zi_topv (nI (i + 1)) (nI_add i 1) ?_
  refine zi_sld (pc := 204) h hX hbl hbA (zz_ixN (j := i + 1) (by omega) (by omega)) zd_LA_law_204 ?_
  refine zi_if_eq_t (pc := 205) h (tgt := 212) zd_LA_law_205 rfl hb ?_
  refine zi_iconst (pc := 212) h zd_LA_law_212 zq_ic_0 ?_
  refine zi_callV (pc := 213) h (st := [_]) hM2 zm_MO_route zw_653 zx_MO zq_k26 h26 ⟨by decide, by decide⟩ zd_LA_law_213 (Nat.le_of_ble_eq_true rfl) rfl ?_
  refine zi_icmp_eq_t (pc := 216) h (tgt := 628) zd_LA_law_216 rfl rfl ?_
  exact kk

set_option maxRecDepth 20000 in
theorem zl_law_length {X : zz_X} {G : zz_G} {A : Nat → Prop} {kc ks b N i : Nat} {xs : Nat → Int32} {Q : State → Prop} {F1 F2 F3 : Nat → va_E} {fs1 fs2 : List Value} {x : Int32} (h : zz_C X G A 7 zb_LA_law "PortTranslatorLaw" 10 348 kc ks) (hX : va_X b N xs X.2.2.2.2.1 X.2.2.2.2.1.heap) (hbl : b < X.2.2.2.2.1.heap.size) (hbA : ¬ A b) (hi : i + 6 ≤ N) (hN : N ≤ 3072)  (h0 : F1 0 = .inr (0, fs1)) (h26 : F2 26 = .inr (7, fs2)) (hM : zz_M X.2.1 zy_PT_length zb_PT_length 1 (some .int) 0 0 G [.ref (G.2.2 0)] F1 (some (.int x)) F2) (hM2 : zz_M X.2.1 zy_MO_length zb_MO_length 1 (some .int) 0 0 G [.ref (G.2.2 26)] F2 (some (.int x)) F3) (kk : zz_W X G A 7 kc ks Q F3 628 [(4, .int (nI i)), (3, .ref (G.2.2 41)), (2, .ref (G.2.2 26)), (1, .ref (G.2.2 0)), (0, .ref b)] []) : zz_W X G A 7 kc ks Q F1 221 [(4, .int (nI i)), (3, .ref (G.2.2 41)), (2, .ref (G.2.2 26)), (1, .ref (G.2.2 0)), (0, .ref b)] [] := by
  refine zi_aload_n (pc := 221) h (i := 1) zd_LA_law_221 rfl 3 rfl ?_
  refine zi_callV (pc := 222) h (st := []) hM zm_PT_length zw_420 zx_PT zq_k0 h0 ⟨by decide, by decide⟩ zd_LA_law_222 (Nat.le_of_ble_eq_true rfl) rfl ?_
  refine zi_aload_n (pc := 225) h (i := 2) zd_LA_law_225 rfl 2 rfl ?_
  refine zi_callV (pc := 226) h (st := [_]) hM2 zm_MO_length zw_752 zx_MO zq_k26 h26 ⟨by decide, by decide⟩ zd_LA_law_226 (Nat.le_of_ble_eq_true rfl) rfl ?_
  refine zi_icmp_eq_t (pc := 229) h (tgt := 628) zd_LA_law_229 rfl rfl ?_
  exact kk

set_option maxRecDepth 20000 in
theorem zl_law_flows {X : zz_X} {G : zz_G} {A : Nat → Prop} {kc ks b N i : Nat} {xs : Nat → Int32} {Q : State → Prop} {F1 F2 F3 : Nat → va_E} {fs1 fs2 : List Value} {x : Int32} (h : zz_C X G A 7 zb_LA_law "PortTranslatorLaw" 10 348 kc ks) (hX : va_X b N xs X.2.2.2.2.1 X.2.2.2.2.1.heap) (hbl : b < X.2.2.2.2.1.heap.size) (hbA : ¬ A b) (hi : i + 6 ≤ N) (hN : N ≤ 3072)  (h0 : F1 0 = .inr (0, fs1)) (h26 : F2 26 = .inr (7, fs2)) (hM : zz_M X.2.1 zy_PT_flows zb_PT_flows 1 (some .int) 0 0 G [.ref (G.2.2 0)] F1 (some (.int x)) F2) (hM2 : zz_M X.2.1 zy_MO_flows zb_MO_flows 1 (some .int) 0 0 G [.ref (G.2.2 26)] F2 (some (.int x)) F3) (kk : zz_W X G A 7 kc ks Q F3 628 [(4, .int (nI i)), (3, .ref (G.2.2 41)), (2, .ref (G.2.2 26)), (1, .ref (G.2.2 0)), (0, .ref b)] []) : zz_W X G A 7 kc ks Q F1 522 [(4, .int (nI i)), (3, .ref (G.2.2 41)), (2, .ref (G.2.2 26)), (1, .ref (G.2.2 0)), (0, .ref b)] [] := by
  refine zi_aload_n (pc := 522) h (i := 1) zd_LA_law_522 rfl 3 rfl ?_
  refine zi_callV (pc := 523) h (st := []) hM zm_PT_flows zw_424 zx_PT zq_k0 h0 ⟨by decide, by decide⟩ zd_LA_law_523 (Nat.le_of_ble_eq_true rfl) rfl ?_
  refine zi_aload_n (pc := 526) h (i := 2) zd_LA_law_526 rfl 2 rfl ?_
  refine zi_callV (pc := 527) h (st := [_]) hM2 zm_MO_flows zw_780 zx_MO zq_k26 h26 ⟨by decide, by decide⟩ zd_LA_law_527 (Nat.le_of_ble_eq_true rfl) rfl ?_
  refine zi_icmp_eq_t (pc := 530) h (tgt := 628) zd_LA_law_530 rfl rfl ?_
  exact kk

set_option maxRecDepth 20000 in
theorem zl_law_bindings {X : zz_X} {G : zz_G} {A : Nat → Prop} {kc ks b N i : Nat} {xs : Nat → Int32} {Q : State → Prop} {F1 F2 F3 : Nat → va_E} {fs1 fs2 : List Value} {x : Int32} (h : zz_C X G A 7 zb_LA_law "PortTranslatorLaw" 10 348 kc ks) (hX : va_X b N xs X.2.2.2.2.1 X.2.2.2.2.1.heap) (hbl : b < X.2.2.2.2.1.heap.size) (hbA : ¬ A b) (hi : i + 6 ≤ N) (hN : N ≤ 3072)  (h0 : F1 0 = .inr (0, fs1)) (h26 : F2 26 = .inr (7, fs2)) (hM : zz_M X.2.1 zy_PT_bindings zb_PT_bindings 2 (some .int) 3 68 G [.ref (G.2.2 0), .int (xs (i + 1))] F1 (some (.int x)) F2) (hM2 : zz_M X.2.1 zy_MO_bindings zb_MO_bindings 6 (some .int) 0 0 G [.ref (G.2.2 26), .int (xs (i + 1))] F2 (some (.int x)) F3) (kk : zz_W X G A 7 kc ks Q F3 628 [(4, .int (nI i)), (3, .ref (G.2.2 41)), (2, .ref (G.2.2 26)), (1, .ref (G.2.2 0)), (0, .ref b)] []) : zz_W X G A 7 kc ks Q F1 603 [(4, .int (nI i)), (3, .ref (G.2.2 41)), (2, .ref (G.2.2 26)), (1, .ref (G.2.2 0)), (0, .ref b)] [] := by
  refine zi_aload_n (pc := 603) h (i := 1) zd_LA_law_603 rfl 3 rfl ?_
  refine zi_aload_n (pc := 604) h (i := 0) zd_LA_law_604 rfl 4 rfl ?_
  refine zi_iload (pc := 605) h (i := 4) zd_LA_law_605 0 rfl ?_
  refine zi_iconst (pc := 607) h zd_LA_law_607 zq_ic_1 ?_
  refine zi_iadd (pc := 608) h zd_LA_law_608 ?_
  refine zi_topv (nI (i + 1)) (nI_add i 1) ?_
  refine zi_sld (pc := 609) h hX hbl hbA (zz_ixN (j := i + 1) (by omega) (by omega)) zd_LA_law_609 ?_
  refine zi_callV (pc := 610) h (st := []) hM zm_PT_bindings zw_428 zx_PT zq_k0 h0 ⟨by decide, by decide⟩ zd_LA_law_610 (Nat.le_of_ble_eq_true rfl) rfl ?_
  refine zi_aload_n (pc := 613) h (i := 2) zd_LA_law_613 rfl 2 rfl ?_
  refine zi_aload_n (pc := 614) h (i := 0) zd_LA_law_614 rfl 4 rfl ?_
  refine zi_iload (pc := 615) h (i := 4) zd_LA_law_615 0 rfl ?_
  refine zi_iconst (pc := 617) h zd_LA_law_617 zq_ic_1 ?_
  refine zi_iadd (pc := 618) h zd_LA_law_618 ?_
  refine zi_topv (nI (i + 1)) (nI_add i 1) ?_
  refine zi_sld (pc := 619) h hX hbl hbA (zz_ixN (j := i + 1) (by omega) (by omega)) zd_LA_law_619 ?_
  refine zi_callV (pc := 620) h (st := [_]) hM2 zm_MO_bindings zw_788 zx_MO zq_k26 h26 ⟨by decide, by decide⟩ zd_LA_law_620 (Nat.le_of_ble_eq_true rfl) rfl ?_
  refine zi_icmp_eq_t (pc := 623) h (tgt := 628) zd_LA_law_623 rfl rfl ?_
  exact kk

theorem zq_pd_at : (parseMethodDescriptor zy_LA_at.desc).map (fun d => d.parameters.length) = some 3 := by decide +kernel
theorem zq_pd_tick : (parseMethodDescriptor zy_LA_tick.desc).map (fun d => d.parameters.length) = some 3 := by decide +kernel
theorem zq_pd_rule : (parseMethodDescriptor zy_LA_rule.desc).map (fun d => d.parameters.length) = some 7 := by decide +kernel
theorem zq_pd_forget : (parseMethodDescriptor zy_LA_forget.desc).map (fun d => d.parameters.length) = some 3 := by decide +kernel
theorem zq_pd_flow : (parseMethodDescriptor zy_LA_flow.desc).map (fun d => d.parameters.length) = some 4 := by decide +kernel
set_option maxRecDepth 20000 in
theorem zl_law_at {X : zz_X} {G : zz_G} {A : Nat → Prop} {kc ks b N i : Nat} {xs : Nat → Int32} {Q : State → Prop} {F1 F2 F3 : Nat → va_E} {fs2 fs3 : List Value} {o : Nat → Int64} {x : Int32} (h : zz_C X G A 7 zb_LA_law "PortTranslatorLaw" 10 348 kc ks) (hX : va_X b N xs X.2.2.2.2.1 X.2.2.2.2.1.heap) (hbl : b < X.2.2.2.2.1.heap.size) (hbA : ¬ A b) (hi : i + 6 ≤ N) (hN : N ≤ 3072)  (hZ : zz_KZ X A) (hc : kc + 0 ≤ X.2.2.2.1.cells ∧ ks + 0 ≤ X.2.2.2.1.slots) (h26 : F2 26 = .inr (7, fs2)) (h26b : F3 26 = .inr (7, fs3)) (h41 : F3 41 = .inl (G.2.1 2, 1, .inr (.inl o))) (ho : o 0 = x.toInt64) (hM : zz_MW X.2.1 zy_LA_at zb_LA_at 4 (some .int) [(0, 9, 12, 13)] 7 111 0 0 G [.ref (G.2.2 0), .int (xs (i + 1)), .ref (G.2.2 41)] F1 (some (.int 0)) F2) (hM2 : zz_M X.2.1 zy_MO_at zb_MO_at 2 (some .int) 0 0 G [.ref (G.2.2 26), .int (xs (i + 1))] F2 (some (.int x)) F3) (hM3 : zz_M X.2.1 zy_MO_thrown zb_MO_thrown 1 (some .int) 0 0 G [.ref (G.2.2 26)] F3 (some (.int 0)) F3) (kk : zz_W X G A 7 kc ks Q F3 628 [(4, .int (nI i)), (3, .ref (G.2.2 41)), (2, .ref (G.2.2 26)), (1, .ref (G.2.2 0)), (0, .ref b)] []) : zz_W X G A 7 kc ks Q F1 234 [(4, .int (nI i)), (3, .ref (G.2.2 41)), (2, .ref (G.2.2 26)), (1, .ref (G.2.2 0)), (0, .ref b)] [] := by
  refine zi_aload_n (pc := 234) h (i := 1) zd_LA_law_234 rfl 3 rfl ?_
  refine zi_aload_n (pc := 235) h (i := 0) zd_LA_law_235 rfl 4 rfl ?_
  refine zi_iload (pc := 236) h (i := 4) zd_LA_law_236 0 rfl ?_
  refine zi_iconst (pc := 238) h zd_LA_law_238 zq_ic_1 ?_
  refine zi_iadd (pc := 239) h zd_LA_law_239 ?_
  refine zi_topv (nI (i + 1)) (nI_add i 1) ?_
  refine zi_sld (pc := 240) h hX hbl hbA (zz_ixN (j := i + 1) (by omega) (by omega)) zd_LA_law_240 ?_
  refine zi_aload_n (pc := 241) h (i := 3) zd_LA_law_241 rfl 1 rfl ?_
  refine zi_callSW (pc := 242) h hZ (st := []) hM zw_438 zw_437 zw_0 ⟨by decide, by decide⟩ zq_pd_at zw_436 ⟨by decide, by decide⟩ (by have := hc; omega) zd_LA_law_242 (Nat.le_of_ble_eq_true rfl) rfl ?_
  refine zi_istore (pc := 245) h (i := 5) (L' := [(5, _), (4, _), (3, _), (2, _), (1, _), (0, _)]) zd_LA_law_245 (by decide) rfl ?_
  refine zi_aload_n (pc := 247) h (i := 2) zd_LA_law_247 rfl 3 rfl ?_
  refine zi_aload_n (pc := 248) h (i := 0) zd_LA_law_248 rfl 5 rfl ?_
  refine zi_iload (pc := 249) h (i := 4) zd_LA_law_249 1 rfl ?_
  refine zi_iconst (pc := 251) h zd_LA_law_251 zq_ic_1 ?_
  refine zi_iadd (pc := 252) h zd_LA_law_252 ?_
  refine zi_topv (nI (i + 1)) (nI_add i 1) ?_
  refine zi_sld (pc := 253) h hX hbl hbA (zz_ixN (j := i + 1) (by omega) (by omega)) zd_LA_law_253 ?_
  refine zi_callV (pc := 254) h (st := []) hM2 zm_MO_at zw_756 zx_MO zq_k26 h26 ⟨by decide, by decide⟩ zd_LA_law_254 (Nat.le_of_ble_eq_true rfl) rfl ?_
  refine zi_istore (pc := 257) h (i := 6) (L' := [(6, _), (5, _), (4, _), (3, _), (2, _), (1, _), (0, _)]) zd_LA_law_257 (by decide) rfl ?_
  refine zi_aload_n (pc := 259) h (i := 2) zd_LA_law_259 rfl 4 rfl ?_
  refine zi_callV (pc := 260) h (st := []) hM3 zm_MO_thrown zw_640 zx_MO zq_k26 h26b ⟨by decide, by decide⟩ zd_LA_law_260 (Nat.le_of_ble_eq_true rfl) rfl ?_
  refine zi_iload (pc := 263) h (i := 5) zd_LA_law_263 1 rfl ?_
  refine zi_icmp_eq_t (pc := 265) h (tgt := 270) zd_LA_law_265 rfl (by decide) ?_
  refine zi_iload (pc := 270) h (i := 5) zd_LA_law_270 1 rfl ?_
  refine zi_if_ne_f (pc := 272) h (tgt := 287) zd_LA_law_272 rfl (by decide) ?_
  refine zi_aload_n (pc := 275) h (i := 3) zd_LA_law_275 rfl 3 rfl ?_
  refine zi_iconst (pc := 276) h zd_LA_law_276 zq_ic_0 ?_
  refine zi_lald (pc := 277) h 41 zq_k41 h41 zq_in_0_1 zd_LA_law_277 ?_
  refine zi_iload (pc := 278) h (i := 6) zd_LA_law_278 0 rfl ?_
  refine zi_i2l (pc := 280) h zd_LA_law_280 ?_
  refine zi_lcmp (pc := 281) h zd_LA_law_281 ?_
  refine zi_if_eq_t (pc := 282) h (tgt := 287) zd_LA_law_282 rfl (by rw [ho]; exact zz_l64 x) ?_
  refine zi_goto (pc := 287) h (tgt := 628) zd_LA_law_287 rfl ?_
  refine zi_sub (L' := [(4, _), (3, _), (2, _), (1, _), (0, _)]) [2, 3, 4, 5, 6] rfl ?_
  exact kk

set_option maxRecDepth 20000 in
theorem zl_law_at_t1 {X : zz_X} {G : zz_G} {A : Nat → Prop} {kc ks b N i : Nat} {xs : Nat → Int32} {Q : State → Prop} {F1 F3 : Nat → va_E} {fs2 fs3 : List Value} {x : Int32} (h : zz_C X G A 7 zb_LA_law "PortTranslatorLaw" 10 348 kc ks) (hX : va_X b N xs X.2.2.2.2.1 X.2.2.2.2.1.heap) (hbl : b < X.2.2.2.2.1.heap.size) (hbA : ¬ A b) (hi : i + 6 ≤ N) (hN : N ≤ 3072)  (hZ : zz_KZ X A) (hc : kc + 1 ≤ X.2.2.2.1.cells ∧ ks + 6 ≤ X.2.2.2.1.slots) (h26 : F1 26 = .inr (7, fs2)) (h26b : F3 26 = .inr (7, fs3)) (hM : zz_MW X.2.1 zy_LA_at zb_LA_at 4 (some .int) [(0, 9, 12, 13)] 7 111 1 6 G [.ref (G.2.2 0), .int (xs (i + 1)), .ref (G.2.2 41)] F1 (some (.int 1)) F1) (hM2 : zz_M X.2.1 zy_MO_at zb_MO_at 2 (some .int) 0 0 G [.ref (G.2.2 26), .int (xs (i + 1))] F1 (some (.int x)) F3) (hM3 : zz_M X.2.1 zy_MO_thrown zb_MO_thrown 1 (some .int) 0 0 G [.ref (G.2.2 26)] F3 (some (.int 1)) F3) (kk : zz_W X G A 7 (kc + 1) (ks + 6) Q F3 628 [(4, .int (nI i)), (3, .ref (G.2.2 41)), (2, .ref (G.2.2 26)), (1, .ref (G.2.2 0)), (0, .ref b)] []) : zz_W X G A 7 kc ks Q F1 234 [(4, .int (nI i)), (3, .ref (G.2.2 41)), (2, .ref (G.2.2 26)), (1, .ref (G.2.2 0)), (0, .ref b)] [] := by
  refine zi_aload_n (pc := 234) h (i := 1) zd_LA_law_234 rfl 3 rfl ?_
  refine zi_aload_n (pc := 235) h (i := 0) zd_LA_law_235 rfl 4 rfl ?_
  refine zi_iload (pc := 236) h (i := 4) zd_LA_law_236 0 rfl ?_
  refine zi_iconst (pc := 238) h zd_LA_law_238 zq_ic_1 ?_
  refine zi_iadd (pc := 239) h zd_LA_law_239 ?_
  refine zi_topv (nI (i + 1)) (nI_add i 1) ?_
  refine zi_sld (pc := 240) h hX hbl hbA (zz_ixN (j := i + 1) (by omega) (by omega)) zd_LA_law_240 ?_
  refine zi_aload_n (pc := 241) h (i := 3) zd_LA_law_241 rfl 1 rfl ?_
  refine zi_callSW (pc := 242) h hZ (st := []) hM zw_438 zw_437 zw_0 ⟨by decide, by decide⟩ zq_pd_at zw_436 ⟨by decide, by decide⟩ (by have := hc; omega) zd_LA_law_242 (Nat.le_of_ble_eq_true rfl) rfl ?_
  replace h := h.grow (kc' := kc + 1) (ks' := ks + 6) hc.1 hc.2
  refine zi_istore (pc := 245) h (i := 5) (L' := [(5, _), (4, _), (3, _), (2, _), (1, _), (0, _)]) zd_LA_law_245 (by decide) rfl ?_
  refine zi_aload_n (pc := 247) h (i := 2) zd_LA_law_247 rfl 3 rfl ?_
  refine zi_aload_n (pc := 248) h (i := 0) zd_LA_law_248 rfl 5 rfl ?_
  refine zi_iload (pc := 249) h (i := 4) zd_LA_law_249 1 rfl ?_
  refine zi_iconst (pc := 251) h zd_LA_law_251 zq_ic_1 ?_
  refine zi_iadd (pc := 252) h zd_LA_law_252 ?_
  refine zi_topv (nI (i + 1)) (nI_add i 1) ?_
  refine zi_sld (pc := 253) h hX hbl hbA (zz_ixN (j := i + 1) (by omega) (by omega)) zd_LA_law_253 ?_
  refine zi_callV (pc := 254) h (st := []) hM2 zm_MO_at zw_756 zx_MO zq_k26 h26 ⟨by decide, by decide⟩ zd_LA_law_254 (Nat.le_of_ble_eq_true rfl) rfl ?_
  refine zi_istore (pc := 257) h (i := 6) (L' := [(6, _), (5, _), (4, _), (3, _), (2, _), (1, _), (0, _)]) zd_LA_law_257 (by decide) rfl ?_
  refine zi_aload_n (pc := 259) h (i := 2) zd_LA_law_259 rfl 4 rfl ?_
  refine zi_callV (pc := 260) h (st := []) hM3 zm_MO_thrown zw_640 zx_MO zq_k26 h26b ⟨by decide, by decide⟩ zd_LA_law_260 (Nat.le_of_ble_eq_true rfl) rfl ?_
  refine zi_iload (pc := 263) h (i := 5) zd_LA_law_263 1 rfl ?_
  refine zi_icmp_eq_t (pc := 265) h (tgt := 270) zd_LA_law_265 rfl (by decide) ?_
  refine zi_iload (pc := 270) h (i := 5) zd_LA_law_270 1 rfl ?_
  refine zi_if_ne_t (pc := 272) h (tgt := 287) zd_LA_law_272 rfl (by decide) ?_
  refine zi_goto (pc := 287) h (tgt := 628) zd_LA_law_287 rfl ?_
  refine zi_sub (L' := [(4, _), (3, _), (2, _), (1, _), (0, _)]) [2, 3, 4, 5, 6] rfl ?_
  exact kk

set_option maxRecDepth 20000 in
theorem zl_law_tick {X : zz_X} {G : zz_G} {A : Nat → Prop} {kc ks b N i : Nat} {xs : Nat → Int32} {Q : State → Prop} {F1 F2 F3 : Nat → va_E} {fs2 fs3 : List Value} {o : Nat → Int64} {x : Int32} (h : zz_C X G A 7 zb_LA_law "PortTranslatorLaw" 10 348 kc ks) (hX : va_X b N xs X.2.2.2.2.1 X.2.2.2.2.1.heap) (hbl : b < X.2.2.2.2.1.heap.size) (hbA : ¬ A b) (hi : i + 6 ≤ N) (hN : N ≤ 3072)  (hZ : zz_KZ X A) (hc : kc + 0 ≤ X.2.2.2.1.cells ∧ ks + 0 ≤ X.2.2.2.1.slots) (h26 : F2 26 = .inr (7, fs2)) (h26b : F3 26 = .inr (7, fs3)) (h41 : F3 41 = .inl (G.2.1 2, 1, .inr (.inl o))) (ho : o 0 = x.toInt64) (hM : zz_MW X.2.1 zy_LA_tick zb_LA_tick 4 (some .int) [(0, 9, 12, 18)] 7 111 0 0 G [.ref (G.2.2 0), .int (xs (i + 1)), .ref (G.2.2 41)] F1 (some (.int 0)) F2) (hM2 : zz_M X.2.1 zy_MO_tick zb_MO_tick 4 (some .int) 1 22 G [.ref (G.2.2 26), .int (xs (i + 1))] F2 (some (.int x)) F3) (hM3 : zz_M X.2.1 zy_MO_thrown zb_MO_thrown 1 (some .int) 0 0 G [.ref (G.2.2 26)] F3 (some (.int 0)) F3) (kk : zz_W X G A 7 kc ks Q F3 628 [(4, .int (nI i)), (3, .ref (G.2.2 41)), (2, .ref (G.2.2 26)), (1, .ref (G.2.2 0)), (0, .ref b)] []) : zz_W X G A 7 kc ks Q F1 290 [(4, .int (nI i)), (3, .ref (G.2.2 41)), (2, .ref (G.2.2 26)), (1, .ref (G.2.2 0)), (0, .ref b)] [] := by
  refine zi_aload_n (pc := 290) h (i := 1) zd_LA_law_290 rfl 3 rfl ?_
  refine zi_aload_n (pc := 291) h (i := 0) zd_LA_law_291 rfl 4 rfl ?_
  refine zi_iload (pc := 292) h (i := 4) zd_LA_law_292 0 rfl ?_
  refine zi_iconst (pc := 294) h zd_LA_law_294 zq_ic_1 ?_
  refine zi_iadd (pc := 295) h zd_LA_law_295 ?_
  refine zi_topv (nI (i + 1)) (nI_add i 1) ?_
  refine zi_sld (pc := 296) h hX hbl hbA (zz_ixN (j := i + 1) (by omega) (by omega)) zd_LA_law_296 ?_
  refine zi_aload_n (pc := 297) h (i := 3) zd_LA_law_297 rfl 1 rfl ?_
  refine zi_callSW (pc := 298) h hZ (st := []) hM zw_508 zw_507 zw_0 ⟨by decide, by decide⟩ zq_pd_tick zw_506 ⟨by decide, by decide⟩ (by have := hc; omega) zd_LA_law_298 (Nat.le_of_ble_eq_true rfl) rfl ?_
  refine zi_istore (pc := 301) h (i := 5) (L' := [(5, _), (4, _), (3, _), (2, _), (1, _), (0, _)]) zd_LA_law_301 (by decide) rfl ?_
  refine zi_aload_n (pc := 303) h (i := 2) zd_LA_law_303 rfl 3 rfl ?_
  refine zi_aload_n (pc := 304) h (i := 0) zd_LA_law_304 rfl 5 rfl ?_
  refine zi_iload (pc := 305) h (i := 4) zd_LA_law_305 1 rfl ?_
  refine zi_iconst (pc := 307) h zd_LA_law_307 zq_ic_1 ?_
  refine zi_iadd (pc := 308) h zd_LA_law_308 ?_
  refine zi_topv (nI (i + 1)) (nI_add i 1) ?_
  refine zi_sld (pc := 309) h hX hbl hbA (zz_ixN (j := i + 1) (by omega) (by omega)) zd_LA_law_309 ?_
  refine zi_callV (pc := 310) h (st := []) hM2 zm_MO_tick zw_760 zx_MO zq_k26 h26 ⟨by decide, by decide⟩ zd_LA_law_310 (Nat.le_of_ble_eq_true rfl) rfl ?_
  refine zi_istore (pc := 313) h (i := 6) (L' := [(6, _), (5, _), (4, _), (3, _), (2, _), (1, _), (0, _)]) zd_LA_law_313 (by decide) rfl ?_
  refine zi_aload_n (pc := 315) h (i := 2) zd_LA_law_315 rfl 4 rfl ?_
  refine zi_callV (pc := 316) h (st := []) hM3 zm_MO_thrown zw_640 zx_MO zq_k26 h26b ⟨by decide, by decide⟩ zd_LA_law_316 (Nat.le_of_ble_eq_true rfl) rfl ?_
  refine zi_iload (pc := 319) h (i := 5) zd_LA_law_319 1 rfl ?_
  refine zi_icmp_eq_t (pc := 321) h (tgt := 326) zd_LA_law_321 rfl (by decide) ?_
  refine zi_iload (pc := 326) h (i := 5) zd_LA_law_326 1 rfl ?_
  refine zi_if_ne_f (pc := 328) h (tgt := 343) zd_LA_law_328 rfl (by decide) ?_
  refine zi_aload_n (pc := 331) h (i := 3) zd_LA_law_331 rfl 3 rfl ?_
  refine zi_iconst (pc := 332) h zd_LA_law_332 zq_ic_0 ?_
  refine zi_lald (pc := 333) h 41 zq_k41 h41 zq_in_0_1 zd_LA_law_333 ?_
  refine zi_iload (pc := 334) h (i := 6) zd_LA_law_334 0 rfl ?_
  refine zi_i2l (pc := 336) h zd_LA_law_336 ?_
  refine zi_lcmp (pc := 337) h zd_LA_law_337 ?_
  refine zi_if_eq_t (pc := 338) h (tgt := 343) zd_LA_law_338 rfl (by rw [ho]; exact zz_l64 x) ?_
  refine zi_goto (pc := 343) h (tgt := 628) zd_LA_law_343 rfl ?_
  refine zi_sub (L' := [(4, _), (3, _), (2, _), (1, _), (0, _)]) [2, 3, 4, 5, 6] rfl ?_
  exact kk

set_option maxRecDepth 20000 in
theorem zl_law_tick_t1 {X : zz_X} {G : zz_G} {A : Nat → Prop} {kc ks b N i : Nat} {xs : Nat → Int32} {Q : State → Prop} {F1 F3 : Nat → va_E} {fs2 fs3 : List Value} {x : Int32} (h : zz_C X G A 7 zb_LA_law "PortTranslatorLaw" 10 348 kc ks) (hX : va_X b N xs X.2.2.2.2.1 X.2.2.2.2.1.heap) (hbl : b < X.2.2.2.2.1.heap.size) (hbA : ¬ A b) (hi : i + 6 ≤ N) (hN : N ≤ 3072)  (hZ : zz_KZ X A) (hc : kc + 1 ≤ X.2.2.2.1.cells ∧ ks + 6 ≤ X.2.2.2.1.slots) (h26 : F1 26 = .inr (7, fs2)) (h26b : F3 26 = .inr (7, fs3)) (hM : zz_MW X.2.1 zy_LA_tick zb_LA_tick 4 (some .int) [(0, 9, 12, 18)] 7 111 1 6 G [.ref (G.2.2 0), .int (xs (i + 1)), .ref (G.2.2 41)] F1 (some (.int 1)) F1) (hM2 : zz_M X.2.1 zy_MO_tick zb_MO_tick 4 (some .int) 1 22 G [.ref (G.2.2 26), .int (xs (i + 1))] F1 (some (.int x)) F3) (hM3 : zz_M X.2.1 zy_MO_thrown zb_MO_thrown 1 (some .int) 0 0 G [.ref (G.2.2 26)] F3 (some (.int 1)) F3) (kk : zz_W X G A 7 (kc + 1) (ks + 6) Q F3 628 [(4, .int (nI i)), (3, .ref (G.2.2 41)), (2, .ref (G.2.2 26)), (1, .ref (G.2.2 0)), (0, .ref b)] []) : zz_W X G A 7 kc ks Q F1 290 [(4, .int (nI i)), (3, .ref (G.2.2 41)), (2, .ref (G.2.2 26)), (1, .ref (G.2.2 0)), (0, .ref b)] [] := by
  refine zi_aload_n (pc := 290) h (i := 1) zd_LA_law_290 rfl 3 rfl ?_
  refine zi_aload_n (pc := 291) h (i := 0) zd_LA_law_291 rfl 4 rfl ?_
  refine zi_iload (pc := 292) h (i := 4) zd_LA_law_292 0 rfl ?_
  refine zi_iconst (pc := 294) h zd_LA_law_294 zq_ic_1 ?_
  refine zi_iadd (pc := 295) h zd_LA_law_295 ?_
  refine zi_topv (nI (i + 1)) (nI_add i 1) ?_
  refine zi_sld (pc := 296) h hX hbl hbA (zz_ixN (j := i + 1) (by omega) (by omega)) zd_LA_law_296 ?_
  refine zi_aload_n (pc := 297) h (i := 3) zd_LA_law_297 rfl 1 rfl ?_
  refine zi_callSW (pc := 298) h hZ (st := []) hM zw_508 zw_507 zw_0 ⟨by decide, by decide⟩ zq_pd_tick zw_506 ⟨by decide, by decide⟩ (by have := hc; omega) zd_LA_law_298 (Nat.le_of_ble_eq_true rfl) rfl ?_
  replace h := h.grow (kc' := kc + 1) (ks' := ks + 6) hc.1 hc.2
  refine zi_istore (pc := 301) h (i := 5) (L' := [(5, _), (4, _), (3, _), (2, _), (1, _), (0, _)]) zd_LA_law_301 (by decide) rfl ?_
  refine zi_aload_n (pc := 303) h (i := 2) zd_LA_law_303 rfl 3 rfl ?_
  refine zi_aload_n (pc := 304) h (i := 0) zd_LA_law_304 rfl 5 rfl ?_
  refine zi_iload (pc := 305) h (i := 4) zd_LA_law_305 1 rfl ?_
  refine zi_iconst (pc := 307) h zd_LA_law_307 zq_ic_1 ?_
  refine zi_iadd (pc := 308) h zd_LA_law_308 ?_
  refine zi_topv (nI (i + 1)) (nI_add i 1) ?_
  refine zi_sld (pc := 309) h hX hbl hbA (zz_ixN (j := i + 1) (by omega) (by omega)) zd_LA_law_309 ?_
  refine zi_callV (pc := 310) h (st := []) hM2 zm_MO_tick zw_760 zx_MO zq_k26 h26 ⟨by decide, by decide⟩ zd_LA_law_310 (Nat.le_of_ble_eq_true rfl) rfl ?_
  refine zi_istore (pc := 313) h (i := 6) (L' := [(6, _), (5, _), (4, _), (3, _), (2, _), (1, _), (0, _)]) zd_LA_law_313 (by decide) rfl ?_
  refine zi_aload_n (pc := 315) h (i := 2) zd_LA_law_315 rfl 4 rfl ?_
  refine zi_callV (pc := 316) h (st := []) hM3 zm_MO_thrown zw_640 zx_MO zq_k26 h26b ⟨by decide, by decide⟩ zd_LA_law_316 (Nat.le_of_ble_eq_true rfl) rfl ?_
  refine zi_iload (pc := 319) h (i := 5) zd_LA_law_319 1 rfl ?_
  refine zi_icmp_eq_t (pc := 321) h (tgt := 326) zd_LA_law_321 rfl (by decide) ?_
  refine zi_iload (pc := 326) h (i := 5) zd_LA_law_326 1 rfl ?_
  refine zi_if_ne_t (pc := 328) h (tgt := 343) zd_LA_law_328 rfl (by decide) ?_
  refine zi_goto (pc := 343) h (tgt := 628) zd_LA_law_343 rfl ?_
  refine zi_sub (L' := [(4, _), (3, _), (2, _), (1, _), (0, _)]) [2, 3, 4, 5, 6] rfl ?_
  exact kk

set_option maxRecDepth 20000 in
theorem zl_law_rule1 {X : zz_X} {G : zz_G} {A : Nat → Prop} {kc ks b N i : Nat} {xs : Nat → Int32} {Q : State → Prop} {F1 F2 F3 : Nat → va_E} {fs2 fs3 : List Value} {o : Nat → Int64} {x : Int32} (h : zz_C X G A 7 zb_LA_law "PortTranslatorLaw" 10 348 kc ks) (hX : va_X b N xs X.2.2.2.2.1 X.2.2.2.2.1.heap) (hbl : b < X.2.2.2.2.1.heap.size) (hbA : ¬ A b) (hi : i + 6 ≤ N) (hN : N ≤ 3072) (hb : ¬ xs (i + 5) = 0) (hZ : zz_KZ X A) (hc : kc + 0 ≤ X.2.2.2.1.cells ∧ ks + 0 ≤ X.2.2.2.1.slots) (h26 : F2 26 = .inr (7, fs2)) (h26b : F3 26 = .inr (7, fs3)) (h41 : F3 41 = .inl (G.2.1 2, 1, .inr (.inl o))) (ho : o 0 = x.toInt64) (hM : zz_MW X.2.1 zy_LA_rule zb_LA_rule 8 (some .int) [(0, 16, 19, 18)] 7 115 0 0 G [.ref (G.2.2 0), .int (xs (i + 1)), .int (xs (i + 2)), .int (xs (i + 3)), .int (xs (i + 4)), .int 1, .ref (G.2.2 41)] F1 (some (.int 0)) F2) (hM2 : zz_M X.2.1 zy_MO_rule zb_MO_rule 6 (some .int) 1 22 G [.ref (G.2.2 26), .int (xs (i + 1)), .int (xs (i + 2)), .int (xs (i + 3)), .int (xs (i + 4)), .int 1] F2 (some (.int x)) F3) (hM3 : zz_M X.2.1 zy_MO_thrown zb_MO_thrown 1 (some .int) 0 0 G [.ref (G.2.2 26)] F3 (some (.int 0)) F3) (kk : zz_W X G A 7 kc ks Q F3 628 [(4, .int (nI i)), (3, .ref (G.2.2 41)), (2, .ref (G.2.2 26)), (1, .ref (G.2.2 0)), (0, .ref b)] []) : zz_W X G A 7 kc ks Q F1 346 [(4, .int (nI i)), (3, .ref (G.2.2 41)), (2, .ref (G.2.2 26)), (1, .ref (G.2.2 0)), (0, .ref b)] [] := by
  refine zi_aload_n (pc := 346) h (i := 1) zd_LA_law_346 rfl 3 rfl ?_
  refine zi_aload_n (pc := 347) h (i := 0) zd_LA_law_347 rfl 4 rfl ?_
  refine zi_iload (pc := 348) h (i := 4) zd_LA_law_348 0 rfl ?_
  refine zi_iconst (pc := 350) h zd_LA_law_350 zq_ic_1 ?_
  refine zi_iadd (pc := 351) h zd_LA_law_351 ?_
  refine zi_topv (nI (i + 1)) (nI_add i 1) ?_
  refine zi_sld (pc := 352) h hX hbl hbA (zz_ixN (j := i + 1) (by omega) (by omega)) zd_LA_law_352 ?_
  refine zi_aload_n (pc := 353) h (i := 0) zd_LA_law_353 rfl 4 rfl ?_
  refine zi_iload (pc := 354) h (i := 4) zd_LA_law_354 0 rfl ?_
  refine zi_iconst (pc := 356) h zd_LA_law_356 zq_ic_2 ?_
  refine zi_iadd (pc := 357) h zd_LA_law_357 ?_
  refine zi_topv (nI (i + 2)) (nI_add i 2) ?_
  refine zi_sld (pc := 358) h hX hbl hbA (zz_ixN (j := i + 2) (by omega) (by omega)) zd_LA_law_358 ?_
  refine zi_aload_n (pc := 359) h (i := 0) zd_LA_law_359 rfl 4 rfl ?_
  refine zi_iload (pc := 360) h (i := 4) zd_LA_law_360 0 rfl ?_
  refine zi_iconst (pc := 362) h zd_LA_law_362 zq_ic_3 ?_
  refine zi_iadd (pc := 363) h zd_LA_law_363 ?_
  refine zi_topv (nI (i + 3)) (nI_add i 3) ?_
  refine zi_sld (pc := 364) h hX hbl hbA (zz_ixN (j := i + 3) (by omega) (by omega)) zd_LA_law_364 ?_
  refine zi_aload_n (pc := 365) h (i := 0) zd_LA_law_365 rfl 4 rfl ?_
  refine zi_iload (pc := 366) h (i := 4) zd_LA_law_366 0 rfl ?_
  refine zi_iconst (pc := 368) h zd_LA_law_368 zq_ic_4 ?_
  refine zi_iadd (pc := 369) h zd_LA_law_369 ?_
  refine zi_topv (nI (i + 4)) (nI_add i 4) ?_
  refine zi_sld (pc := 370) h hX hbl hbA (zz_ixN (j := i + 4) (by omega) (by omega)) zd_LA_law_370 ?_
  refine zi_aload_n (pc := 371) h (i := 0) zd_LA_law_371 rfl 4 rfl ?_
  refine zi_iload (pc := 372) h (i := 4) zd_LA_law_372 0 rfl ?_
  refine zi_iconst (pc := 374) h zd_LA_law_374 zq_ic_5 ?_
  refine zi_iadd (pc := 375) h zd_LA_law_375 ?_
  refine zi_topv (nI (i + 5)) (nI_add i 5) ?_
  refine zi_sld (pc := 376) h hX hbl hbA (zz_ixN (j := i + 5) (by omega) (by omega)) zd_LA_law_376 ?_
  refine zi_if_eq_f (pc := 377) h (tgt := 384) zd_LA_law_377 rfl hb ?_
  refine zi_iconst (pc := 380) h zd_LA_law_380 zq_ic_1 ?_
  refine zi_goto (pc := 381) h (tgt := 385) zd_LA_law_381 rfl ?_
  refine zi_aload_n (pc := 385) h (i := 3) zd_LA_law_385 rfl 1 rfl ?_
  refine zi_callSW (pc := 386) h hZ (st := []) hM zw_543 zw_542 zw_0 ⟨by decide, by decide⟩ zq_pd_rule zw_541 ⟨by decide, by decide⟩ (by have := hc; omega) zd_LA_law_386 (Nat.le_of_ble_eq_true rfl) rfl ?_
  refine zi_istore (pc := 389) h (i := 5) (L' := [(5, _), (4, _), (3, _), (2, _), (1, _), (0, _)]) zd_LA_law_389 (by decide) rfl ?_
  refine zi_aload_n (pc := 391) h (i := 2) zd_LA_law_391 rfl 3 rfl ?_
  refine zi_aload_n (pc := 392) h (i := 0) zd_LA_law_392 rfl 5 rfl ?_
  refine zi_iload (pc := 393) h (i := 4) zd_LA_law_393 1 rfl ?_
  refine zi_iconst (pc := 395) h zd_LA_law_395 zq_ic_1 ?_
  refine zi_iadd (pc := 396) h zd_LA_law_396 ?_
  refine zi_topv (nI (i + 1)) (nI_add i 1) ?_
  refine zi_sld (pc := 397) h hX hbl hbA (zz_ixN (j := i + 1) (by omega) (by omega)) zd_LA_law_397 ?_
  refine zi_aload_n (pc := 398) h (i := 0) zd_LA_law_398 rfl 5 rfl ?_
  refine zi_iload (pc := 399) h (i := 4) zd_LA_law_399 1 rfl ?_
  refine zi_iconst (pc := 401) h zd_LA_law_401 zq_ic_2 ?_
  refine zi_iadd (pc := 402) h zd_LA_law_402 ?_
  refine zi_topv (nI (i + 2)) (nI_add i 2) ?_
  refine zi_sld (pc := 403) h hX hbl hbA (zz_ixN (j := i + 2) (by omega) (by omega)) zd_LA_law_403 ?_
  refine zi_aload_n (pc := 404) h (i := 0) zd_LA_law_404 rfl 5 rfl ?_
  refine zi_iload (pc := 405) h (i := 4) zd_LA_law_405 1 rfl ?_
  refine zi_iconst (pc := 407) h zd_LA_law_407 zq_ic_3 ?_
  refine zi_iadd (pc := 408) h zd_LA_law_408 ?_
  refine zi_topv (nI (i + 3)) (nI_add i 3) ?_
  refine zi_sld (pc := 409) h hX hbl hbA (zz_ixN (j := i + 3) (by omega) (by omega)) zd_LA_law_409 ?_
  refine zi_aload_n (pc := 410) h (i := 0) zd_LA_law_410 rfl 5 rfl ?_
  refine zi_iload (pc := 411) h (i := 4) zd_LA_law_411 1 rfl ?_
  refine zi_iconst (pc := 413) h zd_LA_law_413 zq_ic_4 ?_
  refine zi_iadd (pc := 414) h zd_LA_law_414 ?_
  refine zi_topv (nI (i + 4)) (nI_add i 4) ?_
  refine zi_sld (pc := 415) h hX hbl hbA (zz_ixN (j := i + 4) (by omega) (by omega)) zd_LA_law_415 ?_
  refine zi_aload_n (pc := 416) h (i := 0) zd_LA_law_416 rfl 5 rfl ?_
  refine zi_iload (pc := 417) h (i := 4) zd_LA_law_417 1 rfl ?_
  refine zi_iconst (pc := 419) h zd_LA_law_419 zq_ic_5 ?_
  refine zi_iadd (pc := 420) h zd_LA_law_420 ?_
  refine zi_topv (nI (i + 5)) (nI_add i 5) ?_
  refine zi_sld (pc := 421) h hX hbl hbA (zz_ixN (j := i + 5) (by omega) (by omega)) zd_LA_law_421 ?_
  refine zi_if_eq_f (pc := 422) h (tgt := 429) zd_LA_law_422 rfl hb ?_
  refine zi_iconst (pc := 425) h zd_LA_law_425 zq_ic_1 ?_
  refine zi_goto (pc := 426) h (tgt := 430) zd_LA_law_426 rfl ?_
  refine zi_callV (pc := 430) h (st := []) hM2 zm_MO_rule zw_768 zx_MO zq_k26 h26 ⟨by decide, by decide⟩ zd_LA_law_430 (Nat.le_of_ble_eq_true rfl) rfl ?_
  refine zi_istore (pc := 433) h (i := 6) (L' := [(6, _), (5, _), (4, _), (3, _), (2, _), (1, _), (0, _)]) zd_LA_law_433 (by decide) rfl ?_
  refine zi_aload_n (pc := 435) h (i := 2) zd_LA_law_435 rfl 4 rfl ?_
  refine zi_callV (pc := 436) h (st := []) hM3 zm_MO_thrown zw_640 zx_MO zq_k26 h26b ⟨by decide, by decide⟩ zd_LA_law_436 (Nat.le_of_ble_eq_true rfl) rfl ?_
  refine zi_iload (pc := 439) h (i := 5) zd_LA_law_439 1 rfl ?_
  refine zi_icmp_eq_t (pc := 441) h (tgt := 446) zd_LA_law_441 rfl (by decide) ?_
  refine zi_iload (pc := 446) h (i := 5) zd_LA_law_446 1 rfl ?_
  refine zi_if_ne_f (pc := 448) h (tgt := 463) zd_LA_law_448 rfl (by decide) ?_
  refine zi_aload_n (pc := 451) h (i := 3) zd_LA_law_451 rfl 3 rfl ?_
  refine zi_iconst (pc := 452) h zd_LA_law_452 zq_ic_0 ?_
  refine zi_lald (pc := 453) h 41 zq_k41 h41 zq_in_0_1 zd_LA_law_453 ?_
  refine zi_iload (pc := 454) h (i := 6) zd_LA_law_454 0 rfl ?_
  refine zi_i2l (pc := 456) h zd_LA_law_456 ?_
  refine zi_lcmp (pc := 457) h zd_LA_law_457 ?_
  refine zi_if_eq_t (pc := 458) h (tgt := 463) zd_LA_law_458 rfl (by rw [ho]; exact zz_l64 x) ?_
  refine zi_goto (pc := 463) h (tgt := 628) zd_LA_law_463 rfl ?_
  refine zi_sub (L' := [(4, _), (3, _), (2, _), (1, _), (0, _)]) [2, 3, 4, 5, 6] rfl ?_
  exact kk

set_option maxRecDepth 20000 in
theorem zl_law_rule1_t1 {X : zz_X} {G : zz_G} {A : Nat → Prop} {kc ks b N i : Nat} {xs : Nat → Int32} {Q : State → Prop} {F1 F3 : Nat → va_E} {fs2 fs3 : List Value} {x : Int32} (h : zz_C X G A 7 zb_LA_law "PortTranslatorLaw" 10 348 kc ks) (hX : va_X b N xs X.2.2.2.2.1 X.2.2.2.2.1.heap) (hbl : b < X.2.2.2.2.1.heap.size) (hbA : ¬ A b) (hi : i + 6 ≤ N) (hN : N ≤ 3072) (hb : ¬ xs (i + 5) = 0) (hZ : zz_KZ X A) (hc : kc + 1 ≤ X.2.2.2.1.cells ∧ ks + 6 ≤ X.2.2.2.1.slots) (h26 : F1 26 = .inr (7, fs2)) (h26b : F3 26 = .inr (7, fs3)) (hM : zz_MW X.2.1 zy_LA_rule zb_LA_rule 8 (some .int) [(0, 16, 19, 18)] 7 115 1 6 G [.ref (G.2.2 0), .int (xs (i + 1)), .int (xs (i + 2)), .int (xs (i + 3)), .int (xs (i + 4)), .int 1, .ref (G.2.2 41)] F1 (some (.int 1)) F1) (hM2 : zz_M X.2.1 zy_MO_rule zb_MO_rule 6 (some .int) 1 22 G [.ref (G.2.2 26), .int (xs (i + 1)), .int (xs (i + 2)), .int (xs (i + 3)), .int (xs (i + 4)), .int 1] F1 (some (.int x)) F3) (hM3 : zz_M X.2.1 zy_MO_thrown zb_MO_thrown 1 (some .int) 0 0 G [.ref (G.2.2 26)] F3 (some (.int 1)) F3) (kk : zz_W X G A 7 (kc + 1) (ks + 6) Q F3 628 [(4, .int (nI i)), (3, .ref (G.2.2 41)), (2, .ref (G.2.2 26)), (1, .ref (G.2.2 0)), (0, .ref b)] []) : zz_W X G A 7 kc ks Q F1 346 [(4, .int (nI i)), (3, .ref (G.2.2 41)), (2, .ref (G.2.2 26)), (1, .ref (G.2.2 0)), (0, .ref b)] [] := by
  refine zi_aload_n (pc := 346) h (i := 1) zd_LA_law_346 rfl 3 rfl ?_
  refine zi_aload_n (pc := 347) h (i := 0) zd_LA_law_347 rfl 4 rfl ?_
  refine zi_iload (pc := 348) h (i := 4) zd_LA_law_348 0 rfl ?_
  refine zi_iconst (pc := 350) h zd_LA_law_350 zq_ic_1 ?_
  refine zi_iadd (pc := 351) h zd_LA_law_351 ?_
  refine zi_topv (nI (i + 1)) (nI_add i 1) ?_
  refine zi_sld (pc := 352) h hX hbl hbA (zz_ixN (j := i + 1) (by omega) (by omega)) zd_LA_law_352 ?_
  refine zi_aload_n (pc := 353) h (i := 0) zd_LA_law_353 rfl 4 rfl ?_
  refine zi_iload (pc := 354) h (i := 4) zd_LA_law_354 0 rfl ?_
  refine zi_iconst (pc := 356) h zd_LA_law_356 zq_ic_2 ?_
  refine zi_iadd (pc := 357) h zd_LA_law_357 ?_
  refine zi_topv (nI (i + 2)) (nI_add i 2) ?_
  refine zi_sld (pc := 358) h hX hbl hbA (zz_ixN (j := i + 2) (by omega) (by omega)) zd_LA_law_358 ?_
  refine zi_aload_n (pc := 359) h (i := 0) zd_LA_law_359 rfl 4 rfl ?_
  refine zi_iload (pc := 360) h (i := 4) zd_LA_law_360 0 rfl ?_
  refine zi_iconst (pc := 362) h zd_LA_law_362 zq_ic_3 ?_
  refine zi_iadd (pc := 363) h zd_LA_law_363 ?_
  refine zi_topv (nI (i + 3)) (nI_add i 3) ?_
  refine zi_sld (pc := 364) h hX hbl hbA (zz_ixN (j := i + 3) (by omega) (by omega)) zd_LA_law_364 ?_
  refine zi_aload_n (pc := 365) h (i := 0) zd_LA_law_365 rfl 4 rfl ?_
  refine zi_iload (pc := 366) h (i := 4) zd_LA_law_366 0 rfl ?_
  refine zi_iconst (pc := 368) h zd_LA_law_368 zq_ic_4 ?_
  refine zi_iadd (pc := 369) h zd_LA_law_369 ?_
  refine zi_topv (nI (i + 4)) (nI_add i 4) ?_
  refine zi_sld (pc := 370) h hX hbl hbA (zz_ixN (j := i + 4) (by omega) (by omega)) zd_LA_law_370 ?_
  refine zi_aload_n (pc := 371) h (i := 0) zd_LA_law_371 rfl 4 rfl ?_
  refine zi_iload (pc := 372) h (i := 4) zd_LA_law_372 0 rfl ?_
  refine zi_iconst (pc := 374) h zd_LA_law_374 zq_ic_5 ?_
  refine zi_iadd (pc := 375) h zd_LA_law_375 ?_
  refine zi_topv (nI (i + 5)) (nI_add i 5) ?_
  refine zi_sld (pc := 376) h hX hbl hbA (zz_ixN (j := i + 5) (by omega) (by omega)) zd_LA_law_376 ?_
  refine zi_if_eq_f (pc := 377) h (tgt := 384) zd_LA_law_377 rfl hb ?_
  refine zi_iconst (pc := 380) h zd_LA_law_380 zq_ic_1 ?_
  refine zi_goto (pc := 381) h (tgt := 385) zd_LA_law_381 rfl ?_
  refine zi_aload_n (pc := 385) h (i := 3) zd_LA_law_385 rfl 1 rfl ?_
  refine zi_callSW (pc := 386) h hZ (st := []) hM zw_543 zw_542 zw_0 ⟨by decide, by decide⟩ zq_pd_rule zw_541 ⟨by decide, by decide⟩ (by have := hc; omega) zd_LA_law_386 (Nat.le_of_ble_eq_true rfl) rfl ?_
  replace h := h.grow (kc' := kc + 1) (ks' := ks + 6) hc.1 hc.2
  refine zi_istore (pc := 389) h (i := 5) (L' := [(5, _), (4, _), (3, _), (2, _), (1, _), (0, _)]) zd_LA_law_389 (by decide) rfl ?_
  refine zi_aload_n (pc := 391) h (i := 2) zd_LA_law_391 rfl 3 rfl ?_
  refine zi_aload_n (pc := 392) h (i := 0) zd_LA_law_392 rfl 5 rfl ?_
  refine zi_iload (pc := 393) h (i := 4) zd_LA_law_393 1 rfl ?_
  refine zi_iconst (pc := 395) h zd_LA_law_395 zq_ic_1 ?_
  refine zi_iadd (pc := 396) h zd_LA_law_396 ?_
  refine zi_topv (nI (i + 1)) (nI_add i 1) ?_
  refine zi_sld (pc := 397) h hX hbl hbA (zz_ixN (j := i + 1) (by omega) (by omega)) zd_LA_law_397 ?_
  refine zi_aload_n (pc := 398) h (i := 0) zd_LA_law_398 rfl 5 rfl ?_
  refine zi_iload (pc := 399) h (i := 4) zd_LA_law_399 1 rfl ?_
  refine zi_iconst (pc := 401) h zd_LA_law_401 zq_ic_2 ?_
  refine zi_iadd (pc := 402) h zd_LA_law_402 ?_
  refine zi_topv (nI (i + 2)) (nI_add i 2) ?_
  refine zi_sld (pc := 403) h hX hbl hbA (zz_ixN (j := i + 2) (by omega) (by omega)) zd_LA_law_403 ?_
  refine zi_aload_n (pc := 404) h (i := 0) zd_LA_law_404 rfl 5 rfl ?_
  refine zi_iload (pc := 405) h (i := 4) zd_LA_law_405 1 rfl ?_
  refine zi_iconst (pc := 407) h zd_LA_law_407 zq_ic_3 ?_
  refine zi_iadd (pc := 408) h zd_LA_law_408 ?_
  refine zi_topv (nI (i + 3)) (nI_add i 3) ?_
  refine zi_sld (pc := 409) h hX hbl hbA (zz_ixN (j := i + 3) (by omega) (by omega)) zd_LA_law_409 ?_
  refine zi_aload_n (pc := 410) h (i := 0) zd_LA_law_410 rfl 5 rfl ?_
  refine zi_iload (pc := 411) h (i := 4) zd_LA_law_411 1 rfl ?_
  refine zi_iconst (pc := 413) h zd_LA_law_413 zq_ic_4 ?_
  refine zi_iadd (pc := 414) h zd_LA_law_414 ?_
  refine zi_topv (nI (i + 4)) (nI_add i 4) ?_
  refine zi_sld (pc := 415) h hX hbl hbA (zz_ixN (j := i + 4) (by omega) (by omega)) zd_LA_law_415 ?_
  refine zi_aload_n (pc := 416) h (i := 0) zd_LA_law_416 rfl 5 rfl ?_
  refine zi_iload (pc := 417) h (i := 4) zd_LA_law_417 1 rfl ?_
  refine zi_iconst (pc := 419) h zd_LA_law_419 zq_ic_5 ?_
  refine zi_iadd (pc := 420) h zd_LA_law_420 ?_
  refine zi_topv (nI (i + 5)) (nI_add i 5) ?_
  refine zi_sld (pc := 421) h hX hbl hbA (zz_ixN (j := i + 5) (by omega) (by omega)) zd_LA_law_421 ?_
  refine zi_if_eq_f (pc := 422) h (tgt := 429) zd_LA_law_422 rfl hb ?_
  refine zi_iconst (pc := 425) h zd_LA_law_425 zq_ic_1 ?_
  refine zi_goto (pc := 426) h (tgt := 430) zd_LA_law_426 rfl ?_
  refine zi_callV (pc := 430) h (st := []) hM2 zm_MO_rule zw_768 zx_MO zq_k26 h26 ⟨by decide, by decide⟩ zd_LA_law_430 (Nat.le_of_ble_eq_true rfl) rfl ?_
  refine zi_istore (pc := 433) h (i := 6) (L' := [(6, _), (5, _), (4, _), (3, _), (2, _), (1, _), (0, _)]) zd_LA_law_433 (by decide) rfl ?_
  refine zi_aload_n (pc := 435) h (i := 2) zd_LA_law_435 rfl 4 rfl ?_
  refine zi_callV (pc := 436) h (st := []) hM3 zm_MO_thrown zw_640 zx_MO zq_k26 h26b ⟨by decide, by decide⟩ zd_LA_law_436 (Nat.le_of_ble_eq_true rfl) rfl ?_
  refine zi_iload (pc := 439) h (i := 5) zd_LA_law_439 1 rfl ?_
  refine zi_icmp_eq_t (pc := 441) h (tgt := 446) zd_LA_law_441 rfl (by decide) ?_
  refine zi_iload (pc := 446) h (i := 5) zd_LA_law_446 1 rfl ?_
  refine zi_if_ne_t (pc := 448) h (tgt := 463) zd_LA_law_448 rfl (by decide) ?_
  refine zi_goto (pc := 463) h (tgt := 628) zd_LA_law_463 rfl ?_
  refine zi_sub (L' := [(4, _), (3, _), (2, _), (1, _), (0, _)]) [2, 3, 4, 5, 6] rfl ?_
  exact kk

set_option maxRecDepth 20000 in
theorem zl_law_rule0 {X : zz_X} {G : zz_G} {A : Nat → Prop} {kc ks b N i : Nat} {xs : Nat → Int32} {Q : State → Prop} {F1 F2 F3 : Nat → va_E} {fs2 fs3 : List Value} {o : Nat → Int64} {x : Int32} (h : zz_C X G A 7 zb_LA_law "PortTranslatorLaw" 10 348 kc ks) (hX : va_X b N xs X.2.2.2.2.1 X.2.2.2.2.1.heap) (hbl : b < X.2.2.2.2.1.heap.size) (hbA : ¬ A b) (hi : i + 6 ≤ N) (hN : N ≤ 3072) (hb : xs (i + 5) = 0) (hZ : zz_KZ X A) (hc : kc + 0 ≤ X.2.2.2.1.cells ∧ ks + 0 ≤ X.2.2.2.1.slots) (h26 : F2 26 = .inr (7, fs2)) (h26b : F3 26 = .inr (7, fs3)) (h41 : F3 41 = .inl (G.2.1 2, 1, .inr (.inl o))) (ho : o 0 = x.toInt64) (hM : zz_MW X.2.1 zy_LA_rule zb_LA_rule 8 (some .int) [(0, 16, 19, 18)] 7 115 0 0 G [.ref (G.2.2 0), .int (xs (i + 1)), .int (xs (i + 2)), .int (xs (i + 3)), .int (xs (i + 4)), .int 0, .ref (G.2.2 41)] F1 (some (.int 0)) F2) (hM2 : zz_M X.2.1 zy_MO_rule zb_MO_rule 6 (some .int) 1 22 G [.ref (G.2.2 26), .int (xs (i + 1)), .int (xs (i + 2)), .int (xs (i + 3)), .int (xs (i + 4)), .int 0] F2 (some (.int x)) F3) (hM3 : zz_M X.2.1 zy_MO_thrown zb_MO_thrown 1 (some .int) 0 0 G [.ref (G.2.2 26)] F3 (some (.int 0)) F3) (kk : zz_W X G A 7 kc ks Q F3 628 [(4, .int (nI i)), (3, .ref (G.2.2 41)), (2, .ref (G.2.2 26)), (1, .ref (G.2.2 0)), (0, .ref b)] []) : zz_W X G A 7 kc ks Q F1 346 [(4, .int (nI i)), (3, .ref (G.2.2 41)), (2, .ref (G.2.2 26)), (1, .ref (G.2.2 0)), (0, .ref b)] [] := by
  refine zi_aload_n (pc := 346) h (i := 1) zd_LA_law_346 rfl 3 rfl ?_
  refine zi_aload_n (pc := 347) h (i := 0) zd_LA_law_347 rfl 4 rfl ?_
  refine zi_iload (pc := 348) h (i := 4) zd_LA_law_348 0 rfl ?_
  refine zi_iconst (pc := 350) h zd_LA_law_350 zq_ic_1 ?_
  refine zi_iadd (pc := 351) h zd_LA_law_351 ?_
  refine zi_topv (nI (i + 1)) (nI_add i 1) ?_
  refine zi_sld (pc := 352) h hX hbl hbA (zz_ixN (j := i + 1) (by omega) (by omega)) zd_LA_law_352 ?_
  refine zi_aload_n (pc := 353) h (i := 0) zd_LA_law_353 rfl 4 rfl ?_
  refine zi_iload (pc := 354) h (i := 4) zd_LA_law_354 0 rfl ?_
  refine zi_iconst (pc := 356) h zd_LA_law_356 zq_ic_2 ?_
  refine zi_iadd (pc := 357) h zd_LA_law_357 ?_
  refine zi_topv (nI (i + 2)) (nI_add i 2) ?_
  refine zi_sld (pc := 358) h hX hbl hbA (zz_ixN (j := i + 2) (by omega) (by omega)) zd_LA_law_358 ?_
  refine zi_aload_n (pc := 359) h (i := 0) zd_LA_law_359 rfl 4 rfl ?_
  refine zi_iload (pc := 360) h (i := 4) zd_LA_law_360 0 rfl ?_
  refine zi_iconst (pc := 362) h zd_LA_law_362 zq_ic_3 ?_
  refine zi_iadd (pc := 363) h zd_LA_law_363 ?_
  refine zi_topv (nI (i + 3)) (nI_add i 3) ?_
  refine zi_sld (pc := 364) h hX hbl hbA (zz_ixN (j := i + 3) (by omega) (by omega)) zd_LA_law_364 ?_
  refine zi_aload_n (pc := 365) h (i := 0) zd_LA_law_365 rfl 4 rfl ?_
  refine zi_iload (pc := 366) h (i := 4) zd_LA_law_366 0 rfl ?_
  refine zi_iconst (pc := 368) h zd_LA_law_368 zq_ic_4 ?_
  refine zi_iadd (pc := 369) h zd_LA_law_369 ?_
  refine zi_topv (nI (i + 4)) (nI_add i 4) ?_
  refine zi_sld (pc := 370) h hX hbl hbA (zz_ixN (j := i + 4) (by omega) (by omega)) zd_LA_law_370 ?_
  refine zi_aload_n (pc := 371) h (i := 0) zd_LA_law_371 rfl 4 rfl ?_
  refine zi_iload (pc := 372) h (i := 4) zd_LA_law_372 0 rfl ?_
  refine zi_iconst (pc := 374) h zd_LA_law_374 zq_ic_5 ?_
  refine zi_iadd (pc := 375) h zd_LA_law_375 ?_
  refine zi_topv (nI (i + 5)) (nI_add i 5) ?_
  refine zi_sld (pc := 376) h hX hbl hbA (zz_ixN (j := i + 5) (by omega) (by omega)) zd_LA_law_376 ?_
  refine zi_if_eq_t (pc := 377) h (tgt := 384) zd_LA_law_377 rfl hb ?_
  refine zi_iconst (pc := 384) h zd_LA_law_384 zq_ic_0 ?_
  refine zi_aload_n (pc := 385) h (i := 3) zd_LA_law_385 rfl 1 rfl ?_
  refine zi_callSW (pc := 386) h hZ (st := []) hM zw_543 zw_542 zw_0 ⟨by decide, by decide⟩ zq_pd_rule zw_541 ⟨by decide, by decide⟩ (by have := hc; omega) zd_LA_law_386 (Nat.le_of_ble_eq_true rfl) rfl ?_
  refine zi_istore (pc := 389) h (i := 5) (L' := [(5, _), (4, _), (3, _), (2, _), (1, _), (0, _)]) zd_LA_law_389 (by decide) rfl ?_
  refine zi_aload_n (pc := 391) h (i := 2) zd_LA_law_391 rfl 3 rfl ?_
  refine zi_aload_n (pc := 392) h (i := 0) zd_LA_law_392 rfl 5 rfl ?_
  refine zi_iload (pc := 393) h (i := 4) zd_LA_law_393 1 rfl ?_
  refine zi_iconst (pc := 395) h zd_LA_law_395 zq_ic_1 ?_
  refine zi_iadd (pc := 396) h zd_LA_law_396 ?_
  refine zi_topv (nI (i + 1)) (nI_add i 1) ?_
  refine zi_sld (pc := 397) h hX hbl hbA (zz_ixN (j := i + 1) (by omega) (by omega)) zd_LA_law_397 ?_
  refine zi_aload_n (pc := 398) h (i := 0) zd_LA_law_398 rfl 5 rfl ?_
  refine zi_iload (pc := 399) h (i := 4) zd_LA_law_399 1 rfl ?_
  refine zi_iconst (pc := 401) h zd_LA_law_401 zq_ic_2 ?_
  refine zi_iadd (pc := 402) h zd_LA_law_402 ?_
  refine zi_topv (nI (i + 2)) (nI_add i 2) ?_
  refine zi_sld (pc := 403) h hX hbl hbA (zz_ixN (j := i + 2) (by omega) (by omega)) zd_LA_law_403 ?_
  refine zi_aload_n (pc := 404) h (i := 0) zd_LA_law_404 rfl 5 rfl ?_
  refine zi_iload (pc := 405) h (i := 4) zd_LA_law_405 1 rfl ?_
  refine zi_iconst (pc := 407) h zd_LA_law_407 zq_ic_3 ?_
  refine zi_iadd (pc := 408) h zd_LA_law_408 ?_
  refine zi_topv (nI (i + 3)) (nI_add i 3) ?_
  refine zi_sld (pc := 409) h hX hbl hbA (zz_ixN (j := i + 3) (by omega) (by omega)) zd_LA_law_409 ?_
  refine zi_aload_n (pc := 410) h (i := 0) zd_LA_law_410 rfl 5 rfl ?_
  refine zi_iload (pc := 411) h (i := 4) zd_LA_law_411 1 rfl ?_
  refine zi_iconst (pc := 413) h zd_LA_law_413 zq_ic_4 ?_
  refine zi_iadd (pc := 414) h zd_LA_law_414 ?_
  refine zi_topv (nI (i + 4)) (nI_add i 4) ?_
  refine zi_sld (pc := 415) h hX hbl hbA (zz_ixN (j := i + 4) (by omega) (by omega)) zd_LA_law_415 ?_
  refine zi_aload_n (pc := 416) h (i := 0) zd_LA_law_416 rfl 5 rfl ?_
  refine zi_iload (pc := 417) h (i := 4) zd_LA_law_417 1 rfl ?_
  refine zi_iconst (pc := 419) h zd_LA_law_419 zq_ic_5 ?_
  refine zi_iadd (pc := 420) h zd_LA_law_420 ?_
  refine zi_topv (nI (i + 5)) (nI_add i 5) ?_
  refine zi_sld (pc := 421) h hX hbl hbA (zz_ixN (j := i + 5) (by omega) (by omega)) zd_LA_law_421 ?_
  refine zi_if_eq_t (pc := 422) h (tgt := 429) zd_LA_law_422 rfl hb ?_
  refine zi_iconst (pc := 429) h zd_LA_law_429 zq_ic_0 ?_
  refine zi_callV (pc := 430) h (st := []) hM2 zm_MO_rule zw_768 zx_MO zq_k26 h26 ⟨by decide, by decide⟩ zd_LA_law_430 (Nat.le_of_ble_eq_true rfl) rfl ?_
  refine zi_istore (pc := 433) h (i := 6) (L' := [(6, _), (5, _), (4, _), (3, _), (2, _), (1, _), (0, _)]) zd_LA_law_433 (by decide) rfl ?_
  refine zi_aload_n (pc := 435) h (i := 2) zd_LA_law_435 rfl 4 rfl ?_
  refine zi_callV (pc := 436) h (st := []) hM3 zm_MO_thrown zw_640 zx_MO zq_k26 h26b ⟨by decide, by decide⟩ zd_LA_law_436 (Nat.le_of_ble_eq_true rfl) rfl ?_
  refine zi_iload (pc := 439) h (i := 5) zd_LA_law_439 1 rfl ?_
  refine zi_icmp_eq_t (pc := 441) h (tgt := 446) zd_LA_law_441 rfl (by decide) ?_
  refine zi_iload (pc := 446) h (i := 5) zd_LA_law_446 1 rfl ?_
  refine zi_if_ne_f (pc := 448) h (tgt := 463) zd_LA_law_448 rfl (by decide) ?_
  refine zi_aload_n (pc := 451) h (i := 3) zd_LA_law_451 rfl 3 rfl ?_
  refine zi_iconst (pc := 452) h zd_LA_law_452 zq_ic_0 ?_
  refine zi_lald (pc := 453) h 41 zq_k41 h41 zq_in_0_1 zd_LA_law_453 ?_
  refine zi_iload (pc := 454) h (i := 6) zd_LA_law_454 0 rfl ?_
  refine zi_i2l (pc := 456) h zd_LA_law_456 ?_
  refine zi_lcmp (pc := 457) h zd_LA_law_457 ?_
  refine zi_if_eq_t (pc := 458) h (tgt := 463) zd_LA_law_458 rfl (by rw [ho]; exact zz_l64 x) ?_
  refine zi_goto (pc := 463) h (tgt := 628) zd_LA_law_463 rfl ?_
  refine zi_sub (L' := [(4, _), (3, _), (2, _), (1, _), (0, _)]) [2, 3, 4, 5, 6] rfl ?_
  exact kk

set_option maxRecDepth 20000 in
theorem zl_law_rule0_t1 {X : zz_X} {G : zz_G} {A : Nat → Prop} {kc ks b N i : Nat} {xs : Nat → Int32} {Q : State → Prop} {F1 F3 : Nat → va_E} {fs2 fs3 : List Value} {x : Int32} (h : zz_C X G A 7 zb_LA_law "PortTranslatorLaw" 10 348 kc ks) (hX : va_X b N xs X.2.2.2.2.1 X.2.2.2.2.1.heap) (hbl : b < X.2.2.2.2.1.heap.size) (hbA : ¬ A b) (hi : i + 6 ≤ N) (hN : N ≤ 3072) (hb : xs (i + 5) = 0) (hZ : zz_KZ X A) (hc : kc + 1 ≤ X.2.2.2.1.cells ∧ ks + 6 ≤ X.2.2.2.1.slots) (h26 : F1 26 = .inr (7, fs2)) (h26b : F3 26 = .inr (7, fs3)) (hM : zz_MW X.2.1 zy_LA_rule zb_LA_rule 8 (some .int) [(0, 16, 19, 18)] 7 115 1 6 G [.ref (G.2.2 0), .int (xs (i + 1)), .int (xs (i + 2)), .int (xs (i + 3)), .int (xs (i + 4)), .int 0, .ref (G.2.2 41)] F1 (some (.int 1)) F1) (hM2 : zz_M X.2.1 zy_MO_rule zb_MO_rule 6 (some .int) 1 22 G [.ref (G.2.2 26), .int (xs (i + 1)), .int (xs (i + 2)), .int (xs (i + 3)), .int (xs (i + 4)), .int 0] F1 (some (.int x)) F3) (hM3 : zz_M X.2.1 zy_MO_thrown zb_MO_thrown 1 (some .int) 0 0 G [.ref (G.2.2 26)] F3 (some (.int 1)) F3) (kk : zz_W X G A 7 (kc + 1) (ks + 6) Q F3 628 [(4, .int (nI i)), (3, .ref (G.2.2 41)), (2, .ref (G.2.2 26)), (1, .ref (G.2.2 0)), (0, .ref b)] []) : zz_W X G A 7 kc ks Q F1 346 [(4, .int (nI i)), (3, .ref (G.2.2 41)), (2, .ref (G.2.2 26)), (1, .ref (G.2.2 0)), (0, .ref b)] [] := by
  refine zi_aload_n (pc := 346) h (i := 1) zd_LA_law_346 rfl 3 rfl ?_
  refine zi_aload_n (pc := 347) h (i := 0) zd_LA_law_347 rfl 4 rfl ?_
  refine zi_iload (pc := 348) h (i := 4) zd_LA_law_348 0 rfl ?_
  refine zi_iconst (pc := 350) h zd_LA_law_350 zq_ic_1 ?_
  refine zi_iadd (pc := 351) h zd_LA_law_351 ?_
  refine zi_topv (nI (i + 1)) (nI_add i 1) ?_
  refine zi_sld (pc := 352) h hX hbl hbA (zz_ixN (j := i + 1) (by omega) (by omega)) zd_LA_law_352 ?_
  refine zi_aload_n (pc := 353) h (i := 0) zd_LA_law_353 rfl 4 rfl ?_
  refine zi_iload (pc := 354) h (i := 4) zd_LA_law_354 0 rfl ?_
  refine zi_iconst (pc := 356) h zd_LA_law_356 zq_ic_2 ?_
  refine zi_iadd (pc := 357) h zd_LA_law_357 ?_
  refine zi_topv (nI (i + 2)) (nI_add i 2) ?_
  refine zi_sld (pc := 358) h hX hbl hbA (zz_ixN (j := i + 2) (by omega) (by omega)) zd_LA_law_358 ?_
  refine zi_aload_n (pc := 359) h (i := 0) zd_LA_law_359 rfl 4 rfl ?_
  refine zi_iload (pc := 360) h (i := 4) zd_LA_law_360 0 rfl ?_
  refine zi_iconst (pc := 362) h zd_LA_law_362 zq_ic_3 ?_
  refine zi_iadd (pc := 363) h zd_LA_law_363 ?_
  refine zi_topv (nI (i + 3)) (nI_add i 3) ?_
  refine zi_sld (pc := 364) h hX hbl hbA (zz_ixN (j := i + 3) (by omega) (by omega)) zd_LA_law_364 ?_
  refine zi_aload_n (pc := 365) h (i := 0) zd_LA_law_365 rfl 4 rfl ?_
  refine zi_iload (pc := 366) h (i := 4) zd_LA_law_366 0 rfl ?_
  refine zi_iconst (pc := 368) h zd_LA_law_368 zq_ic_4 ?_
  refine zi_iadd (pc := 369) h zd_LA_law_369 ?_
  refine zi_topv (nI (i + 4)) (nI_add i 4) ?_
  refine zi_sld (pc := 370) h hX hbl hbA (zz_ixN (j := i + 4) (by omega) (by omega)) zd_LA_law_370 ?_
  refine zi_aload_n (pc := 371) h (i := 0) zd_LA_law_371 rfl 4 rfl ?_
  refine zi_iload (pc := 372) h (i := 4) zd_LA_law_372 0 rfl ?_
  refine zi_iconst (pc := 374) h zd_LA_law_374 zq_ic_5 ?_
  refine zi_iadd (pc := 375) h zd_LA_law_375 ?_
  refine zi_topv (nI (i + 5)) (nI_add i 5) ?_
  refine zi_sld (pc := 376) h hX hbl hbA (zz_ixN (j := i + 5) (by omega) (by omega)) zd_LA_law_376 ?_
  refine zi_if_eq_t (pc := 377) h (tgt := 384) zd_LA_law_377 rfl hb ?_
  refine zi_iconst (pc := 384) h zd_LA_law_384 zq_ic_0 ?_
  refine zi_aload_n (pc := 385) h (i := 3) zd_LA_law_385 rfl 1 rfl ?_
  refine zi_callSW (pc := 386) h hZ (st := []) hM zw_543 zw_542 zw_0 ⟨by decide, by decide⟩ zq_pd_rule zw_541 ⟨by decide, by decide⟩ (by have := hc; omega) zd_LA_law_386 (Nat.le_of_ble_eq_true rfl) rfl ?_
  replace h := h.grow (kc' := kc + 1) (ks' := ks + 6) hc.1 hc.2
  refine zi_istore (pc := 389) h (i := 5) (L' := [(5, _), (4, _), (3, _), (2, _), (1, _), (0, _)]) zd_LA_law_389 (by decide) rfl ?_
  refine zi_aload_n (pc := 391) h (i := 2) zd_LA_law_391 rfl 3 rfl ?_
  refine zi_aload_n (pc := 392) h (i := 0) zd_LA_law_392 rfl 5 rfl ?_
  refine zi_iload (pc := 393) h (i := 4) zd_LA_law_393 1 rfl ?_
  refine zi_iconst (pc := 395) h zd_LA_law_395 zq_ic_1 ?_
  refine zi_iadd (pc := 396) h zd_LA_law_396 ?_
  refine zi_topv (nI (i + 1)) (nI_add i 1) ?_
  refine zi_sld (pc := 397) h hX hbl hbA (zz_ixN (j := i + 1) (by omega) (by omega)) zd_LA_law_397 ?_
  refine zi_aload_n (pc := 398) h (i := 0) zd_LA_law_398 rfl 5 rfl ?_
  refine zi_iload (pc := 399) h (i := 4) zd_LA_law_399 1 rfl ?_
  refine zi_iconst (pc := 401) h zd_LA_law_401 zq_ic_2 ?_
  refine zi_iadd (pc := 402) h zd_LA_law_402 ?_
  refine zi_topv (nI (i + 2)) (nI_add i 2) ?_
  refine zi_sld (pc := 403) h hX hbl hbA (zz_ixN (j := i + 2) (by omega) (by omega)) zd_LA_law_403 ?_
  refine zi_aload_n (pc := 404) h (i := 0) zd_LA_law_404 rfl 5 rfl ?_
  refine zi_iload (pc := 405) h (i := 4) zd_LA_law_405 1 rfl ?_
  refine zi_iconst (pc := 407) h zd_LA_law_407 zq_ic_3 ?_
  refine zi_iadd (pc := 408) h zd_LA_law_408 ?_
  refine zi_topv (nI (i + 3)) (nI_add i 3) ?_
  refine zi_sld (pc := 409) h hX hbl hbA (zz_ixN (j := i + 3) (by omega) (by omega)) zd_LA_law_409 ?_
  refine zi_aload_n (pc := 410) h (i := 0) zd_LA_law_410 rfl 5 rfl ?_
  refine zi_iload (pc := 411) h (i := 4) zd_LA_law_411 1 rfl ?_
  refine zi_iconst (pc := 413) h zd_LA_law_413 zq_ic_4 ?_
  refine zi_iadd (pc := 414) h zd_LA_law_414 ?_
  refine zi_topv (nI (i + 4)) (nI_add i 4) ?_
  refine zi_sld (pc := 415) h hX hbl hbA (zz_ixN (j := i + 4) (by omega) (by omega)) zd_LA_law_415 ?_
  refine zi_aload_n (pc := 416) h (i := 0) zd_LA_law_416 rfl 5 rfl ?_
  refine zi_iload (pc := 417) h (i := 4) zd_LA_law_417 1 rfl ?_
  refine zi_iconst (pc := 419) h zd_LA_law_419 zq_ic_5 ?_
  refine zi_iadd (pc := 420) h zd_LA_law_420 ?_
  refine zi_topv (nI (i + 5)) (nI_add i 5) ?_
  refine zi_sld (pc := 421) h hX hbl hbA (zz_ixN (j := i + 5) (by omega) (by omega)) zd_LA_law_421 ?_
  refine zi_if_eq_t (pc := 422) h (tgt := 429) zd_LA_law_422 rfl hb ?_
  refine zi_iconst (pc := 429) h zd_LA_law_429 zq_ic_0 ?_
  refine zi_callV (pc := 430) h (st := []) hM2 zm_MO_rule zw_768 zx_MO zq_k26 h26 ⟨by decide, by decide⟩ zd_LA_law_430 (Nat.le_of_ble_eq_true rfl) rfl ?_
  refine zi_istore (pc := 433) h (i := 6) (L' := [(6, _), (5, _), (4, _), (3, _), (2, _), (1, _), (0, _)]) zd_LA_law_433 (by decide) rfl ?_
  refine zi_aload_n (pc := 435) h (i := 2) zd_LA_law_435 rfl 4 rfl ?_
  refine zi_callV (pc := 436) h (st := []) hM3 zm_MO_thrown zw_640 zx_MO zq_k26 h26b ⟨by decide, by decide⟩ zd_LA_law_436 (Nat.le_of_ble_eq_true rfl) rfl ?_
  refine zi_iload (pc := 439) h (i := 5) zd_LA_law_439 1 rfl ?_
  refine zi_icmp_eq_t (pc := 441) h (tgt := 446) zd_LA_law_441 rfl (by decide) ?_
  refine zi_iload (pc := 446) h (i := 5) zd_LA_law_446 1 rfl ?_
  refine zi_if_ne_t (pc := 448) h (tgt := 463) zd_LA_law_448 rfl (by decide) ?_
  refine zi_goto (pc := 463) h (tgt := 628) zd_LA_law_463 rfl ?_
  refine zi_sub (L' := [(4, _), (3, _), (2, _), (1, _), (0, _)]) [2, 3, 4, 5, 6] rfl ?_
  exact kk

set_option maxRecDepth 20000 in
theorem zl_law_forget {X : zz_X} {G : zz_G} {A : Nat → Prop} {kc ks b N i : Nat} {xs : Nat → Int32} {Q : State → Prop} {F1 F2 F3 : Nat → va_E} {fs2 fs3 : List Value} {o : Nat → Int64} {x : Int32} (h : zz_C X G A 7 zb_LA_law "PortTranslatorLaw" 10 348 kc ks) (hX : va_X b N xs X.2.2.2.2.1 X.2.2.2.2.1.heap) (hbl : b < X.2.2.2.2.1.heap.size) (hbA : ¬ A b) (hi : i + 6 ≤ N) (hN : N ≤ 3072)  (hZ : zz_KZ X A) (hc : kc + 0 ≤ X.2.2.2.1.cells ∧ ks + 0 ≤ X.2.2.2.1.slots) (h26 : F2 26 = .inr (7, fs2)) (h26b : F3 26 = .inr (7, fs3)) (h41 : F3 41 = .inl (G.2.1 2, 1, .inr (.inl o))) (ho : o 0 = x.toInt64) (hM : zz_MW X.2.1 zy_LA_forget zb_LA_forget 4 (some .int) [(0, 9, 12, 18)] 7 111 0 0 G [.ref (G.2.2 0), .int (xs (i + 1)), .ref (G.2.2 41)] F1 (some (.int 0)) F2) (hM2 : zz_M X.2.1 zy_MO_forget zb_MO_forget 2 (some .int) 1 22 G [.ref (G.2.2 26), .int (xs (i + 1))] F2 (some (.int x)) F3) (hM3 : zz_M X.2.1 zy_MO_thrown zb_MO_thrown 1 (some .int) 0 0 G [.ref (G.2.2 26)] F3 (some (.int 0)) F3) (kk : zz_W X G A 7 kc ks Q F3 628 [(4, .int (nI i)), (3, .ref (G.2.2 41)), (2, .ref (G.2.2 26)), (1, .ref (G.2.2 0)), (0, .ref b)] []) : zz_W X G A 7 kc ks Q F1 466 [(4, .int (nI i)), (3, .ref (G.2.2 41)), (2, .ref (G.2.2 26)), (1, .ref (G.2.2 0)), (0, .ref b)] [] := by
  refine zi_aload_n (pc := 466) h (i := 1) zd_LA_law_466 rfl 3 rfl ?_
  refine zi_aload_n (pc := 467) h (i := 0) zd_LA_law_467 rfl 4 rfl ?_
  refine zi_iload (pc := 468) h (i := 4) zd_LA_law_468 0 rfl ?_
  refine zi_iconst (pc := 470) h zd_LA_law_470 zq_ic_1 ?_
  refine zi_iadd (pc := 471) h zd_LA_law_471 ?_
  refine zi_topv (nI (i + 1)) (nI_add i 1) ?_
  refine zi_sld (pc := 472) h hX hbl hbA (zz_ixN (j := i + 1) (by omega) (by omega)) zd_LA_law_472 ?_
  refine zi_aload_n (pc := 473) h (i := 3) zd_LA_law_473 rfl 1 rfl ?_
  refine zi_callSW (pc := 474) h hZ (st := []) hM zw_562 zw_561 zw_0 ⟨by decide, by decide⟩ zq_pd_forget zw_560 ⟨by decide, by decide⟩ (by have := hc; omega) zd_LA_law_474 (Nat.le_of_ble_eq_true rfl) rfl ?_
  refine zi_istore (pc := 477) h (i := 5) (L' := [(5, _), (4, _), (3, _), (2, _), (1, _), (0, _)]) zd_LA_law_477 (by decide) rfl ?_
  refine zi_aload_n (pc := 479) h (i := 2) zd_LA_law_479 rfl 3 rfl ?_
  refine zi_aload_n (pc := 480) h (i := 0) zd_LA_law_480 rfl 5 rfl ?_
  refine zi_iload (pc := 481) h (i := 4) zd_LA_law_481 1 rfl ?_
  refine zi_iconst (pc := 483) h zd_LA_law_483 zq_ic_1 ?_
  refine zi_iadd (pc := 484) h zd_LA_law_484 ?_
  refine zi_topv (nI (i + 1)) (nI_add i 1) ?_
  refine zi_sld (pc := 485) h hX hbl hbA (zz_ixN (j := i + 1) (by omega) (by omega)) zd_LA_law_485 ?_
  refine zi_callV (pc := 486) h (st := []) hM2 zm_MO_forget zw_776 zx_MO zq_k26 h26 ⟨by decide, by decide⟩ zd_LA_law_486 (Nat.le_of_ble_eq_true rfl) rfl ?_
  refine zi_istore (pc := 489) h (i := 6) (L' := [(6, _), (5, _), (4, _), (3, _), (2, _), (1, _), (0, _)]) zd_LA_law_489 (by decide) rfl ?_
  refine zi_aload_n (pc := 491) h (i := 2) zd_LA_law_491 rfl 4 rfl ?_
  refine zi_callV (pc := 492) h (st := []) hM3 zm_MO_thrown zw_640 zx_MO zq_k26 h26b ⟨by decide, by decide⟩ zd_LA_law_492 (Nat.le_of_ble_eq_true rfl) rfl ?_
  refine zi_iload (pc := 495) h (i := 5) zd_LA_law_495 1 rfl ?_
  refine zi_icmp_eq_t (pc := 497) h (tgt := 502) zd_LA_law_497 rfl (by decide) ?_
  refine zi_iload (pc := 502) h (i := 5) zd_LA_law_502 1 rfl ?_
  refine zi_if_ne_f (pc := 504) h (tgt := 519) zd_LA_law_504 rfl (by decide) ?_
  refine zi_aload_n (pc := 507) h (i := 3) zd_LA_law_507 rfl 3 rfl ?_
  refine zi_iconst (pc := 508) h zd_LA_law_508 zq_ic_0 ?_
  refine zi_lald (pc := 509) h 41 zq_k41 h41 zq_in_0_1 zd_LA_law_509 ?_
  refine zi_iload (pc := 510) h (i := 6) zd_LA_law_510 0 rfl ?_
  refine zi_i2l (pc := 512) h zd_LA_law_512 ?_
  refine zi_lcmp (pc := 513) h zd_LA_law_513 ?_
  refine zi_if_eq_t (pc := 514) h (tgt := 519) zd_LA_law_514 rfl (by rw [ho]; exact zz_l64 x) ?_
  refine zi_goto (pc := 519) h (tgt := 628) zd_LA_law_519 rfl ?_
  refine zi_sub (L' := [(4, _), (3, _), (2, _), (1, _), (0, _)]) [2, 3, 4, 5, 6] rfl ?_
  exact kk

set_option maxRecDepth 20000 in
theorem zl_law_forget_t1 {X : zz_X} {G : zz_G} {A : Nat → Prop} {kc ks b N i : Nat} {xs : Nat → Int32} {Q : State → Prop} {F1 F3 : Nat → va_E} {fs2 fs3 : List Value} {x : Int32} (h : zz_C X G A 7 zb_LA_law "PortTranslatorLaw" 10 348 kc ks) (hX : va_X b N xs X.2.2.2.2.1 X.2.2.2.2.1.heap) (hbl : b < X.2.2.2.2.1.heap.size) (hbA : ¬ A b) (hi : i + 6 ≤ N) (hN : N ≤ 3072)  (hZ : zz_KZ X A) (hc : kc + 1 ≤ X.2.2.2.1.cells ∧ ks + 6 ≤ X.2.2.2.1.slots) (h26 : F1 26 = .inr (7, fs2)) (h26b : F3 26 = .inr (7, fs3)) (hM : zz_MW X.2.1 zy_LA_forget zb_LA_forget 4 (some .int) [(0, 9, 12, 18)] 7 111 1 6 G [.ref (G.2.2 0), .int (xs (i + 1)), .ref (G.2.2 41)] F1 (some (.int 1)) F1) (hM2 : zz_M X.2.1 zy_MO_forget zb_MO_forget 2 (some .int) 1 22 G [.ref (G.2.2 26), .int (xs (i + 1))] F1 (some (.int x)) F3) (hM3 : zz_M X.2.1 zy_MO_thrown zb_MO_thrown 1 (some .int) 0 0 G [.ref (G.2.2 26)] F3 (some (.int 1)) F3) (kk : zz_W X G A 7 (kc + 1) (ks + 6) Q F3 628 [(4, .int (nI i)), (3, .ref (G.2.2 41)), (2, .ref (G.2.2 26)), (1, .ref (G.2.2 0)), (0, .ref b)] []) : zz_W X G A 7 kc ks Q F1 466 [(4, .int (nI i)), (3, .ref (G.2.2 41)), (2, .ref (G.2.2 26)), (1, .ref (G.2.2 0)), (0, .ref b)] [] := by
  refine zi_aload_n (pc := 466) h (i := 1) zd_LA_law_466 rfl 3 rfl ?_
  refine zi_aload_n (pc := 467) h (i := 0) zd_LA_law_467 rfl 4 rfl ?_
  refine zi_iload (pc := 468) h (i := 4) zd_LA_law_468 0 rfl ?_
  refine zi_iconst (pc := 470) h zd_LA_law_470 zq_ic_1 ?_
  refine zi_iadd (pc := 471) h zd_LA_law_471 ?_
  refine zi_topv (nI (i + 1)) (nI_add i 1) ?_
  refine zi_sld (pc := 472) h hX hbl hbA (zz_ixN (j := i + 1) (by omega) (by omega)) zd_LA_law_472 ?_
  refine zi_aload_n (pc := 473) h (i := 3) zd_LA_law_473 rfl 1 rfl ?_
  refine zi_callSW (pc := 474) h hZ (st := []) hM zw_562 zw_561 zw_0 ⟨by decide, by decide⟩ zq_pd_forget zw_560 ⟨by decide, by decide⟩ (by have := hc; omega) zd_LA_law_474 (Nat.le_of_ble_eq_true rfl) rfl ?_
  replace h := h.grow (kc' := kc + 1) (ks' := ks + 6) hc.1 hc.2
  refine zi_istore (pc := 477) h (i := 5) (L' := [(5, _), (4, _), (3, _), (2, _), (1, _), (0, _)]) zd_LA_law_477 (by decide) rfl ?_
  refine zi_aload_n (pc := 479) h (i := 2) zd_LA_law_479 rfl 3 rfl ?_
  refine zi_aload_n (pc := 480) h (i := 0) zd_LA_law_480 rfl 5 rfl ?_
  refine zi_iload (pc := 481) h (i := 4) zd_LA_law_481 1 rfl ?_
  refine zi_iconst (pc := 483) h zd_LA_law_483 zq_ic_1 ?_
  refine zi_iadd (pc := 484) h zd_LA_law_484 ?_
  refine zi_topv (nI (i + 1)) (nI_add i 1) ?_
  refine zi_sld (pc := 485) h hX hbl hbA (zz_ixN (j := i + 1) (by omega) (by omega)) zd_LA_law_485 ?_
  refine zi_callV (pc := 486) h (st := []) hM2 zm_MO_forget zw_776 zx_MO zq_k26 h26 ⟨by decide, by decide⟩ zd_LA_law_486 (Nat.le_of_ble_eq_true rfl) rfl ?_
  refine zi_istore (pc := 489) h (i := 6) (L' := [(6, _), (5, _), (4, _), (3, _), (2, _), (1, _), (0, _)]) zd_LA_law_489 (by decide) rfl ?_
  refine zi_aload_n (pc := 491) h (i := 2) zd_LA_law_491 rfl 4 rfl ?_
  refine zi_callV (pc := 492) h (st := []) hM3 zm_MO_thrown zw_640 zx_MO zq_k26 h26b ⟨by decide, by decide⟩ zd_LA_law_492 (Nat.le_of_ble_eq_true rfl) rfl ?_
  refine zi_iload (pc := 495) h (i := 5) zd_LA_law_495 1 rfl ?_
  refine zi_icmp_eq_t (pc := 497) h (tgt := 502) zd_LA_law_497 rfl (by decide) ?_
  refine zi_iload (pc := 502) h (i := 5) zd_LA_law_502 1 rfl ?_
  refine zi_if_ne_t (pc := 504) h (tgt := 519) zd_LA_law_504 rfl (by decide) ?_
  refine zi_goto (pc := 519) h (tgt := 628) zd_LA_law_519 rfl ?_
  refine zi_sub (L' := [(4, _), (3, _), (2, _), (1, _), (0, _)]) [2, 3, 4, 5, 6] rfl ?_
  exact kk

set_option maxRecDepth 20000 in
theorem zl_law_flow {X : zz_X} {G : zz_G} {A : Nat → Prop} {kc ks b N i : Nat} {xs : Nat → Int32} {Q : State → Prop} {F1 F2 F3 : Nat → va_E} {fs2 fs3 : List Value} {o : Nat → Int64} {x : Int32} (h : zz_C X G A 7 zb_LA_law "PortTranslatorLaw" 10 348 kc ks) (hX : va_X b N xs X.2.2.2.2.1 X.2.2.2.2.1.heap) (hbl : b < X.2.2.2.2.1.heap.size) (hbA : ¬ A b) (hi : i + 6 ≤ N) (hN : N ≤ 3072)  (hZ : zz_KZ X A) (hc : kc + 0 ≤ X.2.2.2.1.cells ∧ ks + 0 ≤ X.2.2.2.1.slots) (h26 : F2 26 = .inr (7, fs2)) (h26b : F3 26 = .inr (7, fs3)) (h41 : F3 41 = .inl (G.2.1 2, 1, .inr (.inl o))) (ho : o 0 = x.toInt64) (hM : zz_MW X.2.1 zy_LA_flow zb_LA_flow 5 (some .int) [(0, 10, 13, 13), (0, 10, 17, 18)] 7 112 0 0 G [.ref (G.2.2 0), .int (xs (i + 1)), .int (xs (i + 2)), .ref (G.2.2 41)] F1 (some (.int 0)) F2) (hM2 : zz_M X.2.1 zy_MO_flow zb_MO_flow 3 (some .int) 0 0 G [.ref (G.2.2 26), .int (xs (i + 1)), .int (xs (i + 2))] F2 (some (.int x)) F3) (hM3 : zz_M X.2.1 zy_MO_thrown zb_MO_thrown 1 (some .int) 0 0 G [.ref (G.2.2 26)] F3 (some (.int 0)) F3) (kk : zz_W X G A 7 kc ks Q F3 628 [(4, .int (nI i)), (3, .ref (G.2.2 41)), (2, .ref (G.2.2 26)), (1, .ref (G.2.2 0)), (0, .ref b)] []) : zz_W X G A 7 kc ks Q F1 535 [(4, .int (nI i)), (3, .ref (G.2.2 41)), (2, .ref (G.2.2 26)), (1, .ref (G.2.2 0)), (0, .ref b)] [] := by
  refine zi_aload_n (pc := 535) h (i := 1) zd_LA_law_535 rfl 3 rfl ?_
  refine zi_aload_n (pc := 536) h (i := 0) zd_LA_law_536 rfl 4 rfl ?_
  refine zi_iload (pc := 537) h (i := 4) zd_LA_law_537 0 rfl ?_
  refine zi_iconst (pc := 539) h zd_LA_law_539 zq_ic_1 ?_
  refine zi_iadd (pc := 540) h zd_LA_law_540 ?_
  refine zi_topv (nI (i + 1)) (nI_add i 1) ?_
  refine zi_sld (pc := 541) h hX hbl hbA (zz_ixN (j := i + 1) (by omega) (by omega)) zd_LA_law_541 ?_
  refine zi_aload_n (pc := 542) h (i := 0) zd_LA_law_542 rfl 4 rfl ?_
  refine zi_iload (pc := 543) h (i := 4) zd_LA_law_543 0 rfl ?_
  refine zi_iconst (pc := 545) h zd_LA_law_545 zq_ic_2 ?_
  refine zi_iadd (pc := 546) h zd_LA_law_546 ?_
  refine zi_topv (nI (i + 2)) (nI_add i 2) ?_
  refine zi_sld (pc := 547) h hX hbl hbA (zz_ixN (j := i + 2) (by omega) (by omega)) zd_LA_law_547 ?_
  refine zi_aload_n (pc := 548) h (i := 3) zd_LA_law_548 rfl 1 rfl ?_
  refine zi_callSW (pc := 549) h hZ (st := []) hM zw_569 zw_568 zw_0 ⟨by decide, by decide⟩ zq_pd_flow zw_567 ⟨by decide, by decide⟩ (by have := hc; omega) zd_LA_law_549 (Nat.le_of_ble_eq_true rfl) rfl ?_
  refine zi_istore (pc := 552) h (i := 5) (L' := [(5, _), (4, _), (3, _), (2, _), (1, _), (0, _)]) zd_LA_law_552 (by decide) rfl ?_
  refine zi_aload_n (pc := 554) h (i := 2) zd_LA_law_554 rfl 3 rfl ?_
  refine zi_aload_n (pc := 555) h (i := 0) zd_LA_law_555 rfl 5 rfl ?_
  refine zi_iload (pc := 556) h (i := 4) zd_LA_law_556 1 rfl ?_
  refine zi_iconst (pc := 558) h zd_LA_law_558 zq_ic_1 ?_
  refine zi_iadd (pc := 559) h zd_LA_law_559 ?_
  refine zi_topv (nI (i + 1)) (nI_add i 1) ?_
  refine zi_sld (pc := 560) h hX hbl hbA (zz_ixN (j := i + 1) (by omega) (by omega)) zd_LA_law_560 ?_
  refine zi_aload_n (pc := 561) h (i := 0) zd_LA_law_561 rfl 5 rfl ?_
  refine zi_iload (pc := 562) h (i := 4) zd_LA_law_562 1 rfl ?_
  refine zi_iconst (pc := 564) h zd_LA_law_564 zq_ic_2 ?_
  refine zi_iadd (pc := 565) h zd_LA_law_565 ?_
  refine zi_topv (nI (i + 2)) (nI_add i 2) ?_
  refine zi_sld (pc := 566) h hX hbl hbA (zz_ixN (j := i + 2) (by omega) (by omega)) zd_LA_law_566 ?_
  refine zi_callV (pc := 567) h (st := []) hM2 zm_MO_flow zw_784 zx_MO zq_k26 h26 ⟨by decide, by decide⟩ zd_LA_law_567 (Nat.le_of_ble_eq_true rfl) rfl ?_
  refine zi_istore (pc := 570) h (i := 6) (L' := [(6, _), (5, _), (4, _), (3, _), (2, _), (1, _), (0, _)]) zd_LA_law_570 (by decide) rfl ?_
  refine zi_aload_n (pc := 572) h (i := 2) zd_LA_law_572 rfl 4 rfl ?_
  refine zi_callV (pc := 573) h (st := []) hM3 zm_MO_thrown zw_640 zx_MO zq_k26 h26b ⟨by decide, by decide⟩ zd_LA_law_573 (Nat.le_of_ble_eq_true rfl) rfl ?_
  refine zi_iload (pc := 576) h (i := 5) zd_LA_law_576 1 rfl ?_
  refine zi_icmp_eq_t (pc := 578) h (tgt := 583) zd_LA_law_578 rfl (by decide) ?_
  refine zi_iload (pc := 583) h (i := 5) zd_LA_law_583 1 rfl ?_
  refine zi_if_ne_f (pc := 585) h (tgt := 600) zd_LA_law_585 rfl (by decide) ?_
  refine zi_aload_n (pc := 588) h (i := 3) zd_LA_law_588 rfl 3 rfl ?_
  refine zi_iconst (pc := 589) h zd_LA_law_589 zq_ic_0 ?_
  refine zi_lald (pc := 590) h 41 zq_k41 h41 zq_in_0_1 zd_LA_law_590 ?_
  refine zi_iload (pc := 591) h (i := 6) zd_LA_law_591 0 rfl ?_
  refine zi_i2l (pc := 593) h zd_LA_law_593 ?_
  refine zi_lcmp (pc := 594) h zd_LA_law_594 ?_
  refine zi_if_eq_t (pc := 595) h (tgt := 600) zd_LA_law_595 rfl (by rw [ho]; exact zz_l64 x) ?_
  refine zi_goto (pc := 600) h (tgt := 628) zd_LA_law_600 rfl ?_
  refine zi_sub (L' := [(4, _), (3, _), (2, _), (1, _), (0, _)]) [2, 3, 4, 5, 6] rfl ?_
  exact kk

set_option maxRecDepth 20000 in
theorem zl_law_flow_t1 {X : zz_X} {G : zz_G} {A : Nat → Prop} {kc ks b N i : Nat} {xs : Nat → Int32} {Q : State → Prop} {F1 F3 : Nat → va_E} {fs2 fs3 : List Value} {x : Int32} (h : zz_C X G A 7 zb_LA_law "PortTranslatorLaw" 10 348 kc ks) (hX : va_X b N xs X.2.2.2.2.1 X.2.2.2.2.1.heap) (hbl : b < X.2.2.2.2.1.heap.size) (hbA : ¬ A b) (hi : i + 6 ≤ N) (hN : N ≤ 3072)  (hZ : zz_KZ X A) (hc : kc + 1 ≤ X.2.2.2.1.cells ∧ ks + 6 ≤ X.2.2.2.1.slots) (h26 : F1 26 = .inr (7, fs2)) (h26b : F3 26 = .inr (7, fs3)) (hM : zz_MW X.2.1 zy_LA_flow zb_LA_flow 5 (some .int) [(0, 10, 13, 13), (0, 10, 17, 18)] 7 112 1 6 G [.ref (G.2.2 0), .int (xs (i + 1)), .int (xs (i + 2)), .ref (G.2.2 41)] F1 (some (.int 1)) F1) (hM2 : zz_M X.2.1 zy_MO_flow zb_MO_flow 3 (some .int) 0 0 G [.ref (G.2.2 26), .int (xs (i + 1)), .int (xs (i + 2))] F1 (some (.int x)) F3) (hM3 : zz_M X.2.1 zy_MO_thrown zb_MO_thrown 1 (some .int) 0 0 G [.ref (G.2.2 26)] F3 (some (.int 1)) F3) (kk : zz_W X G A 7 (kc + 1) (ks + 6) Q F3 628 [(4, .int (nI i)), (3, .ref (G.2.2 41)), (2, .ref (G.2.2 26)), (1, .ref (G.2.2 0)), (0, .ref b)] []) : zz_W X G A 7 kc ks Q F1 535 [(4, .int (nI i)), (3, .ref (G.2.2 41)), (2, .ref (G.2.2 26)), (1, .ref (G.2.2 0)), (0, .ref b)] [] := by
  refine zi_aload_n (pc := 535) h (i := 1) zd_LA_law_535 rfl 3 rfl ?_
  refine zi_aload_n (pc := 536) h (i := 0) zd_LA_law_536 rfl 4 rfl ?_
  refine zi_iload (pc := 537) h (i := 4) zd_LA_law_537 0 rfl ?_
  refine zi_iconst (pc := 539) h zd_LA_law_539 zq_ic_1 ?_
  refine zi_iadd (pc := 540) h zd_LA_law_540 ?_
  refine zi_topv (nI (i + 1)) (nI_add i 1) ?_
  refine zi_sld (pc := 541) h hX hbl hbA (zz_ixN (j := i + 1) (by omega) (by omega)) zd_LA_law_541 ?_
  refine zi_aload_n (pc := 542) h (i := 0) zd_LA_law_542 rfl 4 rfl ?_
  refine zi_iload (pc := 543) h (i := 4) zd_LA_law_543 0 rfl ?_
  refine zi_iconst (pc := 545) h zd_LA_law_545 zq_ic_2 ?_
  refine zi_iadd (pc := 546) h zd_LA_law_546 ?_
  refine zi_topv (nI (i + 2)) (nI_add i 2) ?_
  refine zi_sld (pc := 547) h hX hbl hbA (zz_ixN (j := i + 2) (by omega) (by omega)) zd_LA_law_547 ?_
  refine zi_aload_n (pc := 548) h (i := 3) zd_LA_law_548 rfl 1 rfl ?_
  refine zi_callSW (pc := 549) h hZ (st := []) hM zw_569 zw_568 zw_0 ⟨by decide, by decide⟩ zq_pd_flow zw_567 ⟨by decide, by decide⟩ (by have := hc; omega) zd_LA_law_549 (Nat.le_of_ble_eq_true rfl) rfl ?_
  replace h := h.grow (kc' := kc + 1) (ks' := ks + 6) hc.1 hc.2
  refine zi_istore (pc := 552) h (i := 5) (L' := [(5, _), (4, _), (3, _), (2, _), (1, _), (0, _)]) zd_LA_law_552 (by decide) rfl ?_
  refine zi_aload_n (pc := 554) h (i := 2) zd_LA_law_554 rfl 3 rfl ?_
  refine zi_aload_n (pc := 555) h (i := 0) zd_LA_law_555 rfl 5 rfl ?_
  refine zi_iload (pc := 556) h (i := 4) zd_LA_law_556 1 rfl ?_
  refine zi_iconst (pc := 558) h zd_LA_law_558 zq_ic_1 ?_
  refine zi_iadd (pc := 559) h zd_LA_law_559 ?_
  refine zi_topv (nI (i + 1)) (nI_add i 1) ?_
  refine zi_sld (pc := 560) h hX hbl hbA (zz_ixN (j := i + 1) (by omega) (by omega)) zd_LA_law_560 ?_
  refine zi_aload_n (pc := 561) h (i := 0) zd_LA_law_561 rfl 5 rfl ?_
  refine zi_iload (pc := 562) h (i := 4) zd_LA_law_562 1 rfl ?_
  refine zi_iconst (pc := 564) h zd_LA_law_564 zq_ic_2 ?_
  refine zi_iadd (pc := 565) h zd_LA_law_565 ?_
  refine zi_topv (nI (i + 2)) (nI_add i 2) ?_
  refine zi_sld (pc := 566) h hX hbl hbA (zz_ixN (j := i + 2) (by omega) (by omega)) zd_LA_law_566 ?_
  refine zi_callV (pc := 567) h (st := []) hM2 zm_MO_flow zw_784 zx_MO zq_k26 h26 ⟨by decide, by decide⟩ zd_LA_law_567 (Nat.le_of_ble_eq_true rfl) rfl ?_
  refine zi_istore (pc := 570) h (i := 6) (L' := [(6, _), (5, _), (4, _), (3, _), (2, _), (1, _), (0, _)]) zd_LA_law_570 (by decide) rfl ?_
  refine zi_aload_n (pc := 572) h (i := 2) zd_LA_law_572 rfl 4 rfl ?_
  refine zi_callV (pc := 573) h (st := []) hM3 zm_MO_thrown zw_640 zx_MO zq_k26 h26b ⟨by decide, by decide⟩ zd_LA_law_573 (Nat.le_of_ble_eq_true rfl) rfl ?_
  refine zi_iload (pc := 576) h (i := 5) zd_LA_law_576 1 rfl ?_
  refine zi_icmp_eq_t (pc := 578) h (tgt := 583) zd_LA_law_578 rfl (by decide) ?_
  refine zi_iload (pc := 583) h (i := 5) zd_LA_law_583 1 rfl ?_
  refine zi_if_ne_t (pc := 585) h (tgt := 600) zd_LA_law_585 rfl (by decide) ?_
  refine zi_goto (pc := 600) h (tgt := 628) zd_LA_law_600 rfl ?_
  refine zi_sub (L' := [(4, _), (3, _), (2, _), (1, _), (0, _)]) [2, 3, 4, 5, 6] rfl ?_
  exact kk

set_option maxRecDepth 20000 in
theorem zl_law_flow_t2 {X : zz_X} {G : zz_G} {A : Nat → Prop} {kc ks b N i : Nat} {xs : Nat → Int32} {Q : State → Prop} {F1 F3 : Nat → va_E} {fs2 fs3 : List Value} {x : Int32} (h : zz_C X G A 7 zb_LA_law "PortTranslatorLaw" 10 348 kc ks) (hX : va_X b N xs X.2.2.2.2.1 X.2.2.2.2.1.heap) (hbl : b < X.2.2.2.2.1.heap.size) (hbA : ¬ A b) (hi : i + 6 ≤ N) (hN : N ≤ 3072)  (hZ : zz_KZ X A) (hc : kc + 1 ≤ X.2.2.2.1.cells ∧ ks + 6 ≤ X.2.2.2.1.slots) (h26 : F1 26 = .inr (7, fs2)) (h26b : F3 26 = .inr (7, fs3)) (hM : zz_MW X.2.1 zy_LA_flow zb_LA_flow 5 (some .int) [(0, 10, 13, 13), (0, 10, 17, 18)] 7 112 1 6 G [.ref (G.2.2 0), .int (xs (i + 1)), .int (xs (i + 2)), .ref (G.2.2 41)] F1 (some (.int 2)) F1) (hM2 : zz_M X.2.1 zy_MO_flow zb_MO_flow 3 (some .int) 0 0 G [.ref (G.2.2 26), .int (xs (i + 1)), .int (xs (i + 2))] F1 (some (.int x)) F3) (hM3 : zz_M X.2.1 zy_MO_thrown zb_MO_thrown 1 (some .int) 0 0 G [.ref (G.2.2 26)] F3 (some (.int 2)) F3) (kk : zz_W X G A 7 (kc + 1) (ks + 6) Q F3 628 [(4, .int (nI i)), (3, .ref (G.2.2 41)), (2, .ref (G.2.2 26)), (1, .ref (G.2.2 0)), (0, .ref b)] []) : zz_W X G A 7 kc ks Q F1 535 [(4, .int (nI i)), (3, .ref (G.2.2 41)), (2, .ref (G.2.2 26)), (1, .ref (G.2.2 0)), (0, .ref b)] [] := by
  refine zi_aload_n (pc := 535) h (i := 1) zd_LA_law_535 rfl 3 rfl ?_
  refine zi_aload_n (pc := 536) h (i := 0) zd_LA_law_536 rfl 4 rfl ?_
  refine zi_iload (pc := 537) h (i := 4) zd_LA_law_537 0 rfl ?_
  refine zi_iconst (pc := 539) h zd_LA_law_539 zq_ic_1 ?_
  refine zi_iadd (pc := 540) h zd_LA_law_540 ?_
  refine zi_topv (nI (i + 1)) (nI_add i 1) ?_
  refine zi_sld (pc := 541) h hX hbl hbA (zz_ixN (j := i + 1) (by omega) (by omega)) zd_LA_law_541 ?_
  refine zi_aload_n (pc := 542) h (i := 0) zd_LA_law_542 rfl 4 rfl ?_
  refine zi_iload (pc := 543) h (i := 4) zd_LA_law_543 0 rfl ?_
  refine zi_iconst (pc := 545) h zd_LA_law_545 zq_ic_2 ?_
  refine zi_iadd (pc := 546) h zd_LA_law_546 ?_
  refine zi_topv (nI (i + 2)) (nI_add i 2) ?_
  refine zi_sld (pc := 547) h hX hbl hbA (zz_ixN (j := i + 2) (by omega) (by omega)) zd_LA_law_547 ?_
  refine zi_aload_n (pc := 548) h (i := 3) zd_LA_law_548 rfl 1 rfl ?_
  refine zi_callSW (pc := 549) h hZ (st := []) hM zw_569 zw_568 zw_0 ⟨by decide, by decide⟩ zq_pd_flow zw_567 ⟨by decide, by decide⟩ (by have := hc; omega) zd_LA_law_549 (Nat.le_of_ble_eq_true rfl) rfl ?_
  replace h := h.grow (kc' := kc + 1) (ks' := ks + 6) hc.1 hc.2
  refine zi_istore (pc := 552) h (i := 5) (L' := [(5, _), (4, _), (3, _), (2, _), (1, _), (0, _)]) zd_LA_law_552 (by decide) rfl ?_
  refine zi_aload_n (pc := 554) h (i := 2) zd_LA_law_554 rfl 3 rfl ?_
  refine zi_aload_n (pc := 555) h (i := 0) zd_LA_law_555 rfl 5 rfl ?_
  refine zi_iload (pc := 556) h (i := 4) zd_LA_law_556 1 rfl ?_
  refine zi_iconst (pc := 558) h zd_LA_law_558 zq_ic_1 ?_
  refine zi_iadd (pc := 559) h zd_LA_law_559 ?_
  refine zi_topv (nI (i + 1)) (nI_add i 1) ?_
  refine zi_sld (pc := 560) h hX hbl hbA (zz_ixN (j := i + 1) (by omega) (by omega)) zd_LA_law_560 ?_
  refine zi_aload_n (pc := 561) h (i := 0) zd_LA_law_561 rfl 5 rfl ?_
  refine zi_iload (pc := 562) h (i := 4) zd_LA_law_562 1 rfl ?_
  refine zi_iconst (pc := 564) h zd_LA_law_564 zq_ic_2 ?_
  refine zi_iadd (pc := 565) h zd_LA_law_565 ?_
  refine zi_topv (nI (i + 2)) (nI_add i 2) ?_
  refine zi_sld (pc := 566) h hX hbl hbA (zz_ixN (j := i + 2) (by omega) (by omega)) zd_LA_law_566 ?_
  refine zi_callV (pc := 567) h (st := []) hM2 zm_MO_flow zw_784 zx_MO zq_k26 h26 ⟨by decide, by decide⟩ zd_LA_law_567 (Nat.le_of_ble_eq_true rfl) rfl ?_
  refine zi_istore (pc := 570) h (i := 6) (L' := [(6, _), (5, _), (4, _), (3, _), (2, _), (1, _), (0, _)]) zd_LA_law_570 (by decide) rfl ?_
  refine zi_aload_n (pc := 572) h (i := 2) zd_LA_law_572 rfl 4 rfl ?_
  refine zi_callV (pc := 573) h (st := []) hM3 zm_MO_thrown zw_640 zx_MO zq_k26 h26b ⟨by decide, by decide⟩ zd_LA_law_573 (Nat.le_of_ble_eq_true rfl) rfl ?_
  refine zi_iload (pc := 576) h (i := 5) zd_LA_law_576 1 rfl ?_
  refine zi_icmp_eq_t (pc := 578) h (tgt := 583) zd_LA_law_578 rfl (by decide) ?_
  refine zi_iload (pc := 583) h (i := 5) zd_LA_law_583 1 rfl ?_
  refine zi_if_ne_t (pc := 585) h (tgt := 600) zd_LA_law_585 rfl (by decide) ?_
  refine zi_goto (pc := 600) h (tgt := 628) zd_LA_law_600 rfl ?_
  refine zi_sub (L' := [(4, _), (3, _), (2, _), (1, _), (0, _)]) [2, 3, 4, 5, 6] rfl ?_
  exact kk

