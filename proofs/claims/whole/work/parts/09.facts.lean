theorem zq_ic_m1 : Int32.ofInt (-1) = (-1) := by decide
theorem zq_ic_0 : Int32.ofInt 0 = 0 := by decide
theorem zq_ic_1 : Int32.ofInt 1 = 1 := by decide
theorem zq_ic_2 : Int32.ofInt 2 = 2 := by decide
theorem zq_ic_3 : Int32.ofInt 3 = 3 := by decide
theorem zq_ic_4 : Int32.ofInt 4 = 4 := by decide
theorem zq_ic_5 : Int32.ofInt 5 = 5 := by decide
theorem zq_ic_6 : Int32.ofInt 6 = 6 := by decide
theorem zq_bi_m6 : (Int8.ofInt (-6)).toInt32 = (-6) := by decide
theorem zq_bi_m5 : (Int8.ofInt (-5)).toInt32 = (-5) := by decide
theorem zq_bi_6 : (Int8.ofInt 6).toInt32 = 6 := by decide
theorem zq_bi_7 : (Int8.ofInt 7).toInt32 = 7 := by decide
theorem zq_bi_8 : (Int8.ofInt 8).toInt32 = 8 := by decide
theorem zq_bi_10 : (Int8.ofInt 10).toInt32 = 10 := by decide
theorem zq_bi_11 : (Int8.ofInt 11).toInt32 = 11 := by decide
theorem zq_bi_12 : (Int8.ofInt 12).toInt32 = 12 := by decide
theorem zq_bi_13 : (Int8.ofInt 13).toInt32 = 13 := by decide
theorem zq_bi_14 : (Int8.ofInt 14).toInt32 = 14 := by decide
theorem zq_bi_15 : (Int8.ofInt 15).toInt32 = 15 := by decide
theorem zq_bi_16 : (Int8.ofInt 16).toInt32 = 16 := by decide
theorem zq_bi_17 : (Int8.ofInt 17).toInt32 = 17 := by decide
theorem zq_bi_18 : (Int8.ofInt 18).toInt32 = 18 := by decide
theorem zq_bi_19 : (Int8.ofInt 19).toInt32 = 19 := by decide
theorem zq_bi_20 : (Int8.ofInt 20).toInt32 = 20 := by decide
theorem zq_bi_22 : (Int8.ofInt 22).toInt32 = 22 := by decide
theorem zq_bi_24 : (Int8.ofInt 24).toInt32 = 24 := by decide
theorem zq_bi_25 : (Int8.ofInt 25).toInt32 = 25 := by decide
theorem zq_bi_26 : (Int8.ofInt 26).toInt32 = 26 := by decide
theorem zq_bi_27 : (Int8.ofInt 27).toInt32 = 27 := by decide
theorem zq_bi_28 : (Int8.ofInt 28).toInt32 = 28 := by decide
theorem zq_bi_30 : (Int8.ofInt 30).toInt32 = 30 := by decide
theorem zq_bi_32 : (Int8.ofInt 32).toInt32 = 32 := by decide
theorem zq_bi_48 : (Int8.ofInt 48).toInt32 = 48 := by decide
theorem zq_bi_69 : (Int8.ofInt 69).toInt32 = 69 := by decide
theorem zq_bi_100 : (Int8.ofInt 100).toInt32 = 100 := by decide
theorem zq_si_255 : (Int16.ofInt 255).toInt32 = 255 := by decide
theorem zq_si_256 : (Int16.ofInt 256).toInt32 = 256 := by decide
theorem zq_si_2048 : (Int16.ofInt 2048).toInt32 = 2048 := by decide
theorem zq_si_4096 : (Int16.ofInt 4096).toInt32 = 4096 := by decide
theorem zq_inc_m1 (x : Int32) : x + Int32.ofInt (-1) = x + (-1) := by rw [zq_ic_m1]
theorem zq_inc_1 (x : Int32) : x + Int32.ofInt 1 = x + 1 := by rw [zq_ic_1]
theorem zq_inc_6 (x : Int32) : x + Int32.ofInt 6 = x + 6 := by rw [zq_ic_6]
theorem zq_10 : ((1 : Int32) = 0) = False := eq_false (by decide)
theorem zq_nb {x : Int32} (h : x = 0 ∨ x = 1) : narrow .boolean (.int x) = .int x := by rcases h with rfl | rfl <;> rfl
theorem zq_fb {x : Int32} (h : x = 0 ∨ x = 1) : fits .boolean (.int x) = true := by rcases h with rfl | rfl <;> rfl
theorem zq_k0 : 0 < 42 := by decide
theorem zq_k1 : 1 < 42 := by decide
theorem zq_k2 : 2 < 42 := by decide
theorem zq_k3 : 3 < 42 := by decide
theorem zq_k4 : 4 < 42 := by decide
theorem zq_k5 : 5 < 42 := by decide
theorem zq_k6 : 6 < 42 := by decide
theorem zq_k7 : 7 < 42 := by decide
theorem zq_k8 : 8 < 42 := by decide
theorem zq_k9 : 9 < 42 := by decide
theorem zq_k10 : 10 < 42 := by decide
theorem zq_k11 : 11 < 42 := by decide
theorem zq_k12 : 12 < 42 := by decide
theorem zq_k13 : 13 < 42 := by decide
theorem zq_k14 : 14 < 42 := by decide
theorem zq_k15 : 15 < 42 := by decide
theorem zq_k16 : 16 < 42 := by decide
theorem zq_k17 : 17 < 42 := by decide
theorem zq_k18 : 18 < 42 := by decide
theorem zq_k19 : 19 < 42 := by decide
theorem zq_k20 : 20 < 42 := by decide
theorem zq_k21 : 21 < 42 := by decide
theorem zq_k22 : 22 < 42 := by decide
theorem zq_k23 : 23 < 42 := by decide
theorem zq_k24 : 24 < 42 := by decide
theorem zq_k25 : 25 < 42 := by decide
theorem zq_k26 : 26 < 42 := by decide
theorem zq_k27 : 27 < 42 := by decide
theorem zq_k28 : 28 < 42 := by decide
theorem zq_k29 : 29 < 42 := by decide
theorem zq_k30 : 30 < 42 := by decide
theorem zq_k31 : 31 < 42 := by decide
theorem zq_k32 : 32 < 42 := by decide
theorem zq_k33 : 33 < 42 := by decide
theorem zq_k34 : 34 < 42 := by decide
theorem zq_k35 : 35 < 42 := by decide
theorem zq_k36 : 36 < 42 := by decide
theorem zq_k37 : 37 < 42 := by decide
theorem zq_k38 : 38 < 42 := by decide
theorem zq_k39 : 39 < 42 := by decide
theorem zq_k40 : 40 < 42 := by decide
theorem zq_k41 : 41 < 42 := by decide
theorem zq_j_0_1 : 0 < 1 := by decide
theorem zq_j_0_2 : 0 < 2 := by decide
theorem zq_j_1_2 : 1 < 2 := by decide
theorem zq_j_0_5 : 0 < 5 := by decide
theorem zq_j_1_5 : 1 < 5 := by decide
theorem zq_j_2_5 : 2 < 5 := by decide
theorem zq_j_3_5 : 3 < 5 := by decide
theorem zq_j_4_5 : 4 < 5 := by decide
theorem zq_j_0_7 : 0 < 7 := by decide
theorem zq_j_1_7 : 1 < 7 := by decide
theorem zq_j_2_7 : 2 < 7 := by decide
theorem zq_j_3_7 : 3 < 7 := by decide
theorem zq_j_4_7 : 4 < 7 := by decide
theorem zq_j_5_7 : 5 < 7 := by decide
theorem zq_j_6_7 : 6 < 7 := by decide
theorem zq_j_0_10 : 0 < 10 := by decide
theorem zq_j_1_10 : 1 < 10 := by decide
theorem zq_j_2_10 : 2 < 10 := by decide
theorem zq_j_3_10 : 3 < 10 := by decide
theorem zq_j_4_10 : 4 < 10 := by decide
theorem zq_j_5_10 : 5 < 10 := by decide
theorem zq_j_6_10 : 6 < 10 := by decide
theorem zq_j_7_10 : 7 < 10 := by decide
theorem zq_j_8_10 : 8 < 10 := by decide
theorem zq_j_9_10 : 9 < 10 := by decide
theorem zq_j_0_18 : 0 < 18 := by decide
theorem zq_j_1_18 : 1 < 18 := by decide
theorem zq_j_2_18 : 2 < 18 := by decide
theorem zq_j_3_18 : 3 < 18 := by decide
theorem zq_j_4_18 : 4 < 18 := by decide
theorem zq_j_5_18 : 5 < 18 := by decide
theorem zq_j_6_18 : 6 < 18 := by decide
theorem zq_j_7_18 : 7 < 18 := by decide
theorem zq_j_8_18 : 8 < 18 := by decide
theorem zq_j_9_18 : 9 < 18 := by decide
theorem zq_j_10_18 : 10 < 18 := by decide
theorem zq_j_11_18 : 11 < 18 := by decide
theorem zq_j_12_18 : 12 < 18 := by decide
theorem zq_j_13_18 : 13 < 18 := by decide
theorem zq_j_14_18 : 14 < 18 := by decide
theorem zq_j_15_18 : 15 < 18 := by decide
theorem zq_j_16_18 : 16 < 18 := by decide
theorem zq_j_17_18 : 17 < 18 := by decide
theorem zq_fl {j : Nat} (h : j < 12) : 10 + j < 42 := by omega
theorem zq_ru {j : Nat} (h : j < 4) : 22 + j < 42 := by omega
theorem zq_in_0_48 : zz_ix 0 0 48 := ⟨by decide, by decide, by decide⟩
theorem zq_in_1_48 : zz_ix 1 1 48 := ⟨by decide, by decide, by decide⟩
theorem zq_in_2_48 : zz_ix 2 2 48 := ⟨by decide, by decide, by decide⟩
theorem zq_in_3_48 : zz_ix 3 3 48 := ⟨by decide, by decide, by decide⟩
theorem zq_in_4_48 : zz_ix 4 4 48 := ⟨by decide, by decide, by decide⟩
theorem zq_in_5_48 : zz_ix 5 5 48 := ⟨by decide, by decide, by decide⟩
theorem zq_in_6_48 : zz_ix 6 6 48 := ⟨by decide, by decide, by decide⟩
theorem zq_in_7_48 : zz_ix 7 7 48 := ⟨by decide, by decide, by decide⟩
theorem zq_in_8_48 : zz_ix 8 8 48 := ⟨by decide, by decide, by decide⟩
theorem zq_in_9_48 : zz_ix 9 9 48 := ⟨by decide, by decide, by decide⟩
theorem zq_in_10_48 : zz_ix 10 10 48 := ⟨by decide, by decide, by decide⟩
theorem zq_in_11_48 : zz_ix 11 11 48 := ⟨by decide, by decide, by decide⟩
theorem zq_in_12_48 : zz_ix 12 12 48 := ⟨by decide, by decide, by decide⟩
theorem zq_in_13_48 : zz_ix 13 13 48 := ⟨by decide, by decide, by decide⟩
theorem zq_in_14_48 : zz_ix 14 14 48 := ⟨by decide, by decide, by decide⟩
theorem zq_in_15_48 : zz_ix 15 15 48 := ⟨by decide, by decide, by decide⟩
theorem zq_in_16_48 : zz_ix 16 16 48 := ⟨by decide, by decide, by decide⟩
theorem zq_in_17_48 : zz_ix 17 17 48 := ⟨by decide, by decide, by decide⟩
theorem zq_in_18_48 : zz_ix 18 18 48 := ⟨by decide, by decide, by decide⟩
theorem zq_in_19_48 : zz_ix 19 19 48 := ⟨by decide, by decide, by decide⟩
theorem zq_in_20_48 : zz_ix 20 20 48 := ⟨by decide, by decide, by decide⟩
theorem zq_in_21_48 : zz_ix 21 21 48 := ⟨by decide, by decide, by decide⟩
theorem zq_in_22_48 : zz_ix 22 22 48 := ⟨by decide, by decide, by decide⟩
theorem zq_in_23_48 : zz_ix 23 23 48 := ⟨by decide, by decide, by decide⟩
theorem zq_in_24_48 : zz_ix 24 24 48 := ⟨by decide, by decide, by decide⟩
theorem zq_in_25_48 : zz_ix 25 25 48 := ⟨by decide, by decide, by decide⟩
theorem zq_in_26_48 : zz_ix 26 26 48 := ⟨by decide, by decide, by decide⟩
theorem zq_in_27_48 : zz_ix 27 27 48 := ⟨by decide, by decide, by decide⟩
theorem zq_in_28_48 : zz_ix 28 28 48 := ⟨by decide, by decide, by decide⟩
theorem zq_in_29_48 : zz_ix 29 29 48 := ⟨by decide, by decide, by decide⟩
theorem zq_in_30_48 : zz_ix 30 30 48 := ⟨by decide, by decide, by decide⟩
theorem zq_in_31_48 : zz_ix 31 31 48 := ⟨by decide, by decide, by decide⟩
theorem zq_in_32_48 : zz_ix 32 32 48 := ⟨by decide, by decide, by decide⟩
theorem zq_in_33_48 : zz_ix 33 33 48 := ⟨by decide, by decide, by decide⟩
theorem zq_in_34_48 : zz_ix 34 34 48 := ⟨by decide, by decide, by decide⟩
theorem zq_in_35_48 : zz_ix 35 35 48 := ⟨by decide, by decide, by decide⟩
theorem zq_in_36_48 : zz_ix 36 36 48 := ⟨by decide, by decide, by decide⟩
theorem zq_in_37_48 : zz_ix 37 37 48 := ⟨by decide, by decide, by decide⟩
theorem zq_in_38_48 : zz_ix 38 38 48 := ⟨by decide, by decide, by decide⟩
theorem zq_in_39_48 : zz_ix 39 39 48 := ⟨by decide, by decide, by decide⟩
theorem zq_in_40_48 : zz_ix 40 40 48 := ⟨by decide, by decide, by decide⟩
theorem zq_in_41_48 : zz_ix 41 41 48 := ⟨by decide, by decide, by decide⟩
theorem zq_in_42_48 : zz_ix 42 42 48 := ⟨by decide, by decide, by decide⟩
theorem zq_in_43_48 : zz_ix 43 43 48 := ⟨by decide, by decide, by decide⟩
theorem zq_in_44_48 : zz_ix 44 44 48 := ⟨by decide, by decide, by decide⟩
theorem zq_in_45_48 : zz_ix 45 45 48 := ⟨by decide, by decide, by decide⟩
theorem zq_in_46_48 : zz_ix 46 46 48 := ⟨by decide, by decide, by decide⟩
theorem zq_in_47_48 : zz_ix 47 47 48 := ⟨by decide, by decide, by decide⟩
theorem zq_in_0_12 : zz_ix 0 0 12 := ⟨by decide, by decide, by decide⟩
theorem zq_in_1_12 : zz_ix 1 1 12 := ⟨by decide, by decide, by decide⟩
theorem zq_in_2_12 : zz_ix 2 2 12 := ⟨by decide, by decide, by decide⟩
theorem zq_in_3_12 : zz_ix 3 3 12 := ⟨by decide, by decide, by decide⟩
theorem zq_in_4_12 : zz_ix 4 4 12 := ⟨by decide, by decide, by decide⟩
theorem zq_in_5_12 : zz_ix 5 5 12 := ⟨by decide, by decide, by decide⟩
theorem zq_in_6_12 : zz_ix 6 6 12 := ⟨by decide, by decide, by decide⟩
theorem zq_in_7_12 : zz_ix 7 7 12 := ⟨by decide, by decide, by decide⟩
theorem zq_in_8_12 : zz_ix 8 8 12 := ⟨by decide, by decide, by decide⟩
theorem zq_in_9_12 : zz_ix 9 9 12 := ⟨by decide, by decide, by decide⟩
theorem zq_in_10_12 : zz_ix 10 10 12 := ⟨by decide, by decide, by decide⟩
theorem zq_in_11_12 : zz_ix 11 11 12 := ⟨by decide, by decide, by decide⟩
theorem zq_in_0_4 : zz_ix 0 0 4 := ⟨by decide, by decide, by decide⟩
theorem zq_in_1_4 : zz_ix 1 1 4 := ⟨by decide, by decide, by decide⟩
theorem zq_in_2_4 : zz_ix 2 2 4 := ⟨by decide, by decide, by decide⟩
theorem zq_in_3_4 : zz_ix 3 3 4 := ⟨by decide, by decide, by decide⟩
theorem zq_in_0_1 : zz_ix 0 0 1 := ⟨by decide, by decide, by decide⟩
theorem zx_PT : zz_cp 0 "PortTranslator" zt_PT 5 zf_PT := ⟨rfl, zi_PT, zo_PT, zn_PT⟩
theorem zx_PK : zz_cp 1 "PortTranslator$Packet" zt_PK 2 zf_PK := ⟨rfl, zi_PK, zo_PK, zn_PK⟩
theorem zx_SU : zz_cp 2 "PortTranslator$Subject" zt_SU 7 zf_SU := ⟨rfl, zi_SU, zo_SU, zn_SU⟩
theorem zx_FT : zz_cp 3 "PortTranslator$FlowTable" zt_FT 2 zf_FT := ⟨rfl, zi_FT, zo_FT, zn_FT⟩
theorem zx_FL : zz_cp 4 "PortTranslator$Flow" zt_FL 10 zf_FL := ⟨rfl, zi_FL, zo_FL, zn_FL⟩
theorem zx_RS : zz_cp 5 "PortTranslator$RuleList" zt_RS 1 zf_RS := ⟨rfl, zi_RS, zo_RS, zn_RS⟩
theorem zx_RU : zz_cp 6 "PortTranslator$Rule" zt_RU 5 zf_RU := ⟨rfl, zi_RU, zo_RU, zn_RU⟩
theorem zx_MO : zz_cp 7 "PortTranslatorModel" zt_MO 18 zf_MO := ⟨rfl, zi_MO, zo_MO, zn_MO⟩
theorem zm_PT_put : zz_Yv zy_PT_put zb_PT_put 5 (some .boolean) 2 := ⟨zw_193, zw_191, zw_192, zw_1, ⟨by decide, by decide, by decide +kernel⟩⟩
theorem zm_PT_scrap : zz_Yv zy_PT_scrap zb_PT_scrap 1 none 0 := ⟨zw_206, zw_204, zw_205, zw_1, ⟨by decide, by decide, by decide +kernel⟩⟩
theorem zm_PT_route : zz_Yv zy_PT_route zb_PT_route 3 (some .int) 1 := ⟨zw_214, zw_212, zw_213, zw_1, ⟨by decide, by decide, by decide +kernel⟩⟩
theorem zm_PT_length : zz_Yv zy_PT_length zb_PT_length 1 (some .int) 0 := ⟨zw_423, zw_421, zw_422, zw_1, ⟨by decide, by decide, by decide +kernel⟩⟩
theorem zm_PT_at : zz_Yv zy_PT_at zb_PT_at 2 (some .int) 1 := ⟨zw_443, zw_441, zw_442, zw_1, ⟨by decide, by decide, by decide +kernel⟩⟩
theorem zm_PT_tick : zz_Yv zy_PT_tick zb_PT_tick 2 (some .int) 1 := ⟨zw_513, zw_511, zw_512, zw_1, ⟨by decide, by decide, by decide +kernel⟩⟩
theorem zm_PT_rule : zz_Yv zy_PT_rule zb_PT_rule 6 (some .int) 5 := ⟨zw_547, zw_545, zw_546, zw_1, ⟨by decide, by decide, by decide +kernel⟩⟩
theorem zm_PT_forget : zz_Yv zy_PT_forget zb_PT_forget 2 (some .int) 1 := ⟨zw_566, zw_564, zw_565, zw_1, ⟨by decide, by decide, by decide +kernel⟩⟩
theorem zm_PT_flows : zz_Yv zy_PT_flows zb_PT_flows 1 (some .int) 0 := ⟨zw_427, zw_425, zw_426, zw_1, ⟨by decide, by decide, by decide +kernel⟩⟩
theorem zm_PT_flow : zz_Yv zy_PT_flow zb_PT_flow 3 (some .int) 2 := ⟨zw_573, zw_571, zw_572, zw_1, ⟨by decide, by decide, by decide +kernel⟩⟩
theorem zm_PT_bindings : zz_Yv zy_PT_bindings zb_PT_bindings 2 (some .int) 1 := ⟨zw_431, zw_429, zw_430, zw_1, ⟨by decide, by decide, by decide +kernel⟩⟩
theorem zm_PT_isKind : zz_Ys zy_PT_isKind zb_PT_isKind 1 (some .boolean) 1 := ⟨zw_262, zw_261, zw_1, ⟨by decide, by decide, by decide +kernel⟩⟩
theorem zm_PT_isInside : zz_Ys zy_PT_isInside zb_PT_isInside 1 (some .boolean) 1 := ⟨zw_284, zw_283, zw_1, ⟨by decide, by decide, by decide +kernel⟩⟩
theorem zm_PT_isOutside : zz_Ys zy_PT_isOutside zb_PT_isOutside 1 (some .boolean) 1 := ⟨zw_289, zw_288, zw_1, ⟨by decide, by decide, by decide +kernel⟩⟩
theorem zm_PT_judgeDraft : zz_Yv zy_PT_judgeDraft zb_PT_judgeDraft 1 (some .int) 0 := ⟨zw_218, zw_217, zs_0, zw_1, ⟨by decide, by decide, by decide +kernel⟩⟩
theorem zm_PT_sendOut : zz_Yv zy_PT_sendOut zb_PT_sendOut 3 (some .int) 0 := ⟨zw_280, zw_279, zs_5, zw_1, ⟨by decide, by decide, by decide +kernel⟩⟩
theorem zm_PT_letIn : zz_Yv zy_PT_letIn zb_PT_letIn 2 (some .int) 0 := ⟨zw_399, zw_398, zs_15, zw_1, ⟨by decide, by decide, by decide +kernel⟩⟩
theorem zm_PT_translate : zz_Yv zy_PT_translate zb_PT_translate 4 none 3 := ⟨zw_354, zw_353, zs_11, zw_1, ⟨by decide, by decide, by decide +kernel⟩⟩
theorem zm_PT_mayBeginFlow : zz_Yv zy_PT_mayBeginFlow zb_PT_mayBeginFlow 1 (some .boolean) 0 := ⟨zw_307, zw_306, zs_6, zw_1, ⟨by decide, by decide, by decide +kernel⟩⟩
theorem zm_PT_note : zz_Yv zy_PT_note zb_PT_note 3 none 2 := ⟨zw_383, zw_382, zs_13, zw_1, ⟨by decide, by decide, by decide +kernel⟩⟩
theorem zm_MO_thrown : zz_Yv zy_MO_thrown zb_MO_thrown 1 (some .int) 0 := ⟨zw_643, zw_641, zw_642, zw_8, ⟨by decide, by decide, by decide +kernel⟩⟩
theorem zm_MO_put : zz_Yv zy_MO_put zb_MO_put 5 (some .boolean) 2 := ⟨zw_647, zw_645, zw_646, zw_8, ⟨by decide, by decide, by decide +kernel⟩⟩
theorem zm_MO_scrap : zz_Yv zy_MO_scrap zb_MO_scrap 1 none 0 := ⟨zw_652, zw_650, zw_651, zw_8, ⟨by decide, by decide, by decide +kernel⟩⟩
theorem zm_MO_fold : zz_Ys zy_MO_fold zb_MO_fold 2 (some .int) 1 := ⟨zw_668, zw_667, zw_8, ⟨by decide, by decide, by decide +kernel⟩⟩
theorem zm_MO_total : zz_Yv zy_MO_total zb_MO_total 5 (some .int) 2 := ⟨zw_665, zw_664, zs_20, zw_8, ⟨by decide, by decide, by decide +kernel⟩⟩
theorem zm_MO_bodyTotal : zz_Yv zy_MO_bodyTotal zb_MO_bodyTotal 3 (some .int) 1 := ⟨zw_681, zw_680, zs_22, zw_8, ⟨by decide, by decide, by decide +kernel⟩⟩
theorem zm_MO_isKind : zz_Ys zy_MO_isKind zb_MO_isKind 1 (some .boolean) 1 := ⟨zw_673, zw_672, zw_8, ⟨by decide, by decide, by decide +kernel⟩⟩
theorem zm_MO_isError : zz_Yv zy_MO_isError zb_MO_isError 1 (some .boolean) 0 := ⟨zw_685, zw_684, zs_23, zw_8, ⟨by decide, by decide, by decide +kernel⟩⟩
theorem zm_MO_wellBody : zz_Yv zy_MO_wellBody zb_MO_wellBody 3 (some .boolean) 1 := ⟨zw_677, zw_676, zs_21, zw_8, ⟨by decide, by decide, by decide +kernel⟩⟩
theorem zm_MO_well : zz_Yv zy_MO_well zb_MO_well 2 (some .boolean) 0 := ⟨zw_660, zw_659, zs_19, zw_8, ⟨by decide, by decide, by decide +kernel⟩⟩
theorem zm_MO_address : zz_Yv zy_MO_address zb_MO_address 2 (some .int) 1 := ⟨zw_693, zw_692, zs_25, zw_8, ⟨by decide, by decide, by decide +kernel⟩⟩
theorem zm_MO_isInside : zz_Ys zy_MO_isInside zb_MO_isInside 1 (some .boolean) 1 := ⟨zw_696, zw_695, zw_8, ⟨by decide, by decide, by decide +kernel⟩⟩
theorem zm_MO_isOutside : zz_Ys zy_MO_isOutside zb_MO_isOutside 1 (some .boolean) 1 := ⟨zw_701, zw_700, zw_8, ⟨by decide, by decide, by decide +kernel⟩⟩
theorem zm_MO_find : zz_Yv zy_MO_find zb_MO_find 9 (some .int) 6 := ⟨zw_710, zw_709, zs_27, zw_8, ⟨by decide, by decide, by decide +kernel⟩⟩
theorem zm_MO_permitted : zz_Yv zy_MO_permitted zb_MO_permitted 6 (some .boolean) 2 := ⟨zw_718, zw_717, zs_29, zw_8, ⟨by decide, by decide, by decide +kernel⟩⟩
theorem zm_MO_portFor : zz_Yv zy_MO_portFor zb_MO_portFor 8 (some .int) 3 := ⟨zw_722, zw_721, zs_30, zw_8, ⟨by decide, by decide, by decide +kernel⟩⟩
theorem zm_MO_begin : zz_Yv zy_MO_begin zb_MO_begin 8 (some .int) 5 := ⟨zw_714, zw_713, zs_28, zw_8, ⟨by decide, by decide, by decide +kernel⟩⟩
theorem zm_MO_end : zz_Yv zy_MO_end zb_MO_end 3 none 1 := ⟨zw_751, zw_750, zs_36, zw_8, ⟨by decide, by decide, by decide +kernel⟩⟩
theorem zm_MO_flowOfError : zz_Yv zy_MO_flowOfError zb_MO_flowOfError 6 (some .int) 1 := ⟨zw_706, zw_705, zs_26, zw_8, ⟨by decide, by decide, by decide +kernel⟩⟩
theorem zm_MO_flowOf : zz_Yv zy_MO_flowOf zb_MO_flowOf 8 (some .int) 1 := ⟨zw_689, zw_688, zs_24, zw_8, ⟨by decide, by decide, by decide +kernel⟩⟩
theorem zm_MO_setAddress : zz_Yv zy_MO_setAddress zb_MO_setAddress 3 none 2 := ⟨zw_732, zw_731, zs_32, zw_8, ⟨by decide, by decide, by decide +kernel⟩⟩
theorem zm_MO_adjusted : zz_Ys zy_MO_adjusted zb_MO_adjusted 3 (some .int) 3 := ⟨zw_739, zw_738, zw_8, ⟨by decide, by decide, by decide +kernel⟩⟩
theorem zm_MO_changeOther : zz_Yv zy_MO_changeOther zb_MO_changeOther 11 none 4 := ⟨zw_736, zw_735, zs_33, zw_8, ⟨by decide, by decide, by decide +kernel⟩⟩
theorem zm_MO_writeSums : zz_Yv zy_MO_writeSums zb_MO_writeSums 4 none 1 := ⟨zw_743, zw_742, zs_34, zw_8, ⟨by decide, by decide, by decide +kernel⟩⟩
theorem zm_MO_rewrite : zz_Yv zy_MO_rewrite zb_MO_rewrite 7 none 2 := ⟨zw_728, zw_727, zs_31, zw_8, ⟨by decide, by decide, by decide +kernel⟩⟩
theorem zm_MO_touch : zz_Yv zy_MO_touch zb_MO_touch 4 none 2 := ⟨zw_747, zw_746, zs_35, zw_8, ⟨by decide, by decide, by decide +kernel⟩⟩
theorem zm_MO_route : zz_Yv zy_MO_route zb_MO_route 5 (some .int) 1 := ⟨zw_656, zw_654, zw_655, zw_8, ⟨by decide, by decide, by decide +kernel⟩⟩
theorem zm_MO_length : zz_Yv zy_MO_length zb_MO_length 1 (some .int) 0 := ⟨zw_755, zw_753, zw_754, zw_8, ⟨by decide, by decide, by decide +kernel⟩⟩
theorem zm_MO_at : zz_Yv zy_MO_at zb_MO_at 2 (some .int) 1 := ⟨zw_759, zw_757, zw_758, zw_8, ⟨by decide, by decide, by decide +kernel⟩⟩
theorem zm_MO_life : zz_Yv zy_MO_life zb_MO_life 2 (some .int) 1 := ⟨zw_767, zw_766, zs_37, zw_8, ⟨by decide, by decide, by decide +kernel⟩⟩
theorem zm_MO_tick : zz_Yv zy_MO_tick zb_MO_tick 4 (some .int) 1 := ⟨zw_763, zw_761, zw_762, zw_8, ⟨by decide, by decide, by decide +kernel⟩⟩
theorem zm_MO_rules : zz_Yv zy_MO_rules zb_MO_rules 3 (some .int) 0 := ⟨zw_775, zw_774, zs_38, zw_8, ⟨by decide, by decide, by decide +kernel⟩⟩
theorem zm_MO_rule : zz_Yv zy_MO_rule zb_MO_rule 6 (some .int) 5 := ⟨zw_771, zw_769, zw_770, zw_8, ⟨by decide, by decide, by decide +kernel⟩⟩
theorem zm_MO_forget : zz_Yv zy_MO_forget zb_MO_forget 2 (some .int) 1 := ⟨zw_779, zw_777, zw_778, zw_8, ⟨by decide, by decide, by decide +kernel⟩⟩
theorem zm_MO_flows : zz_Yv zy_MO_flows zb_MO_flows 1 (some .int) 0 := ⟨zw_783, zw_781, zw_782, zw_8, ⟨by decide, by decide, by decide +kernel⟩⟩
theorem zm_MO_flow : zz_Yv zy_MO_flow zb_MO_flow 3 (some .int) 2 := ⟨zw_787, zw_785, zw_786, zw_8, ⟨by decide, by decide, by decide +kernel⟩⟩
theorem zm_MO_bindings : zz_Yv zy_MO_bindings zb_MO_bindings 6 (some .int) 1 := ⟨zw_791, zw_789, zw_790, zw_8, ⟨by decide, by decide, by decide +kernel⟩⟩
theorem zm_FL_start : zz_Yv zy_FL_start zb_FL_start 3 none 2 := ⟨zw_350, zw_348, zw_349, zw_5, ⟨by decide, by decide, by decide +kernel⟩⟩
theorem zm_FL_hasInner : zz_Yv zy_FL_hasInner zb_FL_hasInner 2 (some .boolean) 1 := ⟨zw_298, zw_296, zw_297, zw_5, ⟨by decide, by decide, by decide +kernel⟩⟩
theorem zm_FL_hasOuter : zz_Yv zy_FL_hasOuter zb_FL_hasOuter 2 (some .boolean) 1 := ⟨zw_302, zw_300, zw_301, zw_5, ⟨by decide, by decide, by decide +kernel⟩⟩
theorem zm_FL_hasOwn : zz_Yv zy_FL_hasOwn zb_FL_hasOwn 3 (some .boolean) 2 := ⟨zw_346, zw_344, zw_345, zw_5, ⟨by decide, by decide, by decide +kernel⟩⟩
theorem zm_FL_noteFlags : zz_Yv zy_FL_noteFlags zb_FL_noteFlags 3 none 2 := ⟨zw_387, zw_385, zw_386, zw_5, ⟨by decide, by decide, by decide +kernel⟩⟩
theorem zm_FL_isOver : zz_Yv zy_FL_isOver zb_FL_isOver 1 (some .boolean) 0 := ⟨zw_536, zw_534, zw_535, zw_5, ⟨by decide, by decide, by decide +kernel⟩⟩
theorem zm_FL_life : zz_Yv zy_FL_life zb_FL_life 1 (some .int) 0 := ⟨zw_540, zw_539, zs_18, zw_5, ⟨by decide, by decide, by decide +kernel⟩⟩
theorem zm_FL_detail : zz_Yv zy_FL_detail zb_FL_detail 2 (some .int) 1 := ⟨zw_577, zw_575, zw_576, zw_5, ⟨by decide, by decide, by decide +kernel⟩⟩
theorem zm_FT_findByInner : zz_Yv zy_FT_findByInner zb_FT_findByInner 4 (some (.object "PortTranslator$Flow")) 1 := ⟨zw_294, zw_292, zw_293, zw_4, ⟨by decide, by decide, by decide +kernel⟩⟩
theorem zm_FT_findByOwn : zz_Yv zy_FT_findByOwn zb_FT_findByOwn 4 (some (.object "PortTranslator$Flow")) 1 := ⟨zw_404, zw_402, zw_403, zw_4, ⟨by decide, by decide, by decide +kernel⟩⟩
theorem zm_FT_begin : zz_Yv zy_FT_begin zb_FT_begin 4 (some (.object "PortTranslator$Flow")) 1 := ⟨zw_328, zw_326, zw_327, zw_4, ⟨by decide, by decide, by decide +kernel⟩⟩
theorem zm_FT_binding : zz_Yv zy_FT_binding zb_FT_binding 3 (some .int) 1 := ⟨zw_332, zw_331, zs_8, zw_4, ⟨by decide, by decide, by decide +kernel⟩⟩
theorem zm_FT_leastFreePort : zz_Yv zy_FT_leastFreePort zb_FT_leastFreePort 3 (some .int) 1 := ⟨zw_336, zw_335, zs_9, zw_4, ⟨by decide, by decide, by decide +kernel⟩⟩
theorem zm_FT_isTaken : zz_Yv zy_FT_isTaken zb_FT_isTaken 4 (some .boolean) 2 := ⟨zw_342, zw_341, zs_10, zw_4, ⟨by decide, by decide, by decide +kernel⟩⟩
theorem zm_FT_countOwnPorts : zz_Yv zy_FT_countOwnPorts zb_FT_countOwnPorts 4 (some .int) 1 := ⟨zw_435, zw_433, zw_434, zw_4, ⟨by decide, by decide, by decide +kernel⟩⟩
theorem zm_FT_grow : zz_Yv zy_FT_grow zb_FT_grow 4 (some .int) 1 := ⟨zw_532, zw_530, zw_531, zw_4, ⟨by decide, by decide, by decide +kernel⟩⟩
theorem zm_FT_end : zz_Yv zy_FT_end zb_FT_end 3 none 1 := ⟨zw_391, zw_389, zw_390, zw_4, ⟨by decide, by decide, by decide +kernel⟩⟩
theorem zm_FT_endAt : zz_Yv zy_FT_endAt zb_FT_endAt 4 none 1 := ⟨zw_395, zw_394, zs_14, zw_4, ⟨by decide, by decide, by decide +kernel⟩⟩
theorem zm_PK_hasRoomFor : zz_Yv zy_PK_hasRoomFor zb_PK_hasRoomFor 2 (some .boolean) 1 := ⟨zw_197, zw_195, zw_196, zw_2, ⟨by decide, by decide, by decide +kernel⟩⟩
theorem zm_PK_append : zz_Yv zy_PK_append zb_PK_append 2 none 1 := ⟨zw_202, zw_200, zw_201, zw_2, ⟨by decide, by decide, by decide +kernel⟩⟩
theorem zm_PK_empty : zz_Yv zy_PK_empty zb_PK_empty 1 none 0 := ⟨zw_210, zw_208, zw_209, zw_2, ⟨by decide, by decide, by decide +kernel⟩⟩
theorem zm_PK_copyFrom : zz_Yv zy_PK_copyFrom zb_PK_copyFrom 2 none 1 := ⟨zw_416, zw_414, zw_415, zw_2, ⟨by decide, by decide, by decide +kernel⟩⟩
theorem zm_PK_isWellFormed : zz_Yv zy_PK_isWellFormed zb_PK_isWellFormed 1 (some .boolean) 0 := ⟨zw_222, zw_220, zw_221, zw_2, ⟨by decide, by decide, by decide +kernel⟩⟩
theorem zm_PK_hasOtherPacket : zz_Yv zy_PK_hasOtherPacket zb_PK_hasOtherPacket 1 (some .boolean) 0 := ⟨zw_259, zw_258, zs_4, zw_2, ⟨by decide, by decide, by decide +kernel⟩⟩
theorem zm_PK_kindAt : zz_Yv zy_PK_kindAt zb_PK_kindAt 2 (some .int) 1 := ⟨zw_235, zw_233, zw_234, zw_2, ⟨by decide, by decide, by decide +kernel⟩⟩
theorem zm_PK_time : zz_Yv zy_PK_time zb_PK_time 1 (some .int) 0 := ⟨zw_266, zw_264, zw_265, zw_2, ⟨by decide, by decide, by decide +kernel⟩⟩
theorem zm_PK_lowerTime : zz_Yv zy_PK_lowerTime zb_PK_lowerTime 1 none 0 := ⟨zw_358, zw_356, zw_357, zw_2, ⟨by decide, by decide, by decide +kernel⟩⟩
theorem zm_PK_flags : zz_Yv zy_PK_flags zb_PK_flags 1 (some .int) 0 := ⟨zw_312, zw_310, zw_311, zw_2, ⟨by decide, by decide, by decide +kernel⟩⟩
theorem zm_PK_isEchoRequest : zz_Yv zy_PK_isEchoRequest zb_PK_isEchoRequest 1 (some .boolean) 0 := ⟨zw_247, zw_245, zw_246, zw_2, ⟨by decide, by decide, by decide +kernel⟩⟩
theorem zm_PK_isEchoReply : zz_Yv zy_PK_isEchoReply zb_PK_isEchoReply 1 (some .boolean) 0 := ⟨zw_251, zw_249, zw_250, zw_2, ⟨by decide, by decide, by decide +kernel⟩⟩
theorem zm_PK_isError : zz_Yv zy_PK_isError zb_PK_isError 2 (some .boolean) 0 := ⟨zw_255, zw_253, zw_254, zw_2, ⟨by decide, by decide, by decide +kernel⟩⟩
theorem zm_PK_address : zz_Yv zy_PK_address zb_PK_address 2 (some .int) 1 := ⟨zw_276, zw_274, zw_275, zw_2, ⟨by decide, by decide, by decide +kernel⟩⟩
theorem zm_PK_setAddress : zz_Yv zy_PK_setAddress zb_PK_setAddress 3 none 2 := ⟨zw_362, zw_360, zw_361, zw_2, ⟨by decide, by decide, by decide +kernel⟩⟩
theorem zm_PK_adjustOther : zz_Yv zy_PK_adjustOther zb_PK_adjustOther 4 none 2 := ⟨zw_374, zw_372, zw_373, zw_2, ⟨by decide, by decide, by decide +kernel⟩⟩
theorem zm_PK_adjust : zz_Yv zy_PK_adjust zb_PK_adjust 3 none 2 := ⟨zw_378, zw_377, zs_12, zw_2, ⟨by decide, by decide, by decide +kernel⟩⟩
theorem zm_PK_writeChecksums : zz_Yv zy_PK_writeChecksums zb_PK_writeChecksums 2 none 0 := ⟨zw_408, zw_406, zw_407, zw_2, ⟨by decide, by decide, by decide +kernel⟩⟩
theorem zm_PK_writeBodyChecksum : zz_Yv zy_PK_writeBodyChecksum zb_PK_writeBodyChecksum 2 none 1 := ⟨zw_412, zw_411, zs_16, zw_2, ⟨by decide, by decide, by decide +kernel⟩⟩
theorem zm_PK_bodyAgrees : zz_Yv zy_PK_bodyAgrees zb_PK_bodyAgrees 1 (some .boolean) 0 := ⟨zw_239, zw_238, zs_2, zw_2, ⟨by decide, by decide, by decide +kernel⟩⟩
theorem zm_PK_bodyTotal : zz_Yv zy_PK_bodyTotal zb_PK_bodyTotal 2 (some .int) 0 := ⟨zw_243, zw_242, zs_3, zw_2, ⟨by decide, by decide, by decide +kernel⟩⟩
theorem zm_PK_total : zz_Yv zy_PK_total zb_PK_total 5 (some .int) 2 := ⟨zw_227, zw_226, zs_1, zw_2, ⟨by decide, by decide, by decide +kernel⟩⟩
theorem zm_PK_sum : zz_Ys zy_PK_sum zb_PK_sum 2 (some .int) 1 := ⟨zw_230, zw_229, zw_2, ⟨by decide, by decide, by decide +kernel⟩⟩
theorem zm_RU_become : zz_Yv zy_RU_become zb_RU_become 5 none 4 := ⟨zw_555, zw_553, zw_554, zw_7, ⟨by decide, by decide, by decide +kernel⟩⟩
theorem zm_RU_speaksOf : zz_Yv zy_RU_speaksOf zb_RU_speaksOf 3 (some .boolean) 2 := ⟨zw_320, zw_318, zw_319, zw_7, ⟨by decide, by decide, by decide +kernel⟩⟩
theorem zm_RU_holds : zz_Yv zy_RU_holds zb_RU_holds 2 (some .boolean) 1 := ⟨zw_324, zw_323, zs_7, zw_7, ⟨by decide, by decide, by decide +kernel⟩⟩
theorem zm_RS_isNumber : zz_Ys zy_RS_isNumber zb_RS_isNumber 1 (some .boolean) 1 := ⟨zw_550, zw_549, zw_6, ⟨by decide, by decide, by decide +kernel⟩⟩
theorem zm_RS_count : zz_Yv zy_RS_count zb_RS_count 3 (some .int) 0 := ⟨zw_559, zw_557, zw_558, zw_6, ⟨by decide, by decide, by decide +kernel⟩⟩
theorem zm_RS_permit : zz_Yv zy_RS_permit zb_RS_permit 4 (some .boolean) 2 := ⟨zw_316, zw_314, zw_315, zw_6, ⟨by decide, by decide, by decide +kernel⟩⟩
theorem zm_SU_read : zz_Yv zy_SU_read zb_SU_read 5 none 2 := ⟨zw_270, zw_268, zw_269, zw_3, ⟨by decide, by decide, by decide +kernel⟩⟩
theorem zm_SU_write : zz_Yv zy_SU_write zb_SU_write 5 none 3 := ⟨zw_366, zw_364, zw_365, zw_3, ⟨by decide, by decide, by decide +kernel⟩⟩
theorem zm_SU_change : zz_Ys zy_SU_change zb_SU_change 2 (some .int) 2 := ⟨zw_369, zw_368, zw_3, ⟨by decide, by decide, by decide +kernel⟩⟩
