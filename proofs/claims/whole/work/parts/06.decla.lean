abbrev zb_LA_at : ByteArray := method_3_code
def zy_LA_at : MethodName := ⟨"PortTranslatorLaw", "at", "(LPortTranslator;I[J)I"⟩
theorem zd_LA_at_0 : decode zb_LA_at 0 = .ok (.aload_n 2, 1) := by decide +kernel
theorem zd_LA_at_1 : decode zb_LA_at 1 = .ok (.iconst 0, 1) := by decide +kernel
theorem zd_LA_at_2 : decode zb_LA_at 2 = .ok (.aload_n 0, 1) := by decide +kernel
theorem zd_LA_at_3 : decode zb_LA_at 3 = .ok (.iload_n 1, 1) := by decide +kernel
theorem zd_LA_at_4 : decode zb_LA_at 4 = .ok (.invokevirtual 7, 3) := by decide +kernel
theorem zd_LA_at_7 : decode zb_LA_at 7 = .ok (.i2l, 1) := by decide +kernel
theorem zd_LA_at_8 : decode zb_LA_at 8 = .ok (.lastore, 1) := by decide +kernel
theorem zd_LA_at_9 : decode zb_LA_at 9 = .ok (.goto 6, 3) := by decide +kernel
theorem zd_LA_at_12 : decode zb_LA_at 12 = .ok (.astore_n 3, 1) := by decide +kernel
theorem zd_LA_at_13 : decode zb_LA_at 13 = .ok (.iconst 1, 1) := by decide +kernel
theorem zd_LA_at_14 : decode zb_LA_at 14 = .ok (.ireturn, 1) := by decide +kernel
theorem zd_LA_at_15 : decode zb_LA_at 15 = .ok (.iconst 0, 1) := by decide +kernel
theorem zd_LA_at_16 : decode zb_LA_at 16 = .ok (.ireturn, 1) := by decide +kernel
abbrev zb_LA_tick : ByteArray := method_4_code
def zy_LA_tick : MethodName := ⟨"PortTranslatorLaw", "tick", "(LPortTranslator;I[J)I"⟩
theorem zd_LA_tick_0 : decode zb_LA_tick 0 = .ok (.aload_n 2, 1) := by decide +kernel
theorem zd_LA_tick_1 : decode zb_LA_tick 1 = .ok (.iconst 0, 1) := by decide +kernel
theorem zd_LA_tick_2 : decode zb_LA_tick 2 = .ok (.aload_n 0, 1) := by decide +kernel
theorem zd_LA_tick_3 : decode zb_LA_tick 3 = .ok (.iload_n 1, 1) := by decide +kernel
theorem zd_LA_tick_4 : decode zb_LA_tick 4 = .ok (.invokevirtual 15, 3) := by decide +kernel
theorem zd_LA_tick_7 : decode zb_LA_tick 7 = .ok (.i2l, 1) := by decide +kernel
theorem zd_LA_tick_8 : decode zb_LA_tick 8 = .ok (.lastore, 1) := by decide +kernel
theorem zd_LA_tick_9 : decode zb_LA_tick 9 = .ok (.goto 6, 3) := by decide +kernel
theorem zd_LA_tick_12 : decode zb_LA_tick 12 = .ok (.astore_n 3, 1) := by decide +kernel
theorem zd_LA_tick_13 : decode zb_LA_tick 13 = .ok (.iconst 1, 1) := by decide +kernel
theorem zd_LA_tick_14 : decode zb_LA_tick 14 = .ok (.ireturn, 1) := by decide +kernel
theorem zd_LA_tick_15 : decode zb_LA_tick 15 = .ok (.iconst 0, 1) := by decide +kernel
theorem zd_LA_tick_16 : decode zb_LA_tick 16 = .ok (.ireturn, 1) := by decide +kernel
abbrev zb_LA_rule : ByteArray := method_5_code
def zy_LA_rule : MethodName := ⟨"PortTranslatorLaw", "rule", "(LPortTranslator;IIIIZ[J)I"⟩
theorem zd_LA_rule_0 : decode zb_LA_rule 0 = .ok (.aload 6, 2) := by decide +kernel
theorem zd_LA_rule_2 : decode zb_LA_rule 2 = .ok (.iconst 0, 1) := by decide +kernel
theorem zd_LA_rule_3 : decode zb_LA_rule 3 = .ok (.aload_n 0, 1) := by decide +kernel
theorem zd_LA_rule_4 : decode zb_LA_rule 4 = .ok (.iload_n 1, 1) := by decide +kernel
theorem zd_LA_rule_5 : decode zb_LA_rule 5 = .ok (.iload_n 2, 1) := by decide +kernel
theorem zd_LA_rule_6 : decode zb_LA_rule 6 = .ok (.iload_n 3, 1) := by decide +kernel
theorem zd_LA_rule_7 : decode zb_LA_rule 7 = .ok (.iload 4, 2) := by decide +kernel
theorem zd_LA_rule_9 : decode zb_LA_rule 9 = .ok (.iload 5, 2) := by decide +kernel
theorem zd_LA_rule_11 : decode zb_LA_rule 11 = .ok (.invokevirtual 20, 3) := by decide +kernel
theorem zd_LA_rule_14 : decode zb_LA_rule 14 = .ok (.i2l, 1) := by decide +kernel
theorem zd_LA_rule_15 : decode zb_LA_rule 15 = .ok (.lastore, 1) := by decide +kernel
theorem zd_LA_rule_16 : decode zb_LA_rule 16 = .ok (.goto 7, 3) := by decide +kernel
theorem zd_LA_rule_19 : decode zb_LA_rule 19 = .ok (.astore 7, 2) := by decide +kernel
theorem zd_LA_rule_21 : decode zb_LA_rule 21 = .ok (.iconst 1, 1) := by decide +kernel
theorem zd_LA_rule_22 : decode zb_LA_rule 22 = .ok (.ireturn, 1) := by decide +kernel
theorem zd_LA_rule_23 : decode zb_LA_rule 23 = .ok (.iconst 0, 1) := by decide +kernel
theorem zd_LA_rule_24 : decode zb_LA_rule 24 = .ok (.ireturn, 1) := by decide +kernel
abbrev zb_LA_forget : ByteArray := method_6_code
def zy_LA_forget : MethodName := ⟨"PortTranslatorLaw", "forget", "(LPortTranslator;I[J)I"⟩
theorem zd_LA_forget_0 : decode zb_LA_forget 0 = .ok (.aload_n 2, 1) := by decide +kernel
theorem zd_LA_forget_1 : decode zb_LA_forget 1 = .ok (.iconst 0, 1) := by decide +kernel
theorem zd_LA_forget_2 : decode zb_LA_forget 2 = .ok (.aload_n 0, 1) := by decide +kernel
theorem zd_LA_forget_3 : decode zb_LA_forget 3 = .ok (.iload_n 1, 1) := by decide +kernel
theorem zd_LA_forget_4 : decode zb_LA_forget 4 = .ok (.invokevirtual 24, 3) := by decide +kernel
theorem zd_LA_forget_7 : decode zb_LA_forget 7 = .ok (.i2l, 1) := by decide +kernel
theorem zd_LA_forget_8 : decode zb_LA_forget 8 = .ok (.lastore, 1) := by decide +kernel
theorem zd_LA_forget_9 : decode zb_LA_forget 9 = .ok (.goto 6, 3) := by decide +kernel
theorem zd_LA_forget_12 : decode zb_LA_forget 12 = .ok (.astore_n 3, 1) := by decide +kernel
theorem zd_LA_forget_13 : decode zb_LA_forget 13 = .ok (.iconst 1, 1) := by decide +kernel
theorem zd_LA_forget_14 : decode zb_LA_forget 14 = .ok (.ireturn, 1) := by decide +kernel
theorem zd_LA_forget_15 : decode zb_LA_forget 15 = .ok (.iconst 0, 1) := by decide +kernel
theorem zd_LA_forget_16 : decode zb_LA_forget 16 = .ok (.ireturn, 1) := by decide +kernel
abbrev zb_LA_flow : ByteArray := method_7_code
def zy_LA_flow : MethodName := ⟨"PortTranslatorLaw", "flow", "(LPortTranslator;II[J)I"⟩
theorem zd_LA_flow_0 : decode zb_LA_flow 0 = .ok (.aload_n 3, 1) := by decide +kernel
theorem zd_LA_flow_1 : decode zb_LA_flow 1 = .ok (.iconst 0, 1) := by decide +kernel
theorem zd_LA_flow_2 : decode zb_LA_flow 2 = .ok (.aload_n 0, 1) := by decide +kernel
theorem zd_LA_flow_3 : decode zb_LA_flow 3 = .ok (.iload_n 1, 1) := by decide +kernel
theorem zd_LA_flow_4 : decode zb_LA_flow 4 = .ok (.iload_n 2, 1) := by decide +kernel
theorem zd_LA_flow_5 : decode zb_LA_flow 5 = .ok (.invokevirtual 27, 3) := by decide +kernel
theorem zd_LA_flow_8 : decode zb_LA_flow 8 = .ok (.i2l, 1) := by decide +kernel
theorem zd_LA_flow_9 : decode zb_LA_flow 9 = .ok (.lastore, 1) := by decide +kernel
theorem zd_LA_flow_10 : decode zb_LA_flow 10 = .ok (.goto 11, 3) := by decide +kernel
theorem zd_LA_flow_13 : decode zb_LA_flow 13 = .ok (.astore 4, 2) := by decide +kernel
theorem zd_LA_flow_15 : decode zb_LA_flow 15 = .ok (.iconst 1, 1) := by decide +kernel
theorem zd_LA_flow_16 : decode zb_LA_flow 16 = .ok (.ireturn, 1) := by decide +kernel
theorem zd_LA_flow_17 : decode zb_LA_flow 17 = .ok (.astore 4, 2) := by decide +kernel
theorem zd_LA_flow_19 : decode zb_LA_flow 19 = .ok (.iconst 2, 1) := by decide +kernel
theorem zd_LA_flow_20 : decode zb_LA_flow 20 = .ok (.ireturn, 1) := by decide +kernel
theorem zd_LA_flow_21 : decode zb_LA_flow 21 = .ok (.iconst 0, 1) := by decide +kernel
theorem zd_LA_flow_22 : decode zb_LA_flow 22 = .ok (.ireturn, 1) := by decide +kernel
abbrev zb_LA_law : ByteArray := code
def zy_LA_law : MethodName := ⟨"PortTranslatorLaw", "law", "([I)Z"⟩
theorem zd_LA_law_0 : decode zb_LA_law 0 = .ok (.new 8, 3) := by decide +kernel
theorem zd_LA_law_3 : decode zb_LA_law 3 = .ok (.dup, 1) := by decide +kernel
theorem zd_LA_law_4 : decode zb_LA_law 4 = .ok (.invokespecial 31, 3) := by decide +kernel
theorem zd_LA_law_7 : decode zb_LA_law 7 = .ok (.astore_n 1, 1) := by decide +kernel
theorem zd_LA_law_8 : decode zb_LA_law 8 = .ok (.new 32, 3) := by decide +kernel
theorem zd_LA_law_11 : decode zb_LA_law 11 = .ok (.dup, 1) := by decide +kernel
theorem zd_LA_law_12 : decode zb_LA_law 12 = .ok (.invokespecial 34, 3) := by decide +kernel
theorem zd_LA_law_15 : decode zb_LA_law 15 = .ok (.astore_n 2, 1) := by decide +kernel
theorem zd_LA_law_16 : decode zb_LA_law 16 = .ok (.iconst 1, 1) := by decide +kernel
theorem zd_LA_law_17 : decode zb_LA_law 17 = .ok (.newarray .long, 2) := by decide +kernel
theorem zd_LA_law_19 : decode zb_LA_law 19 = .ok (.astore_n 3, 1) := by decide +kernel
theorem zd_LA_law_20 : decode zb_LA_law 20 = .ok (.iconst 0, 1) := by decide +kernel
theorem zd_LA_law_21 : decode zb_LA_law 21 = .ok (.istore 4, 2) := by decide +kernel
theorem zd_LA_law_23 : decode zb_LA_law 23 = .ok (.iload 4, 2) := by decide +kernel
theorem zd_LA_law_25 : decode zb_LA_law 25 = .ok (.aload_n 0, 1) := by decide +kernel
theorem zd_LA_law_26 : decode zb_LA_law 26 = .ok (.arraylength, 1) := by decide +kernel
theorem zd_LA_law_27 : decode zb_LA_law 27 = .ok (.bipush 6, 2) := by decide +kernel
theorem zd_LA_law_29 : decode zb_LA_law 29 = .ok (.isub, 1) := by decide +kernel
theorem zd_LA_law_30 : decode zb_LA_law 30 = .ok (.if_icmp .gt 604, 3) := by decide +kernel
theorem zd_LA_law_33 : decode zb_LA_law 33 = .ok (.aload_n 0, 1) := by decide +kernel
theorem zd_LA_law_34 : decode zb_LA_law 34 = .ok (.iload 4, 2) := by decide +kernel
theorem zd_LA_law_36 : decode zb_LA_law 36 = .ok (.iaload, 1) := by decide +kernel
theorem zd_LA_law_37 : decode zb_LA_law 37 = .ok (.bipush 15, 2) := by decide +kernel
theorem zd_LA_law_39 : decode zb_LA_law 39 = .ok (.iand, 1) := by decide +kernel
theorem zd_LA_law_40 : decode zb_LA_law 40 = .ok (.tableswitch 588 0 10 #[60, 129, 140, 181, 194, 250, 306, 426, 482, 495, 563], 60) := by decide +kernel
theorem zd_LA_law_100 : decode zb_LA_law 100 = .ok (.aload_n 1, 1) := by decide +kernel
theorem zd_LA_law_101 : decode zb_LA_law 101 = .ok (.aload_n 0, 1) := by decide +kernel
theorem zd_LA_law_102 : decode zb_LA_law 102 = .ok (.iload 4, 2) := by decide +kernel
theorem zd_LA_law_104 : decode zb_LA_law 104 = .ok (.iconst 1, 1) := by decide +kernel
theorem zd_LA_law_105 : decode zb_LA_law 105 = .ok (.iadd, 1) := by decide +kernel
theorem zd_LA_law_106 : decode zb_LA_law 106 = .ok (.iaload, 1) := by decide +kernel
theorem zd_LA_law_107 : decode zb_LA_law 107 = .ok (.aload_n 0, 1) := by decide +kernel
theorem zd_LA_law_108 : decode zb_LA_law 108 = .ok (.iload 4, 2) := by decide +kernel
theorem zd_LA_law_110 : decode zb_LA_law 110 = .ok (.iconst 2, 1) := by decide +kernel
theorem zd_LA_law_111 : decode zb_LA_law 111 = .ok (.iadd, 1) := by decide +kernel
theorem zd_LA_law_112 : decode zb_LA_law 112 = .ok (.iaload, 1) := by decide +kernel
theorem zd_LA_law_113 : decode zb_LA_law 113 = .ok (.i2l, 1) := by decide +kernel
theorem zd_LA_law_114 : decode zb_LA_law 114 = .ok (.bipush 32, 2) := by decide +kernel
theorem zd_LA_law_116 : decode zb_LA_law 116 = .ok (.lshl, 1) := by decide +kernel
theorem zd_LA_law_117 : decode zb_LA_law 117 = .ok (.aload_n 0, 1) := by decide +kernel
theorem zd_LA_law_118 : decode zb_LA_law 118 = .ok (.iload 4, 2) := by decide +kernel
theorem zd_LA_law_120 : decode zb_LA_law 120 = .ok (.iconst 3, 1) := by decide +kernel
theorem zd_LA_law_121 : decode zb_LA_law 121 = .ok (.iadd, 1) := by decide +kernel
theorem zd_LA_law_122 : decode zb_LA_law 122 = .ok (.iaload, 1) := by decide +kernel
theorem zd_LA_law_123 : decode zb_LA_law 123 = .ok (.i2l, 1) := by decide +kernel
theorem zd_LA_law_124 : decode zb_LA_law 124 = .ok (.ldc2_w 35, 3) := by decide +kernel
theorem zd_LA_law_127 : decode zb_LA_law 127 = .ok (.land, 1) := by decide +kernel
theorem zd_LA_law_128 : decode zb_LA_law 128 = .ok (.lor, 1) := by decide +kernel
theorem zd_LA_law_129 : decode zb_LA_law 129 = .ok (.invokevirtual 37, 3) := by decide +kernel
theorem zd_LA_law_132 : decode zb_LA_law 132 = .ok (.aload_n 2, 1) := by decide +kernel
theorem zd_LA_law_133 : decode zb_LA_law 133 = .ok (.aload_n 0, 1) := by decide +kernel
theorem zd_LA_law_134 : decode zb_LA_law 134 = .ok (.iload 4, 2) := by decide +kernel
theorem zd_LA_law_136 : decode zb_LA_law 136 = .ok (.iconst 1, 1) := by decide +kernel
theorem zd_LA_law_137 : decode zb_LA_law 137 = .ok (.iadd, 1) := by decide +kernel
theorem zd_LA_law_138 : decode zb_LA_law 138 = .ok (.iaload, 1) := by decide +kernel
theorem zd_LA_law_139 : decode zb_LA_law 139 = .ok (.aload_n 0, 1) := by decide +kernel
theorem zd_LA_law_140 : decode zb_LA_law 140 = .ok (.iload 4, 2) := by decide +kernel
theorem zd_LA_law_142 : decode zb_LA_law 142 = .ok (.iconst 2, 1) := by decide +kernel
theorem zd_LA_law_143 : decode zb_LA_law 143 = .ok (.iadd, 1) := by decide +kernel
theorem zd_LA_law_144 : decode zb_LA_law 144 = .ok (.iaload, 1) := by decide +kernel
theorem zd_LA_law_145 : decode zb_LA_law 145 = .ok (.i2l, 1) := by decide +kernel
theorem zd_LA_law_146 : decode zb_LA_law 146 = .ok (.bipush 32, 2) := by decide +kernel
theorem zd_LA_law_148 : decode zb_LA_law 148 = .ok (.lshl, 1) := by decide +kernel
theorem zd_LA_law_149 : decode zb_LA_law 149 = .ok (.aload_n 0, 1) := by decide +kernel
theorem zd_LA_law_150 : decode zb_LA_law 150 = .ok (.iload 4, 2) := by decide +kernel
theorem zd_LA_law_152 : decode zb_LA_law 152 = .ok (.iconst 3, 1) := by decide +kernel
theorem zd_LA_law_153 : decode zb_LA_law 153 = .ok (.iadd, 1) := by decide +kernel
theorem zd_LA_law_154 : decode zb_LA_law 154 = .ok (.iaload, 1) := by decide +kernel
theorem zd_LA_law_155 : decode zb_LA_law 155 = .ok (.i2l, 1) := by decide +kernel
theorem zd_LA_law_156 : decode zb_LA_law 156 = .ok (.ldc2_w 35, 3) := by decide +kernel
theorem zd_LA_law_159 : decode zb_LA_law 159 = .ok (.land, 1) := by decide +kernel
theorem zd_LA_law_160 : decode zb_LA_law 160 = .ok (.lor, 1) := by decide +kernel
theorem zd_LA_law_161 : decode zb_LA_law 161 = .ok (.invokevirtual 41, 3) := by decide +kernel
theorem zd_LA_law_164 : decode zb_LA_law 164 = .ok (.if_icmp .eq 464, 3) := by decide +kernel
theorem zd_LA_law_167 : decode zb_LA_law 167 = .ok (.iconst 0, 1) := by decide +kernel
theorem zd_LA_law_168 : decode zb_LA_law 168 = .ok (.ireturn, 1) := by decide +kernel
theorem zd_LA_law_169 : decode zb_LA_law 169 = .ok (.aload_n 1, 1) := by decide +kernel
theorem zd_LA_law_170 : decode zb_LA_law 170 = .ok (.invokevirtual 42, 3) := by decide +kernel
theorem zd_LA_law_173 : decode zb_LA_law 173 = .ok (.aload_n 2, 1) := by decide +kernel
theorem zd_LA_law_174 : decode zb_LA_law 174 = .ok (.invokevirtual 45, 3) := by decide +kernel
theorem zd_LA_law_177 : decode zb_LA_law 177 = .ok (.goto 451, 3) := by decide +kernel
theorem zd_LA_law_180 : decode zb_LA_law 180 = .ok (.aload_n 1, 1) := by decide +kernel
theorem zd_LA_law_181 : decode zb_LA_law 181 = .ok (.aload_n 0, 1) := by decide +kernel
theorem zd_LA_law_182 : decode zb_LA_law 182 = .ok (.iload 4, 2) := by decide +kernel
theorem zd_LA_law_184 : decode zb_LA_law 184 = .ok (.iconst 1, 1) := by decide +kernel
theorem zd_LA_law_185 : decode zb_LA_law 185 = .ok (.iadd, 1) := by decide +kernel
theorem zd_LA_law_186 : decode zb_LA_law 186 = .ok (.iaload, 1) := by decide +kernel
theorem zd_LA_law_187 : decode zb_LA_law 187 = .ok (.ifCond .eq 7, 3) := by decide +kernel
theorem zd_LA_law_190 : decode zb_LA_law 190 = .ok (.iconst 1, 1) := by decide +kernel
theorem zd_LA_law_191 : decode zb_LA_law 191 = .ok (.goto 4, 3) := by decide +kernel
theorem zd_LA_law_194 : decode zb_LA_law 194 = .ok (.iconst 0, 1) := by decide +kernel
theorem zd_LA_law_195 : decode zb_LA_law 195 = .ok (.invokevirtual 46, 3) := by decide +kernel
theorem zd_LA_law_198 : decode zb_LA_law 198 = .ok (.aload_n 2, 1) := by decide +kernel
theorem zd_LA_law_199 : decode zb_LA_law 199 = .ok (.aload_n 0, 1) := by decide +kernel
theorem zd_LA_law_200 : decode zb_LA_law 200 = .ok (.iload 4, 2) := by decide +kernel
theorem zd_LA_law_202 : decode zb_LA_law 202 = .ok (.iconst 1, 1) := by decide +kernel
theorem zd_LA_law_203 : decode zb_LA_law 203 = .ok (.iadd, 1) := by decide +kernel
theorem zd_LA_law_204 : decode zb_LA_law 204 = .ok (.iaload, 1) := by decide +kernel
theorem zd_LA_law_205 : decode zb_LA_law 205 = .ok (.ifCond .eq 7, 3) := by decide +kernel
theorem zd_LA_law_208 : decode zb_LA_law 208 = .ok (.iconst 1, 1) := by decide +kernel
theorem zd_LA_law_209 : decode zb_LA_law 209 = .ok (.goto 4, 3) := by decide +kernel
theorem zd_LA_law_212 : decode zb_LA_law 212 = .ok (.iconst 0, 1) := by decide +kernel
theorem zd_LA_law_213 : decode zb_LA_law 213 = .ok (.invokevirtual 50, 3) := by decide +kernel
theorem zd_LA_law_216 : decode zb_LA_law 216 = .ok (.if_icmp .eq 412, 3) := by decide +kernel
theorem zd_LA_law_219 : decode zb_LA_law 219 = .ok (.iconst 0, 1) := by decide +kernel
theorem zd_LA_law_220 : decode zb_LA_law 220 = .ok (.ireturn, 1) := by decide +kernel
theorem zd_LA_law_221 : decode zb_LA_law 221 = .ok (.aload_n 1, 1) := by decide +kernel
theorem zd_LA_law_222 : decode zb_LA_law 222 = .ok (.invokevirtual 51, 3) := by decide +kernel
theorem zd_LA_law_225 : decode zb_LA_law 225 = .ok (.aload_n 2, 1) := by decide +kernel
theorem zd_LA_law_226 : decode zb_LA_law 226 = .ok (.invokevirtual 55, 3) := by decide +kernel
theorem zd_LA_law_229 : decode zb_LA_law 229 = .ok (.if_icmp .eq 399, 3) := by decide +kernel
theorem zd_LA_law_232 : decode zb_LA_law 232 = .ok (.iconst 0, 1) := by decide +kernel
theorem zd_LA_law_233 : decode zb_LA_law 233 = .ok (.ireturn, 1) := by decide +kernel
theorem zd_LA_law_234 : decode zb_LA_law 234 = .ok (.aload_n 1, 1) := by decide +kernel
theorem zd_LA_law_235 : decode zb_LA_law 235 = .ok (.aload_n 0, 1) := by decide +kernel
theorem zd_LA_law_236 : decode zb_LA_law 236 = .ok (.iload 4, 2) := by decide +kernel
theorem zd_LA_law_238 : decode zb_LA_law 238 = .ok (.iconst 1, 1) := by decide +kernel
theorem zd_LA_law_239 : decode zb_LA_law 239 = .ok (.iadd, 1) := by decide +kernel
theorem zd_LA_law_240 : decode zb_LA_law 240 = .ok (.iaload, 1) := by decide +kernel
theorem zd_LA_law_241 : decode zb_LA_law 241 = .ok (.aload_n 3, 1) := by decide +kernel
theorem zd_LA_law_242 : decode zb_LA_law 242 = .ok (.invokestatic 56, 3) := by decide +kernel
theorem zd_LA_law_245 : decode zb_LA_law 245 = .ok (.istore 5, 2) := by decide +kernel
theorem zd_LA_law_247 : decode zb_LA_law 247 = .ok (.aload_n 2, 1) := by decide +kernel
theorem zd_LA_law_248 : decode zb_LA_law 248 = .ok (.aload_n 0, 1) := by decide +kernel
theorem zd_LA_law_249 : decode zb_LA_law 249 = .ok (.iload 4, 2) := by decide +kernel
theorem zd_LA_law_251 : decode zb_LA_law 251 = .ok (.iconst 1, 1) := by decide +kernel
theorem zd_LA_law_252 : decode zb_LA_law 252 = .ok (.iadd, 1) := by decide +kernel
theorem zd_LA_law_253 : decode zb_LA_law 253 = .ok (.iaload, 1) := by decide +kernel
theorem zd_LA_law_254 : decode zb_LA_law 254 = .ok (.invokevirtual 61, 3) := by decide +kernel
theorem zd_LA_law_257 : decode zb_LA_law 257 = .ok (.istore 6, 2) := by decide +kernel
theorem zd_LA_law_259 : decode zb_LA_law 259 = .ok (.aload_n 2, 1) := by decide +kernel
theorem zd_LA_law_260 : decode zb_LA_law 260 = .ok (.invokevirtual 62, 3) := by decide +kernel
theorem zd_LA_law_263 : decode zb_LA_law 263 = .ok (.iload 5, 2) := by decide +kernel
theorem zd_LA_law_265 : decode zb_LA_law 265 = .ok (.if_icmp .eq 5, 3) := by decide +kernel
theorem zd_LA_law_268 : decode zb_LA_law 268 = .ok (.iconst 0, 1) := by decide +kernel
theorem zd_LA_law_269 : decode zb_LA_law 269 = .ok (.ireturn, 1) := by decide +kernel
theorem zd_LA_law_270 : decode zb_LA_law 270 = .ok (.iload 5, 2) := by decide +kernel
theorem zd_LA_law_272 : decode zb_LA_law 272 = .ok (.ifCond .ne 15, 3) := by decide +kernel
theorem zd_LA_law_275 : decode zb_LA_law 275 = .ok (.aload_n 3, 1) := by decide +kernel
theorem zd_LA_law_276 : decode zb_LA_law 276 = .ok (.iconst 0, 1) := by decide +kernel
theorem zd_LA_law_277 : decode zb_LA_law 277 = .ok (.laload, 1) := by decide +kernel
theorem zd_LA_law_278 : decode zb_LA_law 278 = .ok (.iload 6, 2) := by decide +kernel
theorem zd_LA_law_280 : decode zb_LA_law 280 = .ok (.i2l, 1) := by decide +kernel
theorem zd_LA_law_281 : decode zb_LA_law 281 = .ok (.lcmp, 1) := by decide +kernel
theorem zd_LA_law_282 : decode zb_LA_law 282 = .ok (.ifCond .eq 5, 3) := by decide +kernel
theorem zd_LA_law_285 : decode zb_LA_law 285 = .ok (.iconst 0, 1) := by decide +kernel
theorem zd_LA_law_286 : decode zb_LA_law 286 = .ok (.ireturn, 1) := by decide +kernel
theorem zd_LA_law_287 : decode zb_LA_law 287 = .ok (.goto 341, 3) := by decide +kernel
theorem zd_LA_law_290 : decode zb_LA_law 290 = .ok (.aload_n 1, 1) := by decide +kernel
theorem zd_LA_law_291 : decode zb_LA_law 291 = .ok (.aload_n 0, 1) := by decide +kernel
theorem zd_LA_law_292 : decode zb_LA_law 292 = .ok (.iload 4, 2) := by decide +kernel
theorem zd_LA_law_294 : decode zb_LA_law 294 = .ok (.iconst 1, 1) := by decide +kernel
theorem zd_LA_law_295 : decode zb_LA_law 295 = .ok (.iadd, 1) := by decide +kernel
theorem zd_LA_law_296 : decode zb_LA_law 296 = .ok (.iaload, 1) := by decide +kernel
theorem zd_LA_law_297 : decode zb_LA_law 297 = .ok (.aload_n 3, 1) := by decide +kernel
theorem zd_LA_law_298 : decode zb_LA_law 298 = .ok (.invokestatic 65, 3) := by decide +kernel
theorem zd_LA_law_301 : decode zb_LA_law 301 = .ok (.istore 5, 2) := by decide +kernel
theorem zd_LA_law_303 : decode zb_LA_law 303 = .ok (.aload_n 2, 1) := by decide +kernel
theorem zd_LA_law_304 : decode zb_LA_law 304 = .ok (.aload_n 0, 1) := by decide +kernel
theorem zd_LA_law_305 : decode zb_LA_law 305 = .ok (.iload 4, 2) := by decide +kernel
theorem zd_LA_law_307 : decode zb_LA_law 307 = .ok (.iconst 1, 1) := by decide +kernel
theorem zd_LA_law_308 : decode zb_LA_law 308 = .ok (.iadd, 1) := by decide +kernel
theorem zd_LA_law_309 : decode zb_LA_law 309 = .ok (.iaload, 1) := by decide +kernel
theorem zd_LA_law_310 : decode zb_LA_law 310 = .ok (.invokevirtual 67, 3) := by decide +kernel
theorem zd_LA_law_313 : decode zb_LA_law 313 = .ok (.istore 6, 2) := by decide +kernel
theorem zd_LA_law_315 : decode zb_LA_law 315 = .ok (.aload_n 2, 1) := by decide +kernel
theorem zd_LA_law_316 : decode zb_LA_law 316 = .ok (.invokevirtual 62, 3) := by decide +kernel
theorem zd_LA_law_319 : decode zb_LA_law 319 = .ok (.iload 5, 2) := by decide +kernel
theorem zd_LA_law_321 : decode zb_LA_law 321 = .ok (.if_icmp .eq 5, 3) := by decide +kernel
theorem zd_LA_law_324 : decode zb_LA_law 324 = .ok (.iconst 0, 1) := by decide +kernel
theorem zd_LA_law_325 : decode zb_LA_law 325 = .ok (.ireturn, 1) := by decide +kernel
theorem zd_LA_law_326 : decode zb_LA_law 326 = .ok (.iload 5, 2) := by decide +kernel
theorem zd_LA_law_328 : decode zb_LA_law 328 = .ok (.ifCond .ne 15, 3) := by decide +kernel
theorem zd_LA_law_331 : decode zb_LA_law 331 = .ok (.aload_n 3, 1) := by decide +kernel
theorem zd_LA_law_332 : decode zb_LA_law 332 = .ok (.iconst 0, 1) := by decide +kernel
theorem zd_LA_law_333 : decode zb_LA_law 333 = .ok (.laload, 1) := by decide +kernel
theorem zd_LA_law_334 : decode zb_LA_law 334 = .ok (.iload 6, 2) := by decide +kernel
theorem zd_LA_law_336 : decode zb_LA_law 336 = .ok (.i2l, 1) := by decide +kernel
theorem zd_LA_law_337 : decode zb_LA_law 337 = .ok (.lcmp, 1) := by decide +kernel
theorem zd_LA_law_338 : decode zb_LA_law 338 = .ok (.ifCond .eq 5, 3) := by decide +kernel
theorem zd_LA_law_341 : decode zb_LA_law 341 = .ok (.iconst 0, 1) := by decide +kernel
theorem zd_LA_law_342 : decode zb_LA_law 342 = .ok (.ireturn, 1) := by decide +kernel
theorem zd_LA_law_343 : decode zb_LA_law 343 = .ok (.goto 285, 3) := by decide +kernel
theorem zd_LA_law_346 : decode zb_LA_law 346 = .ok (.aload_n 1, 1) := by decide +kernel
theorem zd_LA_law_347 : decode zb_LA_law 347 = .ok (.aload_n 0, 1) := by decide +kernel
theorem zd_LA_law_348 : decode zb_LA_law 348 = .ok (.iload 4, 2) := by decide +kernel
theorem zd_LA_law_350 : decode zb_LA_law 350 = .ok (.iconst 1, 1) := by decide +kernel
theorem zd_LA_law_351 : decode zb_LA_law 351 = .ok (.iadd, 1) := by decide +kernel
theorem zd_LA_law_352 : decode zb_LA_law 352 = .ok (.iaload, 1) := by decide +kernel
theorem zd_LA_law_353 : decode zb_LA_law 353 = .ok (.aload_n 0, 1) := by decide +kernel
theorem zd_LA_law_354 : decode zb_LA_law 354 = .ok (.iload 4, 2) := by decide +kernel
theorem zd_LA_law_356 : decode zb_LA_law 356 = .ok (.iconst 2, 1) := by decide +kernel
theorem zd_LA_law_357 : decode zb_LA_law 357 = .ok (.iadd, 1) := by decide +kernel
theorem zd_LA_law_358 : decode zb_LA_law 358 = .ok (.iaload, 1) := by decide +kernel
theorem zd_LA_law_359 : decode zb_LA_law 359 = .ok (.aload_n 0, 1) := by decide +kernel
theorem zd_LA_law_360 : decode zb_LA_law 360 = .ok (.iload 4, 2) := by decide +kernel
theorem zd_LA_law_362 : decode zb_LA_law 362 = .ok (.iconst 3, 1) := by decide +kernel
theorem zd_LA_law_363 : decode zb_LA_law 363 = .ok (.iadd, 1) := by decide +kernel
theorem zd_LA_law_364 : decode zb_LA_law 364 = .ok (.iaload, 1) := by decide +kernel
theorem zd_LA_law_365 : decode zb_LA_law 365 = .ok (.aload_n 0, 1) := by decide +kernel
theorem zd_LA_law_366 : decode zb_LA_law 366 = .ok (.iload 4, 2) := by decide +kernel
theorem zd_LA_law_368 : decode zb_LA_law 368 = .ok (.iconst 4, 1) := by decide +kernel
theorem zd_LA_law_369 : decode zb_LA_law 369 = .ok (.iadd, 1) := by decide +kernel
theorem zd_LA_law_370 : decode zb_LA_law 370 = .ok (.iaload, 1) := by decide +kernel
theorem zd_LA_law_371 : decode zb_LA_law 371 = .ok (.aload_n 0, 1) := by decide +kernel
theorem zd_LA_law_372 : decode zb_LA_law 372 = .ok (.iload 4, 2) := by decide +kernel
theorem zd_LA_law_374 : decode zb_LA_law 374 = .ok (.iconst 5, 1) := by decide +kernel
theorem zd_LA_law_375 : decode zb_LA_law 375 = .ok (.iadd, 1) := by decide +kernel
theorem zd_LA_law_376 : decode zb_LA_law 376 = .ok (.iaload, 1) := by decide +kernel
theorem zd_LA_law_377 : decode zb_LA_law 377 = .ok (.ifCond .eq 7, 3) := by decide +kernel
theorem zd_LA_law_380 : decode zb_LA_law 380 = .ok (.iconst 1, 1) := by decide +kernel
theorem zd_LA_law_381 : decode zb_LA_law 381 = .ok (.goto 4, 3) := by decide +kernel
theorem zd_LA_law_384 : decode zb_LA_law 384 = .ok (.iconst 0, 1) := by decide +kernel
theorem zd_LA_law_385 : decode zb_LA_law 385 = .ok (.aload_n 3, 1) := by decide +kernel
theorem zd_LA_law_386 : decode zb_LA_law 386 = .ok (.invokestatic 68, 3) := by decide +kernel
theorem zd_LA_law_389 : decode zb_LA_law 389 = .ok (.istore 5, 2) := by decide +kernel
theorem zd_LA_law_391 : decode zb_LA_law 391 = .ok (.aload_n 2, 1) := by decide +kernel
theorem zd_LA_law_392 : decode zb_LA_law 392 = .ok (.aload_n 0, 1) := by decide +kernel
theorem zd_LA_law_393 : decode zb_LA_law 393 = .ok (.iload 4, 2) := by decide +kernel
theorem zd_LA_law_395 : decode zb_LA_law 395 = .ok (.iconst 1, 1) := by decide +kernel
theorem zd_LA_law_396 : decode zb_LA_law 396 = .ok (.iadd, 1) := by decide +kernel
theorem zd_LA_law_397 : decode zb_LA_law 397 = .ok (.iaload, 1) := by decide +kernel
theorem zd_LA_law_398 : decode zb_LA_law 398 = .ok (.aload_n 0, 1) := by decide +kernel
theorem zd_LA_law_399 : decode zb_LA_law 399 = .ok (.iload 4, 2) := by decide +kernel
theorem zd_LA_law_401 : decode zb_LA_law 401 = .ok (.iconst 2, 1) := by decide +kernel
theorem zd_LA_law_402 : decode zb_LA_law 402 = .ok (.iadd, 1) := by decide +kernel
theorem zd_LA_law_403 : decode zb_LA_law 403 = .ok (.iaload, 1) := by decide +kernel
theorem zd_LA_law_404 : decode zb_LA_law 404 = .ok (.aload_n 0, 1) := by decide +kernel
theorem zd_LA_law_405 : decode zb_LA_law 405 = .ok (.iload 4, 2) := by decide +kernel
theorem zd_LA_law_407 : decode zb_LA_law 407 = .ok (.iconst 3, 1) := by decide +kernel
theorem zd_LA_law_408 : decode zb_LA_law 408 = .ok (.iadd, 1) := by decide +kernel
theorem zd_LA_law_409 : decode zb_LA_law 409 = .ok (.iaload, 1) := by decide +kernel
theorem zd_LA_law_410 : decode zb_LA_law 410 = .ok (.aload_n 0, 1) := by decide +kernel
theorem zd_LA_law_411 : decode zb_LA_law 411 = .ok (.iload 4, 2) := by decide +kernel
theorem zd_LA_law_413 : decode zb_LA_law 413 = .ok (.iconst 4, 1) := by decide +kernel
theorem zd_LA_law_414 : decode zb_LA_law 414 = .ok (.iadd, 1) := by decide +kernel
theorem zd_LA_law_415 : decode zb_LA_law 415 = .ok (.iaload, 1) := by decide +kernel
theorem zd_LA_law_416 : decode zb_LA_law 416 = .ok (.aload_n 0, 1) := by decide +kernel
theorem zd_LA_law_417 : decode zb_LA_law 417 = .ok (.iload 4, 2) := by decide +kernel
theorem zd_LA_law_419 : decode zb_LA_law 419 = .ok (.iconst 5, 1) := by decide +kernel
theorem zd_LA_law_420 : decode zb_LA_law 420 = .ok (.iadd, 1) := by decide +kernel
theorem zd_LA_law_421 : decode zb_LA_law 421 = .ok (.iaload, 1) := by decide +kernel
theorem zd_LA_law_422 : decode zb_LA_law 422 = .ok (.ifCond .eq 7, 3) := by decide +kernel
theorem zd_LA_law_425 : decode zb_LA_law 425 = .ok (.iconst 1, 1) := by decide +kernel
theorem zd_LA_law_426 : decode zb_LA_law 426 = .ok (.goto 4, 3) := by decide +kernel
theorem zd_LA_law_429 : decode zb_LA_law 429 = .ok (.iconst 0, 1) := by decide +kernel
theorem zd_LA_law_430 : decode zb_LA_law 430 = .ok (.invokevirtual 71, 3) := by decide +kernel
theorem zd_LA_law_433 : decode zb_LA_law 433 = .ok (.istore 6, 2) := by decide +kernel
theorem zd_LA_law_435 : decode zb_LA_law 435 = .ok (.aload_n 2, 1) := by decide +kernel
theorem zd_LA_law_436 : decode zb_LA_law 436 = .ok (.invokevirtual 62, 3) := by decide +kernel
theorem zd_LA_law_439 : decode zb_LA_law 439 = .ok (.iload 5, 2) := by decide +kernel
theorem zd_LA_law_441 : decode zb_LA_law 441 = .ok (.if_icmp .eq 5, 3) := by decide +kernel
theorem zd_LA_law_444 : decode zb_LA_law 444 = .ok (.iconst 0, 1) := by decide +kernel
theorem zd_LA_law_445 : decode zb_LA_law 445 = .ok (.ireturn, 1) := by decide +kernel
theorem zd_LA_law_446 : decode zb_LA_law 446 = .ok (.iload 5, 2) := by decide +kernel
theorem zd_LA_law_448 : decode zb_LA_law 448 = .ok (.ifCond .ne 15, 3) := by decide +kernel
theorem zd_LA_law_451 : decode zb_LA_law 451 = .ok (.aload_n 3, 1) := by decide +kernel
theorem zd_LA_law_452 : decode zb_LA_law 452 = .ok (.iconst 0, 1) := by decide +kernel
theorem zd_LA_law_453 : decode zb_LA_law 453 = .ok (.laload, 1) := by decide +kernel
theorem zd_LA_law_454 : decode zb_LA_law 454 = .ok (.iload 6, 2) := by decide +kernel
theorem zd_LA_law_456 : decode zb_LA_law 456 = .ok (.i2l, 1) := by decide +kernel
theorem zd_LA_law_457 : decode zb_LA_law 457 = .ok (.lcmp, 1) := by decide +kernel
theorem zd_LA_law_458 : decode zb_LA_law 458 = .ok (.ifCond .eq 5, 3) := by decide +kernel
theorem zd_LA_law_461 : decode zb_LA_law 461 = .ok (.iconst 0, 1) := by decide +kernel
theorem zd_LA_law_462 : decode zb_LA_law 462 = .ok (.ireturn, 1) := by decide +kernel
theorem zd_LA_law_463 : decode zb_LA_law 463 = .ok (.goto 165, 3) := by decide +kernel
theorem zd_LA_law_466 : decode zb_LA_law 466 = .ok (.aload_n 1, 1) := by decide +kernel
theorem zd_LA_law_467 : decode zb_LA_law 467 = .ok (.aload_n 0, 1) := by decide +kernel
theorem zd_LA_law_468 : decode zb_LA_law 468 = .ok (.iload 4, 2) := by decide +kernel
theorem zd_LA_law_470 : decode zb_LA_law 470 = .ok (.iconst 1, 1) := by decide +kernel
theorem zd_LA_law_471 : decode zb_LA_law 471 = .ok (.iadd, 1) := by decide +kernel
theorem zd_LA_law_472 : decode zb_LA_law 472 = .ok (.iaload, 1) := by decide +kernel
theorem zd_LA_law_473 : decode zb_LA_law 473 = .ok (.aload_n 3, 1) := by decide +kernel
theorem zd_LA_law_474 : decode zb_LA_law 474 = .ok (.invokestatic 72, 3) := by decide +kernel
theorem zd_LA_law_477 : decode zb_LA_law 477 = .ok (.istore 5, 2) := by decide +kernel
theorem zd_LA_law_479 : decode zb_LA_law 479 = .ok (.aload_n 2, 1) := by decide +kernel
theorem zd_LA_law_480 : decode zb_LA_law 480 = .ok (.aload_n 0, 1) := by decide +kernel
theorem zd_LA_law_481 : decode zb_LA_law 481 = .ok (.iload 4, 2) := by decide +kernel
theorem zd_LA_law_483 : decode zb_LA_law 483 = .ok (.iconst 1, 1) := by decide +kernel
theorem zd_LA_law_484 : decode zb_LA_law 484 = .ok (.iadd, 1) := by decide +kernel
theorem zd_LA_law_485 : decode zb_LA_law 485 = .ok (.iaload, 1) := by decide +kernel
theorem zd_LA_law_486 : decode zb_LA_law 486 = .ok (.invokevirtual 74, 3) := by decide +kernel
theorem zd_LA_law_489 : decode zb_LA_law 489 = .ok (.istore 6, 2) := by decide +kernel
theorem zd_LA_law_491 : decode zb_LA_law 491 = .ok (.aload_n 2, 1) := by decide +kernel
theorem zd_LA_law_492 : decode zb_LA_law 492 = .ok (.invokevirtual 62, 3) := by decide +kernel
theorem zd_LA_law_495 : decode zb_LA_law 495 = .ok (.iload 5, 2) := by decide +kernel
theorem zd_LA_law_497 : decode zb_LA_law 497 = .ok (.if_icmp .eq 5, 3) := by decide +kernel
theorem zd_LA_law_500 : decode zb_LA_law 500 = .ok (.iconst 0, 1) := by decide +kernel
theorem zd_LA_law_501 : decode zb_LA_law 501 = .ok (.ireturn, 1) := by decide +kernel
theorem zd_LA_law_502 : decode zb_LA_law 502 = .ok (.iload 5, 2) := by decide +kernel
theorem zd_LA_law_504 : decode zb_LA_law 504 = .ok (.ifCond .ne 15, 3) := by decide +kernel
theorem zd_LA_law_507 : decode zb_LA_law 507 = .ok (.aload_n 3, 1) := by decide +kernel
theorem zd_LA_law_508 : decode zb_LA_law 508 = .ok (.iconst 0, 1) := by decide +kernel
theorem zd_LA_law_509 : decode zb_LA_law 509 = .ok (.laload, 1) := by decide +kernel
theorem zd_LA_law_510 : decode zb_LA_law 510 = .ok (.iload 6, 2) := by decide +kernel
theorem zd_LA_law_512 : decode zb_LA_law 512 = .ok (.i2l, 1) := by decide +kernel
theorem zd_LA_law_513 : decode zb_LA_law 513 = .ok (.lcmp, 1) := by decide +kernel
theorem zd_LA_law_514 : decode zb_LA_law 514 = .ok (.ifCond .eq 5, 3) := by decide +kernel
theorem zd_LA_law_517 : decode zb_LA_law 517 = .ok (.iconst 0, 1) := by decide +kernel
theorem zd_LA_law_518 : decode zb_LA_law 518 = .ok (.ireturn, 1) := by decide +kernel
theorem zd_LA_law_519 : decode zb_LA_law 519 = .ok (.goto 109, 3) := by decide +kernel
theorem zd_LA_law_522 : decode zb_LA_law 522 = .ok (.aload_n 1, 1) := by decide +kernel
theorem zd_LA_law_523 : decode zb_LA_law 523 = .ok (.invokevirtual 75, 3) := by decide +kernel
theorem zd_LA_law_526 : decode zb_LA_law 526 = .ok (.aload_n 2, 1) := by decide +kernel
theorem zd_LA_law_527 : decode zb_LA_law 527 = .ok (.invokevirtual 78, 3) := by decide +kernel
theorem zd_LA_law_530 : decode zb_LA_law 530 = .ok (.if_icmp .eq 98, 3) := by decide +kernel
theorem zd_LA_law_533 : decode zb_LA_law 533 = .ok (.iconst 0, 1) := by decide +kernel
theorem zd_LA_law_534 : decode zb_LA_law 534 = .ok (.ireturn, 1) := by decide +kernel
theorem zd_LA_law_535 : decode zb_LA_law 535 = .ok (.aload_n 1, 1) := by decide +kernel
theorem zd_LA_law_536 : decode zb_LA_law 536 = .ok (.aload_n 0, 1) := by decide +kernel
theorem zd_LA_law_537 : decode zb_LA_law 537 = .ok (.iload 4, 2) := by decide +kernel
theorem zd_LA_law_539 : decode zb_LA_law 539 = .ok (.iconst 1, 1) := by decide +kernel
theorem zd_LA_law_540 : decode zb_LA_law 540 = .ok (.iadd, 1) := by decide +kernel
theorem zd_LA_law_541 : decode zb_LA_law 541 = .ok (.iaload, 1) := by decide +kernel
theorem zd_LA_law_542 : decode zb_LA_law 542 = .ok (.aload_n 0, 1) := by decide +kernel
theorem zd_LA_law_543 : decode zb_LA_law 543 = .ok (.iload 4, 2) := by decide +kernel
theorem zd_LA_law_545 : decode zb_LA_law 545 = .ok (.iconst 2, 1) := by decide +kernel
theorem zd_LA_law_546 : decode zb_LA_law 546 = .ok (.iadd, 1) := by decide +kernel
theorem zd_LA_law_547 : decode zb_LA_law 547 = .ok (.iaload, 1) := by decide +kernel
theorem zd_LA_law_548 : decode zb_LA_law 548 = .ok (.aload_n 3, 1) := by decide +kernel
theorem zd_LA_law_549 : decode zb_LA_law 549 = .ok (.invokestatic 79, 3) := by decide +kernel
theorem zd_LA_law_552 : decode zb_LA_law 552 = .ok (.istore 5, 2) := by decide +kernel
theorem zd_LA_law_554 : decode zb_LA_law 554 = .ok (.aload_n 2, 1) := by decide +kernel
theorem zd_LA_law_555 : decode zb_LA_law 555 = .ok (.aload_n 0, 1) := by decide +kernel
theorem zd_LA_law_556 : decode zb_LA_law 556 = .ok (.iload 4, 2) := by decide +kernel
theorem zd_LA_law_558 : decode zb_LA_law 558 = .ok (.iconst 1, 1) := by decide +kernel
theorem zd_LA_law_559 : decode zb_LA_law 559 = .ok (.iadd, 1) := by decide +kernel
theorem zd_LA_law_560 : decode zb_LA_law 560 = .ok (.iaload, 1) := by decide +kernel
theorem zd_LA_law_561 : decode zb_LA_law 561 = .ok (.aload_n 0, 1) := by decide +kernel
theorem zd_LA_law_562 : decode zb_LA_law 562 = .ok (.iload 4, 2) := by decide +kernel
theorem zd_LA_law_564 : decode zb_LA_law 564 = .ok (.iconst 2, 1) := by decide +kernel
theorem zd_LA_law_565 : decode zb_LA_law 565 = .ok (.iadd, 1) := by decide +kernel
theorem zd_LA_law_566 : decode zb_LA_law 566 = .ok (.iaload, 1) := by decide +kernel
theorem zd_LA_law_567 : decode zb_LA_law 567 = .ok (.invokevirtual 82, 3) := by decide +kernel
theorem zd_LA_law_570 : decode zb_LA_law 570 = .ok (.istore 6, 2) := by decide +kernel
theorem zd_LA_law_572 : decode zb_LA_law 572 = .ok (.aload_n 2, 1) := by decide +kernel
theorem zd_LA_law_573 : decode zb_LA_law 573 = .ok (.invokevirtual 62, 3) := by decide +kernel
theorem zd_LA_law_576 : decode zb_LA_law 576 = .ok (.iload 5, 2) := by decide +kernel
theorem zd_LA_law_578 : decode zb_LA_law 578 = .ok (.if_icmp .eq 5, 3) := by decide +kernel
theorem zd_LA_law_581 : decode zb_LA_law 581 = .ok (.iconst 0, 1) := by decide +kernel
theorem zd_LA_law_582 : decode zb_LA_law 582 = .ok (.ireturn, 1) := by decide +kernel
theorem zd_LA_law_583 : decode zb_LA_law 583 = .ok (.iload 5, 2) := by decide +kernel
theorem zd_LA_law_585 : decode zb_LA_law 585 = .ok (.ifCond .ne 15, 3) := by decide +kernel
theorem zd_LA_law_588 : decode zb_LA_law 588 = .ok (.aload_n 3, 1) := by decide +kernel
theorem zd_LA_law_589 : decode zb_LA_law 589 = .ok (.iconst 0, 1) := by decide +kernel
theorem zd_LA_law_590 : decode zb_LA_law 590 = .ok (.laload, 1) := by decide +kernel
theorem zd_LA_law_591 : decode zb_LA_law 591 = .ok (.iload 6, 2) := by decide +kernel
theorem zd_LA_law_593 : decode zb_LA_law 593 = .ok (.i2l, 1) := by decide +kernel
theorem zd_LA_law_594 : decode zb_LA_law 594 = .ok (.lcmp, 1) := by decide +kernel
theorem zd_LA_law_595 : decode zb_LA_law 595 = .ok (.ifCond .eq 5, 3) := by decide +kernel
theorem zd_LA_law_598 : decode zb_LA_law 598 = .ok (.iconst 0, 1) := by decide +kernel
theorem zd_LA_law_599 : decode zb_LA_law 599 = .ok (.ireturn, 1) := by decide +kernel
theorem zd_LA_law_600 : decode zb_LA_law 600 = .ok (.goto 28, 3) := by decide +kernel
theorem zd_LA_law_603 : decode zb_LA_law 603 = .ok (.aload_n 1, 1) := by decide +kernel
theorem zd_LA_law_604 : decode zb_LA_law 604 = .ok (.aload_n 0, 1) := by decide +kernel
theorem zd_LA_law_605 : decode zb_LA_law 605 = .ok (.iload 4, 2) := by decide +kernel
theorem zd_LA_law_607 : decode zb_LA_law 607 = .ok (.iconst 1, 1) := by decide +kernel
theorem zd_LA_law_608 : decode zb_LA_law 608 = .ok (.iadd, 1) := by decide +kernel
theorem zd_LA_law_609 : decode zb_LA_law 609 = .ok (.iaload, 1) := by decide +kernel
theorem zd_LA_law_610 : decode zb_LA_law 610 = .ok (.invokevirtual 83, 3) := by decide +kernel
theorem zd_LA_law_613 : decode zb_LA_law 613 = .ok (.aload_n 2, 1) := by decide +kernel
theorem zd_LA_law_614 : decode zb_LA_law 614 = .ok (.aload_n 0, 1) := by decide +kernel
theorem zd_LA_law_615 : decode zb_LA_law 615 = .ok (.iload 4, 2) := by decide +kernel
theorem zd_LA_law_617 : decode zb_LA_law 617 = .ok (.iconst 1, 1) := by decide +kernel
theorem zd_LA_law_618 : decode zb_LA_law 618 = .ok (.iadd, 1) := by decide +kernel
theorem zd_LA_law_619 : decode zb_LA_law 619 = .ok (.iaload, 1) := by decide +kernel
theorem zd_LA_law_620 : decode zb_LA_law 620 = .ok (.invokevirtual 86, 3) := by decide +kernel
theorem zd_LA_law_623 : decode zb_LA_law 623 = .ok (.if_icmp .eq 5, 3) := by decide +kernel
theorem zd_LA_law_626 : decode zb_LA_law 626 = .ok (.iconst 0, 1) := by decide +kernel
theorem zd_LA_law_627 : decode zb_LA_law 627 = .ok (.ireturn, 1) := by decide +kernel
theorem zd_LA_law_628 : decode zb_LA_law 628 = .ok (.iinc 4 6, 3) := by decide +kernel
theorem zd_LA_law_631 : decode zb_LA_law 631 = .ok (.goto (-608), 3) := by decide +kernel
theorem zd_LA_law_634 : decode zb_LA_law 634 = .ok (.iconst 1, 1) := by decide +kernel
theorem zd_LA_law_635 : decode zb_LA_law 635 = .ok (.ireturn, 1) := by decide +kernel
