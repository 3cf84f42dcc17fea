theorem dX8_lineNow_92 : decode cX8_lineNow 92 = .ok (.bipush 101, 2) := dc16 bqX8_lineNow_72 20 rfl rfl rfl
theorem dX8_lineNow_94 : decode cX8_lineNow 94 = .ok (.bipush 97, 2) := dc16 bqX8_lineNow_72 22 rfl rfl rfl
theorem bqX8_lineNow_96 : hs_bs cX8_lineNow 96 [182, 0, 94, 153, 0, 19, 42, 16, 108, 16, 101, 16, 114, 3, 182, 0, 98, 153, 0, 5, 6, 172, 42] := hs_bs_of _ _ _ (by decide +kernel)
theorem dX8_lineNow_96 : decode cX8_lineNow 96 = .ok (.invokevirtual 94, 3) := dc182 bqX8_lineNow_96 0 rfl rfl rfl
theorem dX8_lineNow_99 : decode cX8_lineNow 99 = .ok (.ifCond .eq 19, 3) := dc153 bqX8_lineNow_96 3 rfl rfl rfl
theorem dX8_lineNow_102 : decode cX8_lineNow 102 = .ok (.aload_n 0, 1) := dc42 bqX8_lineNow_96 6 rfl rfl
theorem dX8_lineNow_103 : decode cX8_lineNow 103 = .ok (.bipush 108, 2) := dc16 bqX8_lineNow_96 7 rfl rfl rfl
theorem dX8_lineNow_105 : decode cX8_lineNow 105 = .ok (.bipush 101, 2) := dc16 bqX8_lineNow_96 9 rfl rfl rfl
theorem dX8_lineNow_107 : decode cX8_lineNow 107 = .ok (.bipush 114, 2) := dc16 bqX8_lineNow_96 11 rfl rfl rfl
theorem dX8_lineNow_109 : decode cX8_lineNow 109 = .ok (.iconst 0, 1) := dc3 bqX8_lineNow_96 13 rfl rfl
theorem dX8_lineNow_110 : decode cX8_lineNow 110 = .ok (.invokevirtual 98, 3) := dc182 bqX8_lineNow_96 14 rfl rfl rfl
theorem dX8_lineNow_113 : decode cX8_lineNow 113 = .ok (.ifCond .eq 5, 3) := dc153 bqX8_lineNow_96 17 rfl rfl rfl
theorem dX8_lineNow_116 : decode cX8_lineNow 116 = .ok (.iconst 3, 1) := dc6 bqX8_lineNow_96 20 rfl rfl
theorem dX8_lineNow_117 : decode cX8_lineNow 117 = .ok (.ireturn, 1) := dc172 bqX8_lineNow_96 21 rfl rfl
theorem dX8_lineNow_118 : decode cX8_lineNow 118 = .ok (.aload_n 0, 1) := dc42 bqX8_lineNow_96 22 rfl rfl
theorem bqX8_lineNow_119 : hs_bs cX8_lineNow 119 [16, 7, 16, 108, 16, 105, 16, 103, 182, 0, 94, 153, 0, 20, 42, 16, 104, 16, 116, 16, 101, 16, 114] := hs_bs_of _ _ _ (by decide +kernel)
theorem dX8_lineNow_119 : decode cX8_lineNow 119 = .ok (.bipush 7, 2) := dc16 bqX8_lineNow_119 0 rfl rfl rfl
theorem dX8_lineNow_121 : decode cX8_lineNow 121 = .ok (.bipush 108, 2) := dc16 bqX8_lineNow_119 2 rfl rfl rfl
theorem dX8_lineNow_123 : decode cX8_lineNow 123 = .ok (.bipush 105, 2) := dc16 bqX8_lineNow_119 4 rfl rfl rfl
theorem dX8_lineNow_125 : decode cX8_lineNow 125 = .ok (.bipush 103, 2) := dc16 bqX8_lineNow_119 6 rfl rfl rfl
theorem dX8_lineNow_127 : decode cX8_lineNow 127 = .ok (.invokevirtual 94, 3) := dc182 bqX8_lineNow_119 8 rfl rfl rfl
theorem dX8_lineNow_130 : decode cX8_lineNow 130 = .ok (.ifCond .eq 20, 3) := dc153 bqX8_lineNow_119 11 rfl rfl rfl
theorem dX8_lineNow_133 : decode cX8_lineNow 133 = .ok (.aload_n 0, 1) := dc42 bqX8_lineNow_119 14 rfl rfl
theorem dX8_lineNow_134 : decode cX8_lineNow 134 = .ok (.bipush 104, 2) := dc16 bqX8_lineNow_119 15 rfl rfl rfl
theorem dX8_lineNow_136 : decode cX8_lineNow 136 = .ok (.bipush 116, 2) := dc16 bqX8_lineNow_119 17 rfl rfl rfl
theorem dX8_lineNow_138 : decode cX8_lineNow 138 = .ok (.bipush 101, 2) := dc16 bqX8_lineNow_119 19 rfl rfl rfl
theorem dX8_lineNow_140 : decode cX8_lineNow 140 = .ok (.bipush 114, 2) := dc16 bqX8_lineNow_119 21 rfl rfl rfl
theorem bqX8_lineNow_142 : hs_bs cX8_lineNow 142 [182, 0, 98, 153, 0, 5, 7, 172, 42, 8, 16, 116, 16, 104, 16, 105, 182, 0, 94, 153, 0, 18, 42] := hs_bs_of _ _ _ (by decide +kernel)
theorem dX8_lineNow_142 : decode cX8_lineNow 142 = .ok (.invokevirtual 98, 3) := dc182 bqX8_lineNow_142 0 rfl rfl rfl
theorem dX8_lineNow_145 : decode cX8_lineNow 145 = .ok (.ifCond .eq 5, 3) := dc153 bqX8_lineNow_142 3 rfl rfl rfl
theorem dX8_lineNow_148 : decode cX8_lineNow 148 = .ok (.iconst 4, 1) := dc7 bqX8_lineNow_142 6 rfl rfl
theorem dX8_lineNow_149 : decode cX8_lineNow 149 = .ok (.ireturn, 1) := dc172 bqX8_lineNow_142 7 rfl rfl
theorem dX8_lineNow_150 : decode cX8_lineNow 150 = .ok (.aload_n 0, 1) := dc42 bqX8_lineNow_142 8 rfl rfl
theorem dX8_lineNow_151 : decode cX8_lineNow 151 = .ok (.iconst 5, 1) := dc8 bqX8_lineNow_142 9 rfl rfl
theorem dX8_lineNow_152 : decode cX8_lineNow 152 = .ok (.bipush 116, 2) := dc16 bqX8_lineNow_142 10 rfl rfl rfl
theorem dX8_lineNow_154 : decode cX8_lineNow 154 = .ok (.bipush 104, 2) := dc16 bqX8_lineNow_142 12 rfl rfl rfl
theorem dX8_lineNow_156 : decode cX8_lineNow 156 = .ok (.bipush 105, 2) := dc16 bqX8_lineNow_142 14 rfl rfl rfl
theorem dX8_lineNow_158 : decode cX8_lineNow 158 = .ok (.invokevirtual 94, 3) := dc182 bqX8_lineNow_142 16 rfl rfl rfl
theorem dX8_lineNow_161 : decode cX8_lineNow 161 = .ok (.ifCond .eq 18, 3) := dc153 bqX8_lineNow_142 19 rfl rfl rfl
theorem dX8_lineNow_164 : decode cX8_lineNow 164 = .ok (.aload_n 0, 1) := dc42 bqX8_lineNow_142 22 rfl rfl
theorem bqX8_lineNow_165 : hs_bs cX8_lineNow 165 [16, 110, 16, 103, 3, 3, 182, 0, 98, 153, 0, 5, 8, 172, 42, 7, 16, 115, 16, 108, 16, 105] := hs_bs_of _ _ _ (by decide +kernel)
theorem dX8_lineNow_165 : decode cX8_lineNow 165 = .ok (.bipush 110, 2) := dc16 bqX8_lineNow_165 0 rfl rfl rfl
theorem dX8_lineNow_167 : decode cX8_lineNow 167 = .ok (.bipush 103, 2) := dc16 bqX8_lineNow_165 2 rfl rfl rfl
theorem dX8_lineNow_169 : decode cX8_lineNow 169 = .ok (.iconst 0, 1) := dc3 bqX8_lineNow_165 4 rfl rfl
theorem dX8_lineNow_170 : decode cX8_lineNow 170 = .ok (.iconst 0, 1) := dc3 bqX8_lineNow_165 5 rfl rfl
theorem dX8_lineNow_171 : decode cX8_lineNow 171 = .ok (.invokevirtual 98, 3) := dc182 bqX8_lineNow_165 6 rfl rfl rfl
theorem dX8_lineNow_174 : decode cX8_lineNow 174 = .ok (.ifCond .eq 5, 3) := dc153 bqX8_lineNow_165 9 rfl rfl rfl
theorem dX8_lineNow_177 : decode cX8_lineNow 177 = .ok (.iconst 5, 1) := dc8 bqX8_lineNow_165 12 rfl rfl
theorem dX8_lineNow_178 : decode cX8_lineNow 178 = .ok (.ireturn, 1) := dc172 bqX8_lineNow_165 13 rfl rfl
theorem dX8_lineNow_179 : decode cX8_lineNow 179 = .ok (.aload_n 0, 1) := dc42 bqX8_lineNow_165 14 rfl rfl
theorem dX8_lineNow_180 : decode cX8_lineNow 180 = .ok (.iconst 4, 1) := dc7 bqX8_lineNow_165 15 rfl rfl
theorem dX8_lineNow_181 : decode cX8_lineNow 181 = .ok (.bipush 115, 2) := dc16 bqX8_lineNow_165 16 rfl rfl rfl
theorem dX8_lineNow_183 : decode cX8_lineNow 183 = .ok (.bipush 108, 2) := dc16 bqX8_lineNow_165 18 rfl rfl rfl
theorem dX8_lineNow_185 : decode cX8_lineNow 185 = .ok (.bipush 105, 2) := dc16 bqX8_lineNow_165 20 rfl rfl rfl
theorem bqX8_lineNow_187 : hs_bs cX8_lineNow 187 [182, 0, 94, 153, 0, 18, 42, 16, 112, 3, 3, 3, 182, 0, 98, 153, 0, 6, 16, 6, 172, 42, 7] := hs_bs_of _ _ _ (by decide +kernel)
theorem dX8_lineNow_187 : decode cX8_lineNow 187 = .ok (.invokevirtual 94, 3) := dc182 bqX8_lineNow_187 0 rfl rfl rfl
theorem dX8_lineNow_190 : decode cX8_lineNow 190 = .ok (.ifCond .eq 18, 3) := dc153 bqX8_lineNow_187 3 rfl rfl rfl
theorem dX8_lineNow_193 : decode cX8_lineNow 193 = .ok (.aload_n 0, 1) := dc42 bqX8_lineNow_187 6 rfl rfl
theorem dX8_lineNow_194 : decode cX8_lineNow 194 = .ok (.bipush 112, 2) := dc16 bqX8_lineNow_187 7 rfl rfl rfl
theorem dX8_lineNow_196 : decode cX8_lineNow 196 = .ok (.iconst 0, 1) := dc3 bqX8_lineNow_187 9 rfl rfl
theorem dX8_lineNow_197 : decode cX8_lineNow 197 = .ok (.iconst 0, 1) := dc3 bqX8_lineNow_187 10 rfl rfl
theorem dX8_lineNow_198 : decode cX8_lineNow 198 = .ok (.iconst 0, 1) := dc3 bqX8_lineNow_187 11 rfl rfl
theorem dX8_lineNow_199 : decode cX8_lineNow 199 = .ok (.invokevirtual 98, 3) := dc182 bqX8_lineNow_187 12 rfl rfl rfl
theorem dX8_lineNow_202 : decode cX8_lineNow 202 = .ok (.ifCond .eq 6, 3) := dc153 bqX8_lineNow_187 15 rfl rfl rfl
theorem dX8_lineNow_205 : decode cX8_lineNow 205 = .ok (.bipush 6, 2) := dc16 bqX8_lineNow_187 18 rfl rfl rfl
theorem dX8_lineNow_207 : decode cX8_lineNow 207 = .ok (.ireturn, 1) := dc172 bqX8_lineNow_187 20 rfl rfl
theorem dX8_lineNow_208 : decode cX8_lineNow 208 = .ok (.aload_n 0, 1) := dc42 bqX8_lineNow_187 21 rfl rfl
theorem dX8_lineNow_209 : decode cX8_lineNow 209 = .ok (.iconst 4, 1) := dc7 bqX8_lineNow_187 22 rfl rfl
theorem bqX8_lineNow_210 : hs_bs cX8_lineNow 210 [16, 102, 16, 105, 16, 110, 182, 0, 94, 153, 0, 20, 42, 16, 101, 3, 3, 3, 182, 0, 98, 153, 0, 8] := hs_bs_of _ _ _ (by decide +kernel)
theorem dX8_lineNow_210 : decode cX8_lineNow 210 = .ok (.bipush 102, 2) := dc16 bqX8_lineNow_210 0 rfl rfl rfl
theorem dX8_lineNow_212 : decode cX8_lineNow 212 = .ok (.bipush 105, 2) := dc16 bqX8_lineNow_210 2 rfl rfl rfl
theorem dX8_lineNow_214 : decode cX8_lineNow 214 = .ok (.bipush 110, 2) := dc16 bqX8_lineNow_210 4 rfl rfl rfl
theorem dX8_lineNow_216 : decode cX8_lineNow 216 = .ok (.invokevirtual 94, 3) := dc182 bqX8_lineNow_210 6 rfl rfl rfl
theorem dX8_lineNow_219 : decode cX8_lineNow 219 = .ok (.ifCond .eq 20, 3) := dc153 bqX8_lineNow_210 9 rfl rfl rfl
theorem dX8_lineNow_222 : decode cX8_lineNow 222 = .ok (.aload_n 0, 1) := dc42 bqX8_lineNow_210 12 rfl rfl
theorem dX8_lineNow_223 : decode cX8_lineNow 223 = .ok (.bipush 101, 2) := dc16 bqX8_lineNow_210 13 rfl rfl rfl
theorem dX8_lineNow_225 : decode cX8_lineNow 225 = .ok (.iconst 0, 1) := dc3 bqX8_lineNow_210 15 rfl rfl
theorem dX8_lineNow_226 : decode cX8_lineNow 226 = .ok (.iconst 0, 1) := dc3 bqX8_lineNow_210 16 rfl rfl
theorem dX8_lineNow_227 : decode cX8_lineNow 227 = .ok (.iconst 0, 1) := dc3 bqX8_lineNow_210 17 rfl rfl
theorem dX8_lineNow_228 : decode cX8_lineNow 228 = .ok (.invokevirtual 98, 3) := dc182 bqX8_lineNow_210 18 rfl rfl rfl
theorem dX8_lineNow_231 : decode cX8_lineNow 231 = .ok (.ifCond .eq 8, 3) := dc153 bqX8_lineNow_210 21 rfl rfl rfl
theorem bqX8_lineNow_234 : hs_bs cX8_lineNow 234 [16, 7, 167, 0, 36, 42, 7, 16, 99, 16, 97, 16, 115, 182, 0, 94, 153, 0, 20, 42, 16, 101, 3, 3] := hs_bs_of _ _ _ (by decide +kernel)
theorem dX8_lineNow_234 : decode cX8_lineNow 234 = .ok (.bipush 7, 2) := dc16 bqX8_lineNow_234 0 rfl rfl rfl
theorem dX8_lineNow_236 : decode cX8_lineNow 236 = .ok (.goto 36, 3) := dc167 bqX8_lineNow_234 2 rfl rfl rfl
theorem dX8_lineNow_239 : decode cX8_lineNow 239 = .ok (.aload_n 0, 1) := dc42 bqX8_lineNow_234 5 rfl rfl
theorem dX8_lineNow_240 : decode cX8_lineNow 240 = .ok (.iconst 4, 1) := dc7 bqX8_lineNow_234 6 rfl rfl
theorem dX8_lineNow_241 : decode cX8_lineNow 241 = .ok (.bipush 99, 2) := dc16 bqX8_lineNow_234 7 rfl rfl rfl
theorem dX8_lineNow_243 : decode cX8_lineNow 243 = .ok (.bipush 97, 2) := dc16 bqX8_lineNow_234 9 rfl rfl rfl
theorem dX8_lineNow_245 : decode cX8_lineNow 245 = .ok (.bipush 115, 2) := dc16 bqX8_lineNow_234 11 rfl rfl rfl
theorem dX8_lineNow_247 : decode cX8_lineNow 247 = .ok (.invokevirtual 94, 3) := dc182 bqX8_lineNow_234 13 rfl rfl rfl
theorem dX8_lineNow_250 : decode cX8_lineNow 250 = .ok (.ifCond .eq 20, 3) := dc153 bqX8_lineNow_234 16 rfl rfl rfl
theorem dX8_lineNow_253 : decode cX8_lineNow 253 = .ok (.aload_n 0, 1) := dc42 bqX8_lineNow_234 19 rfl rfl
theorem dX8_lineNow_254 : decode cX8_lineNow 254 = .ok (.bipush 101, 2) := dc16 bqX8_lineNow_234 20 rfl rfl rfl
theorem dX8_lineNow_256 : decode cX8_lineNow 256 = .ok (.iconst 0, 1) := dc3 bqX8_lineNow_234 22 rfl rfl
theorem dX8_lineNow_257 : decode cX8_lineNow 257 = .ok (.iconst 0, 1) := dc3 bqX8_lineNow_234 23 rfl rfl
theorem bqX8_lineNow_258 : hs_bs cX8_lineNow 258 [3, 182, 0, 98, 153, 0, 8, 16, 8, 167, 0, 5, 16, 252, 172] := hs_bs_of _ _ _ (by decide +kernel)
theorem dX8_lineNow_258 : decode cX8_lineNow 258 = .ok (.iconst 0, 1) := dc3 bqX8_lineNow_258 0 rfl rfl
theorem dX8_lineNow_259 : decode cX8_lineNow 259 = .ok (.invokevirtual 98, 3) := dc182 bqX8_lineNow_258 1 rfl rfl rfl
theorem dX8_lineNow_262 : decode cX8_lineNow 262 = .ok (.ifCond .eq 8, 3) := dc153 bqX8_lineNow_258 4 rfl rfl rfl
theorem dX8_lineNow_265 : decode cX8_lineNow 265 = .ok (.bipush 8, 2) := dc16 bqX8_lineNow_258 7 rfl rfl rfl
theorem dX8_lineNow_267 : decode cX8_lineNow 267 = .ok (.goto 5, 3) := dc167 bqX8_lineNow_258 9 rfl rfl rfl
theorem dX8_lineNow_270 : decode cX8_lineNow 270 = .ok (.bipush (-4), 2) := dc16 bqX8_lineNow_258 12 rfl rfl rfl
theorem dX8_lineNow_272 : decode cX8_lineNow 272 = .ok (.ireturn, 1) := dc172 bqX8_lineNow_258 14 rfl rfl
set_option maxRecDepth 20000 in
theorem gX8_takes_X8_byteAt : GoodIn wsX8_takes (wsV RX8 90 RX8 yX8_byteAt wsX8_byteAt) := hs_gC (hs_gV (hs_inG 4 197 rfl rfl) (hs_inG 4 199 rfl rfl) (hs_inG 0 20 rfl rfl) (hs_inG 1 8 rfl rfl) inC_X8_byteAt)
set_option maxRecDepth 20000 in
theorem gX8_takes_X8_in : GoodIn wsX8_takes (va_wsS RX8 71 yX8_in wsX8_in) := hs_gC (hs_gS (hs_inG 4 182 rfl rfl) (hs_inG 4 183 rfl rfl) (hs_inG 1 8 rfl rfl) inC_X8_in)
set_option maxRecDepth 20000 in
theorem gX8_takes_X8_needs : GoodIn wsX8_takes (wsV RX8 115 RX8 yX8_needs wsX8_needs) := hs_gC (hs_gV (hs_inG 4 205 rfl rfl) (hs_inG 4 207 rfl rfl) (hs_inG 0 21 rfl rfl) (hs_inG 1 8 rfl rfl) inC_X8_needs)
theorem bqX8_takes_0 : hs_bs cX8_takes 0 [42, 180, 0, 78, 158, 0, 4, 177, 42, 42, 180, 0, 87, 182, 0, 90, 16, 32, 160, 0, 16, 42, 89] := hs_bs_of _ _ _ (by decide +kernel)
theorem dX8_takes_0 : decode cX8_takes 0 = .ok (.aload_n 0, 1) := dc42 bqX8_takes_0 0 rfl rfl
theorem dX8_takes_1 : decode cX8_takes 1 = .ok (.getfield 78, 3) := dc180 bqX8_takes_0 1 rfl rfl rfl
theorem dX8_takes_4 : decode cX8_takes 4 = .ok (.ifCond .le 4, 3) := dc158 bqX8_takes_0 4 rfl rfl rfl
theorem dX8_takes_7 : decode cX8_takes 7 = .ok (.return_, 1) := dc177 bqX8_takes_0 7 rfl rfl
theorem dX8_takes_8 : decode cX8_takes 8 = .ok (.aload_n 0, 1) := dc42 bqX8_takes_0 8 rfl rfl
theorem dX8_takes_9 : decode cX8_takes 9 = .ok (.aload_n 0, 1) := dc42 bqX8_takes_0 9 rfl rfl
theorem dX8_takes_10 : decode cX8_takes 10 = .ok (.getfield 87, 3) := dc180 bqX8_takes_0 10 rfl rfl rfl
theorem dX8_takes_13 : decode cX8_takes 13 = .ok (.invokevirtual 90, 3) := dc182 bqX8_takes_0 13 rfl rfl rfl
theorem dX8_takes_16 : decode cX8_takes 16 = .ok (.bipush 32, 2) := dc16 bqX8_takes_0 16 rfl rfl rfl
theorem dX8_takes_18 : decode cX8_takes 18 = .ok (.if_icmp .ne 16, 3) := dc160 bqX8_takes_0 18 rfl rfl rfl
theorem dX8_takes_21 : decode cX8_takes 21 = .ok (.aload_n 0, 1) := dc42 bqX8_takes_0 21 rfl rfl
theorem dX8_takes_22 : decode cX8_takes 22 = .ok (.dup, 1) := dc89 bqX8_takes_0 22 rfl rfl
theorem bqX8_takes_23 : hs_bs cX8_takes 23 [180, 0, 87, 4, 96, 181, 0, 87, 167, 255, 233, 42, 42, 180, 0, 87, 181, 0, 81, 42, 42, 180, 0, 87] := hs_bs_of _ _ _ (by decide +kernel)
theorem dX8_takes_23 : decode cX8_takes 23 = .ok (.getfield 87, 3) := dc180 bqX8_takes_23 0 rfl rfl rfl
theorem dX8_takes_26 : decode cX8_takes 26 = .ok (.iconst 1, 1) := dc4 bqX8_takes_23 3 rfl rfl
theorem dX8_takes_27 : decode cX8_takes 27 = .ok (.iadd, 1) := dc96 bqX8_takes_23 4 rfl rfl
theorem dX8_takes_28 : decode cX8_takes 28 = .ok (.putfield 87, 3) := dc181 bqX8_takes_23 5 rfl rfl rfl
theorem dX8_takes_31 : decode cX8_takes 31 = .ok (.goto (-23), 3) := dc167 bqX8_takes_23 8 rfl rfl rfl
theorem dX8_takes_34 : decode cX8_takes 34 = .ok (.aload_n 0, 1) := dc42 bqX8_takes_23 11 rfl rfl
theorem dX8_takes_35 : decode cX8_takes 35 = .ok (.aload_n 0, 1) := dc42 bqX8_takes_23 12 rfl rfl
theorem dX8_takes_36 : decode cX8_takes 36 = .ok (.getfield 87, 3) := dc180 bqX8_takes_23 13 rfl rfl rfl
theorem dX8_takes_39 : decode cX8_takes 39 = .ok (.putfield 81, 3) := dc181 bqX8_takes_23 16 rfl rfl rfl
theorem dX8_takes_42 : decode cX8_takes 42 = .ok (.aload_n 0, 1) := dc42 bqX8_takes_23 19 rfl rfl
theorem dX8_takes_43 : decode cX8_takes 43 = .ok (.aload_n 0, 1) := dc42 bqX8_takes_23 20 rfl rfl
theorem dX8_takes_44 : decode cX8_takes 44 = .ok (.getfield 87, 3) := dc180 bqX8_takes_23 21 rfl rfl rfl
theorem bqX8_takes_47 : hs_bs cX8_takes 47 [182, 0, 90, 60, 27, 156, 0, 11, 42, 3, 181, 0, 101, 167, 0, 214, 27, 133, 20, 0, 104, 20, 0, 106] := hs_bs_of _ _ _ (by decide +kernel)
theorem dX8_takes_47 : decode cX8_takes 47 = .ok (.invokevirtual 90, 3) := dc182 bqX8_takes_47 0 rfl rfl rfl
theorem dX8_takes_50 : decode cX8_takes 50 = .ok (.istore_n 1, 1) := dc60 bqX8_takes_47 3 rfl rfl
theorem dX8_takes_51 : decode cX8_takes 51 = .ok (.iload_n 1, 1) := dc27 bqX8_takes_47 4 rfl rfl
theorem dX8_takes_52 : decode cX8_takes 52 = .ok (.ifCond .ge 11, 3) := dc156 bqX8_takes_47 5 rfl rfl rfl
theorem dX8_takes_55 : decode cX8_takes 55 = .ok (.aload_n 0, 1) := dc42 bqX8_takes_47 8 rfl rfl
theorem dX8_takes_56 : decode cX8_takes 56 = .ok (.iconst 0, 1) := dc3 bqX8_takes_47 9 rfl rfl
theorem dX8_takes_57 : decode cX8_takes 57 = .ok (.putfield 101, 3) := dc181 bqX8_takes_47 10 rfl rfl rfl
theorem dX8_takes_60 : decode cX8_takes 60 = .ok (.goto 214, 3) := dc167 bqX8_takes_47 13 rfl rfl rfl
theorem dX8_takes_63 : decode cX8_takes 63 = .ok (.iload_n 1, 1) := dc27 bqX8_takes_47 16 rfl rfl
theorem dX8_takes_64 : decode cX8_takes 64 = .ok (.i2l, 1) := dc133 bqX8_takes_47 17 rfl rfl
theorem dX8_takes_65 : decode cX8_takes 65 = .ok (.ldc2_w 104, 3) := dc20 bqX8_takes_47 18 rfl rfl rfl
theorem dX8_takes_68 : decode cX8_takes 68 = .ok (.ldc2_w 106, 3) := dc20 bqX8_takes_47 21 rfl rfl rfl
theorem bqX8_takes_71 : hs_bs cX8_takes 71 [184, 0, 71, 153, 0, 42, 42, 4, 181, 0, 101, 42, 42, 180, 0, 87, 182, 0, 90, 133, 20, 0, 104] := hs_bs_of _ _ _ (by decide +kernel)
theorem dX8_takes_71 : decode cX8_takes 71 = .ok (.invokestatic 71, 3) := dc184 bqX8_takes_71 0 rfl rfl rfl
theorem dX8_takes_74 : decode cX8_takes 74 = .ok (.ifCond .eq 42, 3) := dc153 bqX8_takes_71 3 rfl rfl rfl
theorem dX8_takes_77 : decode cX8_takes 77 = .ok (.aload_n 0, 1) := dc42 bqX8_takes_71 6 rfl rfl
theorem dX8_takes_78 : decode cX8_takes 78 = .ok (.iconst 1, 1) := dc4 bqX8_takes_71 7 rfl rfl
theorem dX8_takes_79 : decode cX8_takes 79 = .ok (.putfield 101, 3) := dc181 bqX8_takes_71 8 rfl rfl rfl
theorem dX8_takes_82 : decode cX8_takes 82 = .ok (.aload_n 0, 1) := dc42 bqX8_takes_71 11 rfl rfl
theorem dX8_takes_83 : decode cX8_takes 83 = .ok (.aload_n 0, 1) := dc42 bqX8_takes_71 12 rfl rfl
theorem dX8_takes_84 : decode cX8_takes 84 = .ok (.getfield 87, 3) := dc180 bqX8_takes_71 13 rfl rfl rfl
theorem dX8_takes_87 : decode cX8_takes 87 = .ok (.invokevirtual 90, 3) := dc182 bqX8_takes_71 16 rfl rfl rfl
theorem dX8_takes_90 : decode cX8_takes 90 = .ok (.i2l, 1) := dc133 bqX8_takes_71 19 rfl rfl
theorem dX8_takes_91 : decode cX8_takes 91 = .ok (.ldc2_w 104, 3) := dc20 bqX8_takes_71 20 rfl rfl rfl
theorem bqX8_takes_94 : hs_bs cX8_takes 94 [20, 0, 106, 184, 0, 71, 153, 0, 174, 42, 89, 180, 0, 87, 4, 96, 181, 0, 87, 167, 255, 225, 27, 133] := hs_bs_of _ _ _ (by decide +kernel)
theorem dX8_takes_94 : decode cX8_takes 94 = .ok (.ldc2_w 106, 3) := dc20 bqX8_takes_94 0 rfl rfl rfl
theorem dX8_takes_97 : decode cX8_takes 97 = .ok (.invokestatic 71, 3) := dc184 bqX8_takes_94 3 rfl rfl rfl
theorem dX8_takes_100 : decode cX8_takes 100 = .ok (.ifCond .eq 174, 3) := dc153 bqX8_takes_94 6 rfl rfl rfl
theorem dX8_takes_103 : decode cX8_takes 103 = .ok (.aload_n 0, 1) := dc42 bqX8_takes_94 9 rfl rfl
theorem dX8_takes_104 : decode cX8_takes 104 = .ok (.dup, 1) := dc89 bqX8_takes_94 10 rfl rfl
theorem dX8_takes_105 : decode cX8_takes 105 = .ok (.getfield 87, 3) := dc180 bqX8_takes_94 11 rfl rfl rfl
theorem dX8_takes_108 : decode cX8_takes 108 = .ok (.iconst 1, 1) := dc4 bqX8_takes_94 14 rfl rfl
theorem dX8_takes_109 : decode cX8_takes 109 = .ok (.iadd, 1) := dc96 bqX8_takes_94 15 rfl rfl
theorem dX8_takes_110 : decode cX8_takes 110 = .ok (.putfield 87, 3) := dc181 bqX8_takes_94 16 rfl rfl rfl
theorem dX8_takes_113 : decode cX8_takes 113 = .ok (.goto (-31), 3) := dc167 bqX8_takes_94 19 rfl rfl rfl
theorem dX8_takes_116 : decode cX8_takes 116 = .ok (.iload_n 1, 1) := dc27 bqX8_takes_94 22 rfl rfl
theorem dX8_takes_117 : decode cX8_takes 117 = .ok (.i2l, 1) := dc133 bqX8_takes_94 23 rfl rfl
theorem bqX8_takes_118 : hs_bs cX8_takes 118 [20, 0, 108, 20, 0, 110, 184, 0, 71, 153, 0, 116, 42, 5, 181, 0, 101, 42, 3, 181, 0, 112, 42, 42] := hs_bs_of _ _ _ (by decide +kernel)
theorem dX8_takes_118 : decode cX8_takes 118 = .ok (.ldc2_w 108, 3) := dc20 bqX8_takes_118 0 rfl rfl rfl
theorem dX8_takes_121 : decode cX8_takes 121 = .ok (.ldc2_w 110, 3) := dc20 bqX8_takes_118 3 rfl rfl rfl
theorem dX8_takes_124 : decode cX8_takes 124 = .ok (.invokestatic 71, 3) := dc184 bqX8_takes_118 6 rfl rfl rfl
theorem dX8_takes_127 : decode cX8_takes 127 = .ok (.ifCond .eq 116, 3) := dc153 bqX8_takes_118 9 rfl rfl rfl
theorem dX8_takes_130 : decode cX8_takes 130 = .ok (.aload_n 0, 1) := dc42 bqX8_takes_118 12 rfl rfl
theorem dX8_takes_131 : decode cX8_takes 131 = .ok (.iconst 2, 1) := dc5 bqX8_takes_118 13 rfl rfl
theorem dX8_takes_132 : decode cX8_takes 132 = .ok (.putfield 101, 3) := dc181 bqX8_takes_118 14 rfl rfl rfl
theorem dX8_takes_135 : decode cX8_takes 135 = .ok (.aload_n 0, 1) := dc42 bqX8_takes_118 17 rfl rfl
theorem dX8_takes_136 : decode cX8_takes 136 = .ok (.iconst 0, 1) := dc3 bqX8_takes_118 18 rfl rfl
theorem dX8_takes_137 : decode cX8_takes 137 = .ok (.putfield 112, 3) := dc181 bqX8_takes_118 19 rfl rfl rfl
theorem dX8_takes_140 : decode cX8_takes 140 = .ok (.aload_n 0, 1) := dc42 bqX8_takes_118 22 rfl rfl
theorem dX8_takes_141 : decode cX8_takes 141 = .ok (.aload_n 0, 1) := dc42 bqX8_takes_118 23 rfl rfl
theorem bqX8_takes_142 : hs_bs cX8_takes 142 [180, 0, 87, 182, 0, 90, 133, 20, 0, 108, 20, 0, 110, 184, 0, 71, 153, 0, 59, 42, 42, 180, 0, 87] := hs_bs_of _ _ _ (by decide +kernel)
theorem dX8_takes_142 : decode cX8_takes 142 = .ok (.getfield 87, 3) := dc180 bqX8_takes_142 0 rfl rfl rfl
theorem dX8_takes_145 : decode cX8_takes 145 = .ok (.invokevirtual 90, 3) := dc182 bqX8_takes_142 3 rfl rfl rfl
theorem dX8_takes_148 : decode cX8_takes 148 = .ok (.i2l, 1) := dc133 bqX8_takes_142 6 rfl rfl
theorem dX8_takes_149 : decode cX8_takes 149 = .ok (.ldc2_w 108, 3) := dc20 bqX8_takes_142 7 rfl rfl rfl
theorem dX8_takes_152 : decode cX8_takes 152 = .ok (.ldc2_w 110, 3) := dc20 bqX8_takes_142 10 rfl rfl rfl
theorem dX8_takes_155 : decode cX8_takes 155 = .ok (.invokestatic 71, 3) := dc184 bqX8_takes_142 13 rfl rfl rfl
theorem dX8_takes_158 : decode cX8_takes 158 = .ok (.ifCond .eq 59, 3) := dc153 bqX8_takes_142 16 rfl rfl rfl
theorem dX8_takes_161 : decode cX8_takes 161 = .ok (.aload_n 0, 1) := dc42 bqX8_takes_142 19 rfl rfl
theorem dX8_takes_162 : decode cX8_takes 162 = .ok (.aload_n 0, 1) := dc42 bqX8_takes_142 20 rfl rfl
theorem dX8_takes_163 : decode cX8_takes 163 = .ok (.getfield 87, 3) := dc180 bqX8_takes_142 21 rfl rfl rfl
theorem bqX8_takes_166 : hs_bs cX8_takes 166 [42, 180, 0, 81, 100, 5, 162, 0, 25, 16, 10, 42, 180, 0, 112, 104, 42, 42, 180, 0, 87, 182, 0, 90] := hs_bs_of _ _ _ (by decide +kernel)
theorem dX8_takes_166 : decode cX8_takes 166 = .ok (.aload_n 0, 1) := dc42 bqX8_takes_166 0 rfl rfl
theorem dX8_takes_167 : decode cX8_takes 167 = .ok (.getfield 81, 3) := dc180 bqX8_takes_166 1 rfl rfl rfl
theorem dX8_takes_170 : decode cX8_takes 170 = .ok (.isub, 1) := dc100 bqX8_takes_166 4 rfl rfl
theorem dX8_takes_171 : decode cX8_takes 171 = .ok (.iconst 2, 1) := dc5 bqX8_takes_166 5 rfl rfl
theorem dX8_takes_172 : decode cX8_takes 172 = .ok (.if_icmp .ge 25, 3) := dc162 bqX8_takes_166 6 rfl rfl rfl
theorem dX8_takes_175 : decode cX8_takes 175 = .ok (.bipush 10, 2) := dc16 bqX8_takes_166 9 rfl rfl rfl
theorem dX8_takes_177 : decode cX8_takes 177 = .ok (.aload_n 0, 1) := dc42 bqX8_takes_166 11 rfl rfl
theorem dX8_takes_178 : decode cX8_takes 178 = .ok (.getfield 112, 3) := dc180 bqX8_takes_166 12 rfl rfl rfl
theorem dX8_takes_181 : decode cX8_takes 181 = .ok (.imul, 1) := dc104 bqX8_takes_166 15 rfl rfl
theorem dX8_takes_182 : decode cX8_takes 182 = .ok (.aload_n 0, 1) := dc42 bqX8_takes_166 16 rfl rfl
theorem dX8_takes_183 : decode cX8_takes 183 = .ok (.aload_n 0, 1) := dc42 bqX8_takes_166 17 rfl rfl
theorem dX8_takes_184 : decode cX8_takes 184 = .ok (.getfield 87, 3) := dc180 bqX8_takes_166 18 rfl rfl rfl
theorem dX8_takes_187 : decode cX8_takes 187 = .ok (.invokevirtual 90, 3) := dc182 bqX8_takes_166 21 rfl rfl rfl
theorem bqX8_takes_190 : hs_bs cX8_takes 190 [96, 16, 48, 100, 167, 0, 7, 42, 180, 0, 112, 181, 0, 112, 42, 89, 180, 0, 87, 4, 96, 181, 0, 87] := hs_bs_of _ _ _ (by decide +kernel)
theorem dX8_takes_190 : decode cX8_takes 190 = .ok (.iadd, 1) := dc96 bqX8_takes_190 0 rfl rfl
theorem dX8_takes_191 : decode cX8_takes 191 = .ok (.bipush 48, 2) := dc16 bqX8_takes_190 1 rfl rfl rfl
theorem dX8_takes_193 : decode cX8_takes 193 = .ok (.isub, 1) := dc100 bqX8_takes_190 3 rfl rfl
theorem dX8_takes_194 : decode cX8_takes 194 = .ok (.goto 7, 3) := dc167 bqX8_takes_190 4 rfl rfl rfl
theorem dX8_takes_197 : decode cX8_takes 197 = .ok (.aload_n 0, 1) := dc42 bqX8_takes_190 7 rfl rfl
theorem dX8_takes_198 : decode cX8_takes 198 = .ok (.getfield 112, 3) := dc180 bqX8_takes_190 8 rfl rfl rfl
theorem dX8_takes_201 : decode cX8_takes 201 = .ok (.putfield 112, 3) := dc181 bqX8_takes_190 11 rfl rfl rfl
theorem dX8_takes_204 : decode cX8_takes 204 = .ok (.aload_n 0, 1) := dc42 bqX8_takes_190 14 rfl rfl
theorem dX8_takes_205 : decode cX8_takes 205 = .ok (.dup, 1) := dc89 bqX8_takes_190 15 rfl rfl
theorem dX8_takes_206 : decode cX8_takes 206 = .ok (.getfield 87, 3) := dc180 bqX8_takes_190 16 rfl rfl rfl
theorem dX8_takes_209 : decode cX8_takes 209 = .ok (.iconst 1, 1) := dc4 bqX8_takes_190 19 rfl rfl
theorem dX8_takes_210 : decode cX8_takes 210 = .ok (.iadd, 1) := dc96 bqX8_takes_190 20 rfl rfl
theorem dX8_takes_211 : decode cX8_takes 211 = .ok (.putfield 87, 3) := dc181 bqX8_takes_190 21 rfl rfl rfl
theorem bqX8_takes_214 : hs_bs cX8_takes 214 [167, 255, 182, 42, 42, 180, 0, 87, 42, 180, 0, 81, 100, 5, 163, 0, 7, 4, 167, 0, 4, 3, 4] := hs_bs_of _ _ _ (by decide +kernel)
theorem dX8_takes_214 : decode cX8_takes 214 = .ok (.goto (-74), 3) := dc167 bqX8_takes_214 0 rfl rfl rfl
theorem dX8_takes_217 : decode cX8_takes 217 = .ok (.aload_n 0, 1) := dc42 bqX8_takes_214 3 rfl rfl
theorem dX8_takes_218 : decode cX8_takes 218 = .ok (.aload_n 0, 1) := dc42 bqX8_takes_214 4 rfl rfl
theorem dX8_takes_219 : decode cX8_takes 219 = .ok (.getfield 87, 3) := dc180 bqX8_takes_214 5 rfl rfl rfl
theorem dX8_takes_222 : decode cX8_takes 222 = .ok (.aload_n 0, 1) := dc42 bqX8_takes_214 8 rfl rfl
theorem dX8_takes_223 : decode cX8_takes 223 = .ok (.getfield 81, 3) := dc180 bqX8_takes_214 9 rfl rfl rfl
theorem dX8_takes_226 : decode cX8_takes 226 = .ok (.isub, 1) := dc100 bqX8_takes_214 12 rfl rfl
theorem dX8_takes_227 : decode cX8_takes 227 = .ok (.iconst 2, 1) := dc5 bqX8_takes_214 13 rfl rfl
theorem dX8_takes_228 : decode cX8_takes 228 = .ok (.if_icmp .gt 7, 3) := dc163 bqX8_takes_214 14 rfl rfl rfl
theorem dX8_takes_231 : decode cX8_takes 231 = .ok (.iconst 1, 1) := dc4 bqX8_takes_214 17 rfl rfl
theorem dX8_takes_232 : decode cX8_takes 232 = .ok (.goto 4, 3) := dc167 bqX8_takes_214 18 rfl rfl rfl
theorem dX8_takes_235 : decode cX8_takes 235 = .ok (.iconst 0, 1) := dc3 bqX8_takes_214 21 rfl rfl
theorem dX8_takes_236 : decode cX8_takes 236 = .ok (.iconst 1, 1) := dc4 bqX8_takes_214 22 rfl rfl
theorem bqX8_takes_237 : hs_bs cX8_takes 237 [182, 0, 115, 167, 0, 34, 42, 6, 181, 0, 101, 42, 27, 16, 59, 160, 0, 7, 4, 167, 0, 4, 3, 4] := hs_bs_of _ _ _ (by decide +kernel)
theorem dX8_takes_237 : decode cX8_takes 237 = .ok (.invokevirtual 115, 3) := dc182 bqX8_takes_237 0 rfl rfl rfl
theorem dX8_takes_240 : decode cX8_takes 240 = .ok (.goto 34, 3) := dc167 bqX8_takes_237 3 rfl rfl rfl
theorem dX8_takes_243 : decode cX8_takes 243 = .ok (.aload_n 0, 1) := dc42 bqX8_takes_237 6 rfl rfl
theorem dX8_takes_244 : decode cX8_takes 244 = .ok (.iconst 3, 1) := dc6 bqX8_takes_237 7 rfl rfl
theorem dX8_takes_245 : decode cX8_takes 245 = .ok (.putfield 101, 3) := dc181 bqX8_takes_237 8 rfl rfl rfl
theorem dX8_takes_248 : decode cX8_takes 248 = .ok (.aload_n 0, 1) := dc42 bqX8_takes_237 11 rfl rfl
theorem dX8_takes_249 : decode cX8_takes 249 = .ok (.iload_n 1, 1) := dc27 bqX8_takes_237 12 rfl rfl
theorem dX8_takes_250 : decode cX8_takes 250 = .ok (.bipush 59, 2) := dc16 bqX8_takes_237 13 rfl rfl rfl
theorem dX8_takes_252 : decode cX8_takes 252 = .ok (.if_icmp .ne 7, 3) := dc160 bqX8_takes_237 15 rfl rfl rfl
theorem dX8_takes_255 : decode cX8_takes 255 = .ok (.iconst 1, 1) := dc4 bqX8_takes_237 18 rfl rfl
theorem dX8_takes_256 : decode cX8_takes 256 = .ok (.goto 4, 3) := dc167 bqX8_takes_237 19 rfl rfl rfl
theorem dX8_takes_259 : decode cX8_takes 259 = .ok (.iconst 0, 1) := dc3 bqX8_takes_237 22 rfl rfl
theorem dX8_takes_260 : decode cX8_takes 260 = .ok (.iconst 1, 1) := dc4 bqX8_takes_237 23 rfl rfl
theorem bqX8_takes_261 : hs_bs cX8_takes 261 [182, 0, 115, 42, 89, 180, 0, 87, 4, 96, 181, 0, 87, 177] := hs_bs_of _ _ _ (by decide +kernel)
theorem dX8_takes_261 : decode cX8_takes 261 = .ok (.invokevirtual 115, 3) := dc182 bqX8_takes_261 0 rfl rfl rfl
theorem dX8_takes_264 : decode cX8_takes 264 = .ok (.aload_n 0, 1) := dc42 bqX8_takes_261 3 rfl rfl
theorem dX8_takes_265 : decode cX8_takes 265 = .ok (.dup, 1) := dc89 bqX8_takes_261 4 rfl rfl
theorem dX8_takes_266 : decode cX8_takes 266 = .ok (.getfield 87, 3) := dc180 bqX8_takes_261 5 rfl rfl rfl
theorem dX8_takes_269 : decode cX8_takes 269 = .ok (.iconst 1, 1) := dc4 bqX8_takes_261 8 rfl rfl
theorem dX8_takes_270 : decode cX8_takes 270 = .ok (.iadd, 1) := dc96 bqX8_takes_261 9 rfl rfl
theorem dX8_takes_271 : decode cX8_takes 271 = .ok (.putfield 87, 3) := dc181 bqX8_takes_261 10 rfl rfl rfl
theorem dX8_takes_274 : decode cX8_takes 274 = .ok (.return_, 1) := dc177 bqX8_takes_261 13 rfl rfl
set_option maxRecDepth 20000 in
theorem gX8_looked_X8_needs : GoodIn wsX8_looked (wsV RX8 115 RX8 yX8_needs wsX8_needs) := hs_gC (hs_gV (hs_inG 4 205 rfl rfl) (hs_inG 4 207 rfl rfl) (hs_inG 0 21 rfl rfl) (hs_inG 1 8 rfl rfl) inC_X8_needs)
set_option maxRecDepth 20000 in
theorem gX8_looked_X8_in : GoodIn wsX8_looked (va_wsS RX8 71 yX8_in wsX8_in) := hs_gC (hs_gS (hs_inG 4 182 rfl rfl) (hs_inG 4 183 rfl rfl) (hs_inG 1 8 rfl rfl) inC_X8_in)
theorem bqX8_looked_0 : hs_bs cX8_looked 0 [42, 180, 0, 78, 154, 0, 21, 42, 42, 180, 0, 101, 5, 160, 0, 7, 4, 167, 0, 4, 3, 5] := hs_bs_of _ _ _ (by decide +kernel)
theorem dX8_looked_0 : decode cX8_looked 0 = .ok (.aload_n 0, 1) := dc42 bqX8_looked_0 0 rfl rfl
theorem dX8_looked_1 : decode cX8_looked 1 = .ok (.getfield 78, 3) := dc180 bqX8_looked_0 1 rfl rfl rfl
theorem dX8_looked_4 : decode cX8_looked 4 = .ok (.ifCond .ne 21, 3) := dc154 bqX8_looked_0 4 rfl rfl rfl
theorem dX8_looked_7 : decode cX8_looked 7 = .ok (.aload_n 0, 1) := dc42 bqX8_looked_0 7 rfl rfl
theorem dX8_looked_8 : decode cX8_looked 8 = .ok (.aload_n 0, 1) := dc42 bqX8_looked_0 8 rfl rfl
theorem dX8_looked_9 : decode cX8_looked 9 = .ok (.getfield 101, 3) := dc180 bqX8_looked_0 9 rfl rfl rfl
theorem dX8_looked_12 : decode cX8_looked 12 = .ok (.iconst 2, 1) := dc5 bqX8_looked_0 12 rfl rfl
theorem dX8_looked_13 : decode cX8_looked 13 = .ok (.if_icmp .ne 7, 3) := dc160 bqX8_looked_0 13 rfl rfl rfl
theorem dX8_looked_16 : decode cX8_looked 16 = .ok (.iconst 1, 1) := dc4 bqX8_looked_0 16 rfl rfl
theorem dX8_looked_17 : decode cX8_looked 17 = .ok (.goto 4, 3) := dc167 bqX8_looked_0 17 rfl rfl rfl
theorem dX8_looked_20 : decode cX8_looked 20 = .ok (.iconst 0, 1) := dc3 bqX8_looked_0 20 rfl rfl
theorem dX8_looked_21 : decode cX8_looked 21 = .ok (.iconst 2, 1) := dc5 bqX8_looked_0 21 rfl rfl
theorem bqX8_looked_22 : hs_bs cX8_looked 22 [182, 0, 115, 42, 180, 0, 78, 154, 0, 20, 42, 42, 180, 0, 112, 133, 27, 133, 28, 133, 184, 0, 71, 6] := hs_bs_of _ _ _ (by decide +kernel)
theorem dX8_looked_22 : decode cX8_looked 22 = .ok (.invokevirtual 115, 3) := dc182 bqX8_looked_22 0 rfl rfl rfl
theorem dX8_looked_25 : decode cX8_looked 25 = .ok (.aload_n 0, 1) := dc42 bqX8_looked_22 3 rfl rfl
theorem dX8_looked_26 : decode cX8_looked 26 = .ok (.getfield 78, 3) := dc180 bqX8_looked_22 4 rfl rfl rfl
theorem dX8_looked_29 : decode cX8_looked 29 = .ok (.ifCond .ne 20, 3) := dc154 bqX8_looked_22 7 rfl rfl rfl
theorem dX8_looked_32 : decode cX8_looked 32 = .ok (.aload_n 0, 1) := dc42 bqX8_looked_22 10 rfl rfl
theorem dX8_looked_33 : decode cX8_looked 33 = .ok (.aload_n 0, 1) := dc42 bqX8_looked_22 11 rfl rfl
theorem dX8_looked_34 : decode cX8_looked 34 = .ok (.getfield 112, 3) := dc180 bqX8_looked_22 12 rfl rfl rfl
theorem dX8_looked_37 : decode cX8_looked 37 = .ok (.i2l, 1) := dc133 bqX8_looked_22 15 rfl rfl
theorem dX8_looked_38 : decode cX8_looked 38 = .ok (.iload_n 1, 1) := dc27 bqX8_looked_22 16 rfl rfl
theorem dX8_looked_39 : decode cX8_looked 39 = .ok (.i2l, 1) := dc133 bqX8_looked_22 17 rfl rfl
theorem dX8_looked_40 : decode cX8_looked 40 = .ok (.iload_n 2, 1) := dc28 bqX8_looked_22 18 rfl rfl
theorem dX8_looked_41 : decode cX8_looked 41 = .ok (.i2l, 1) := dc133 bqX8_looked_22 19 rfl rfl
theorem dX8_looked_42 : decode cX8_looked 42 = .ok (.invokestatic 71, 3) := dc184 bqX8_looked_22 20 rfl rfl rfl
theorem dX8_looked_45 : decode cX8_looked 45 = .ok (.iconst 3, 1) := dc6 bqX8_looked_22 23 rfl rfl
theorem bqX8_looked_46 : hs_bs cX8_looked 46 [182, 0, 115, 42, 180, 0, 78, 154, 0, 10, 42, 180, 0, 112, 167, 0, 4, 3, 172] := hs_bs_of _ _ _ (by decide +kernel)
theorem dX8_looked_46 : decode cX8_looked 46 = .ok (.invokevirtual 115, 3) := dc182 bqX8_looked_46 0 rfl rfl rfl
theorem dX8_looked_49 : decode cX8_looked 49 = .ok (.aload_n 0, 1) := dc42 bqX8_looked_46 3 rfl rfl
theorem dX8_looked_50 : decode cX8_looked 50 = .ok (.getfield 78, 3) := dc180 bqX8_looked_46 4 rfl rfl rfl
theorem dX8_looked_53 : decode cX8_looked 53 = .ok (.ifCond .ne 10, 3) := dc154 bqX8_looked_46 7 rfl rfl rfl
theorem dX8_looked_56 : decode cX8_looked 56 = .ok (.aload_n 0, 1) := dc42 bqX8_looked_46 10 rfl rfl
theorem dX8_looked_57 : decode cX8_looked 57 = .ok (.getfield 112, 3) := dc180 bqX8_looked_46 11 rfl rfl rfl
theorem dX8_looked_60 : decode cX8_looked 60 = .ok (.goto 4, 3) := dc167 bqX8_looked_46 14 rfl rfl rfl
theorem dX8_looked_63 : decode cX8_looked 63 = .ok (.iconst 0, 1) := dc3 bqX8_looked_46 17 rfl rfl
theorem dX8_looked_64 : decode cX8_looked 64 = .ok (.ireturn, 1) := dc172 bqX8_looked_46 18 rfl rfl
set_option maxRecDepth 20000 in
theorem gX8_readNumber_X8_looked : GoodIn wsX8_readNumber (wsV RX8 119 RX8 yX8_looked wsX8_looked) := hs_gC (hs_gV (hs_inG 4 237 rfl rfl) (hs_inG 4 239 rfl rfl) (hs_inG 0 29 rfl rfl) (hs_inG 1 8 rfl rfl) inC_X8_looked)
set_option maxRecDepth 20000 in
theorem gX8_readNumber_X8_takes : GoodIn wsX8_readNumber (wsV RX8 123 RX8 yX8_takes wsX8_takes) := hs_gC (hs_gV (hs_inG 4 193 rfl rfl) (hs_inG 4 195 rfl rfl) (hs_inG 0 19 rfl rfl) (hs_inG 1 8 rfl rfl) inC_X8_takes)
theorem bqX8_readNumber_0 : hs_bs cX8_readNumber 0 [42, 27, 28, 182, 0, 119, 62, 42, 182, 0, 123, 29, 172] := hs_bs_of _ _ _ (by decide +kernel)
theorem dX8_readNumber_0 : decode cX8_readNumber 0 = .ok (.aload_n 0, 1) := dc42 bqX8_readNumber_0 0 rfl rfl
theorem dX8_readNumber_1 : decode cX8_readNumber 1 = .ok (.iload_n 1, 1) := dc27 bqX8_readNumber_0 1 rfl rfl
theorem dX8_readNumber_2 : decode cX8_readNumber 2 = .ok (.iload_n 2, 1) := dc28 bqX8_readNumber_0 2 rfl rfl
theorem dX8_readNumber_3 : decode cX8_readNumber 3 = .ok (.invokevirtual 119, 3) := dc182 bqX8_readNumber_0 3 rfl rfl rfl
theorem dX8_readNumber_6 : decode cX8_readNumber 6 = .ok (.istore_n 3, 1) := dc62 bqX8_readNumber_0 6 rfl rfl
theorem dX8_readNumber_7 : decode cX8_readNumber 7 = .ok (.aload_n 0, 1) := dc42 bqX8_readNumber_0 7 rfl rfl
theorem dX8_readNumber_8 : decode cX8_readNumber 8 = .ok (.invokevirtual 123, 3) := dc182 bqX8_readNumber_0 8 rfl rfl rfl
theorem dX8_readNumber_11 : decode cX8_readNumber 11 = .ok (.iload_n 3, 1) := dc29 bqX8_readNumber_0 11 rfl rfl
theorem dX8_readNumber_12 : decode cX8_readNumber 12 = .ok (.ireturn, 1) := dc172 bqX8_readNumber_0 12 rfl rfl
set_option maxRecDepth 20000 in
theorem gX8_readThing_X8_readNumber : GoodIn wsX8_readThing (wsV RX8 126 RX8 yX8_readNumber wsX8_readNumber) := hs_gC (hs_gV (hs_inG 4 233 rfl rfl) (hs_inG 4 235 rfl rfl) (hs_inG 0 28 rfl rfl) (hs_inG 1 8 rfl rfl) inC_X8_readNumber)
set_option maxRecDepth 20000 in
theorem gX8_readThing_X8_needs : GoodIn wsX8_readThing (wsV RX8 115 RX8 yX8_needs wsX8_needs) := hs_gC (hs_gV (hs_inG 4 205 rfl rfl) (hs_inG 4 207 rfl rfl) (hs_inG 0 21 rfl rfl) (hs_inG 1 8 rfl rfl) inC_X8_needs)
theorem bqX8_readThing_0 : hs_bs cX8_readThing 0 [42, 180, 0, 20, 4, 42, 3, 16, 9, 182, 0, 126, 79, 42, 180, 0, 20, 5, 42, 3, 16, 9] := hs_bs_of _ _ _ (by decide +kernel)
theorem dX8_readThing_0 : decode cX8_readThing 0 = .ok (.aload_n 0, 1) := dc42 bqX8_readThing_0 0 rfl rfl
theorem dX8_readThing_1 : decode cX8_readThing 1 = .ok (.getfield 20, 3) := dc180 bqX8_readThing_0 1 rfl rfl rfl
theorem dX8_readThing_4 : decode cX8_readThing 4 = .ok (.iconst 1, 1) := dc4 bqX8_readThing_0 4 rfl rfl
theorem dX8_readThing_5 : decode cX8_readThing 5 = .ok (.aload_n 0, 1) := dc42 bqX8_readThing_0 5 rfl rfl
theorem dX8_readThing_6 : decode cX8_readThing 6 = .ok (.iconst 0, 1) := dc3 bqX8_readThing_0 6 rfl rfl
theorem dX8_readThing_7 : decode cX8_readThing 7 = .ok (.bipush 9, 2) := dc16 bqX8_readThing_0 7 rfl rfl rfl
theorem dX8_readThing_9 : decode cX8_readThing 9 = .ok (.invokevirtual 126, 3) := dc182 bqX8_readThing_0 9 rfl rfl rfl
theorem dX8_readThing_12 : decode cX8_readThing 12 = .ok (.iastore, 1) := dc79 bqX8_readThing_0 12 rfl rfl
theorem dX8_readThing_13 : decode cX8_readThing 13 = .ok (.aload_n 0, 1) := dc42 bqX8_readThing_0 13 rfl rfl
theorem dX8_readThing_14 : decode cX8_readThing 14 = .ok (.getfield 20, 3) := dc180 bqX8_readThing_0 14 rfl rfl rfl
theorem dX8_readThing_17 : decode cX8_readThing 17 = .ok (.iconst 2, 1) := dc5 bqX8_readThing_0 17 rfl rfl
theorem dX8_readThing_18 : decode cX8_readThing 18 = .ok (.aload_n 0, 1) := dc42 bqX8_readThing_0 18 rfl rfl
theorem dX8_readThing_19 : decode cX8_readThing 19 = .ok (.iconst 0, 1) := dc3 bqX8_readThing_0 19 rfl rfl
theorem dX8_readThing_20 : decode cX8_readThing 20 = .ok (.bipush 9, 2) := dc16 bqX8_readThing_0 20 rfl rfl rfl
theorem bqX8_readThing_22 : hs_bs cX8_readThing 22 [182, 0, 126, 79, 42, 180, 0, 20, 3, 5, 79, 42, 180, 0, 78, 154, 0, 74, 42, 180, 0, 101, 5] := hs_bs_of _ _ _ (by decide +kernel)
theorem dX8_readThing_22 : decode cX8_readThing 22 = .ok (.invokevirtual 126, 3) := dc182 bqX8_readThing_22 0 rfl rfl rfl
theorem dX8_readThing_25 : decode cX8_readThing 25 = .ok (.iastore, 1) := dc79 bqX8_readThing_22 3 rfl rfl
theorem dX8_readThing_26 : decode cX8_readThing 26 = .ok (.aload_n 0, 1) := dc42 bqX8_readThing_22 4 rfl rfl
theorem dX8_readThing_27 : decode cX8_readThing 27 = .ok (.getfield 20, 3) := dc180 bqX8_readThing_22 5 rfl rfl rfl
theorem dX8_readThing_30 : decode cX8_readThing 30 = .ok (.iconst 0, 1) := dc3 bqX8_readThing_22 8 rfl rfl
theorem dX8_readThing_31 : decode cX8_readThing 31 = .ok (.iconst 2, 1) := dc5 bqX8_readThing_22 9 rfl rfl
theorem dX8_readThing_32 : decode cX8_readThing 32 = .ok (.iastore, 1) := dc79 bqX8_readThing_22 10 rfl rfl
theorem dX8_readThing_33 : decode cX8_readThing 33 = .ok (.aload_n 0, 1) := dc42 bqX8_readThing_22 11 rfl rfl
theorem dX8_readThing_34 : decode cX8_readThing 34 = .ok (.getfield 78, 3) := dc180 bqX8_readThing_22 12 rfl rfl rfl
theorem dX8_readThing_37 : decode cX8_readThing 37 = .ok (.ifCond .ne 74, 3) := dc154 bqX8_readThing_22 15 rfl rfl rfl
theorem dX8_readThing_40 : decode cX8_readThing 40 = .ok (.aload_n 0, 1) := dc42 bqX8_readThing_22 18 rfl rfl
theorem dX8_readThing_41 : decode cX8_readThing 41 = .ok (.getfield 101, 3) := dc180 bqX8_readThing_22 19 rfl rfl rfl
theorem dX8_readThing_44 : decode cX8_readThing 44 = .ok (.iconst 2, 1) := dc5 bqX8_readThing_22 22 rfl rfl
theorem bqX8_readThing_45 : hs_bs cX8_readThing 45 [160, 0, 66, 42, 42, 180, 0, 20, 3, 46, 16, 8, 162, 0, 7, 4, 167, 0, 4, 3, 8, 182, 0, 115] := hs_bs_of _ _ _ (by decide +kernel)
theorem dX8_readThing_45 : decode cX8_readThing 45 = .ok (.if_icmp .ne 66, 3) := dc160 bqX8_readThing_45 0 rfl rfl rfl
theorem dX8_readThing_48 : decode cX8_readThing 48 = .ok (.aload_n 0, 1) := dc42 bqX8_readThing_45 3 rfl rfl
theorem dX8_readThing_49 : decode cX8_readThing 49 = .ok (.aload_n 0, 1) := dc42 bqX8_readThing_45 4 rfl rfl
theorem dX8_readThing_50 : decode cX8_readThing 50 = .ok (.getfield 20, 3) := dc180 bqX8_readThing_45 5 rfl rfl rfl
theorem dX8_readThing_53 : decode cX8_readThing 53 = .ok (.iconst 0, 1) := dc3 bqX8_readThing_45 8 rfl rfl
theorem dX8_readThing_54 : decode cX8_readThing 54 = .ok (.iaload, 1) := dc46 bqX8_readThing_45 9 rfl rfl
theorem dX8_readThing_55 : decode cX8_readThing 55 = .ok (.bipush 8, 2) := dc16 bqX8_readThing_45 10 rfl rfl rfl
theorem dX8_readThing_57 : decode cX8_readThing 57 = .ok (.if_icmp .ge 7, 3) := dc162 bqX8_readThing_45 12 rfl rfl rfl
theorem dX8_readThing_60 : decode cX8_readThing 60 = .ok (.iconst 1, 1) := dc4 bqX8_readThing_45 15 rfl rfl
theorem dX8_readThing_61 : decode cX8_readThing 61 = .ok (.goto 4, 3) := dc167 bqX8_readThing_45 16 rfl rfl rfl
theorem dX8_readThing_64 : decode cX8_readThing 64 = .ok (.iconst 0, 1) := dc3 bqX8_readThing_45 19 rfl rfl
theorem dX8_readThing_65 : decode cX8_readThing 65 = .ok (.iconst 5, 1) := dc8 bqX8_readThing_45 20 rfl rfl
theorem dX8_readThing_66 : decode cX8_readThing 66 = .ok (.invokevirtual 115, 3) := dc182 bqX8_readThing_45 21 rfl rfl rfl
theorem bqX8_readThing_69 : hs_bs cX8_readThing 69 [42, 3, 16, 9, 182, 0, 126, 60, 42, 180, 0, 78, 154, 0, 27, 42, 180, 0, 20, 4, 42, 180, 0, 20] := hs_bs_of _ _ _ (by decide +kernel)
theorem dX8_readThing_69 : decode cX8_readThing 69 = .ok (.aload_n 0, 1) := dc42 bqX8_readThing_69 0 rfl rfl
theorem dX8_readThing_70 : decode cX8_readThing 70 = .ok (.iconst 0, 1) := dc3 bqX8_readThing_69 1 rfl rfl
theorem dX8_readThing_71 : decode cX8_readThing 71 = .ok (.bipush 9, 2) := dc16 bqX8_readThing_69 2 rfl rfl rfl
theorem dX8_readThing_73 : decode cX8_readThing 73 = .ok (.invokevirtual 126, 3) := dc182 bqX8_readThing_69 4 rfl rfl rfl
theorem dX8_readThing_76 : decode cX8_readThing 76 = .ok (.istore_n 1, 1) := dc60 bqX8_readThing_69 7 rfl rfl
theorem dX8_readThing_77 : decode cX8_readThing 77 = .ok (.aload_n 0, 1) := dc42 bqX8_readThing_69 8 rfl rfl
theorem dX8_readThing_78 : decode cX8_readThing 78 = .ok (.getfield 78, 3) := dc180 bqX8_readThing_69 9 rfl rfl rfl
theorem dX8_readThing_81 : decode cX8_readThing 81 = .ok (.ifCond .ne 27, 3) := dc154 bqX8_readThing_69 12 rfl rfl rfl
theorem dX8_readThing_84 : decode cX8_readThing 84 = .ok (.aload_n 0, 1) := dc42 bqX8_readThing_69 15 rfl rfl
theorem dX8_readThing_85 : decode cX8_readThing 85 = .ok (.getfield 20, 3) := dc180 bqX8_readThing_69 16 rfl rfl rfl
theorem dX8_readThing_88 : decode cX8_readThing 88 = .ok (.iconst 1, 1) := dc4 bqX8_readThing_69 19 rfl rfl
theorem dX8_readThing_89 : decode cX8_readThing 89 = .ok (.aload_n 0, 1) := dc42 bqX8_readThing_69 20 rfl rfl
theorem dX8_readThing_90 : decode cX8_readThing 90 = .ok (.getfield 20, 3) := dc180 bqX8_readThing_69 21 rfl rfl rfl
theorem bqX8_readThing_93 : hs_bs cX8_readThing 93 [3, 46, 96, 27, 79, 42, 180, 0, 20, 3, 92, 46, 4, 96, 79, 167, 255, 181, 177] := hs_bs_of _ _ _ (by decide +kernel)
theorem dX8_readThing_93 : decode cX8_readThing 93 = .ok (.iconst 0, 1) := dc3 bqX8_readThing_93 0 rfl rfl
theorem dX8_readThing_94 : decode cX8_readThing 94 = .ok (.iaload, 1) := dc46 bqX8_readThing_93 1 rfl rfl
theorem dX8_readThing_95 : decode cX8_readThing 95 = .ok (.iadd, 1) := dc96 bqX8_readThing_93 2 rfl rfl
theorem dX8_readThing_96 : decode cX8_readThing 96 = .ok (.iload_n 1, 1) := dc27 bqX8_readThing_93 3 rfl rfl
theorem dX8_readThing_97 : decode cX8_readThing 97 = .ok (.iastore, 1) := dc79 bqX8_readThing_93 4 rfl rfl
theorem dX8_readThing_98 : decode cX8_readThing 98 = .ok (.aload_n 0, 1) := dc42 bqX8_readThing_93 5 rfl rfl
theorem dX8_readThing_99 : decode cX8_readThing 99 = .ok (.getfield 20, 3) := dc180 bqX8_readThing_93 6 rfl rfl rfl
theorem dX8_readThing_102 : decode cX8_readThing 102 = .ok (.iconst 0, 1) := dc3 bqX8_readThing_93 9 rfl rfl
theorem dX8_readThing_103 : decode cX8_readThing 103 = .ok (.dup2, 1) := dc92 bqX8_readThing_93 10 rfl rfl
theorem dX8_readThing_104 : decode cX8_readThing 104 = .ok (.iaload, 1) := dc46 bqX8_readThing_93 11 rfl rfl
theorem dX8_readThing_105 : decode cX8_readThing 105 = .ok (.iconst 1, 1) := dc4 bqX8_readThing_93 12 rfl rfl
theorem dX8_readThing_106 : decode cX8_readThing 106 = .ok (.iadd, 1) := dc96 bqX8_readThing_93 13 rfl rfl
theorem dX8_readThing_107 : decode cX8_readThing 107 = .ok (.iastore, 1) := dc79 bqX8_readThing_93 14 rfl rfl
theorem dX8_readThing_108 : decode cX8_readThing 108 = .ok (.goto (-75), 3) := dc167 bqX8_readThing_93 15 rfl rfl rfl
theorem dX8_readThing_111 : decode cX8_readThing 111 = .ok (.return_, 1) := dc177 bqX8_readThing_93 18 rfl rfl
set_option maxRecDepth 20000 in
theorem gX8_readLighter_X8_readNumber : GoodIn wsX8_readLighter (wsV RX8 126 RX8 yX8_readNumber wsX8_readNumber) := hs_gC (hs_gV (hs_inG 4 233 rfl rfl) (hs_inG 4 235 rfl rfl) (hs_inG 0 28 rfl rfl) (hs_inG 1 8 rfl rfl) inC_X8_readNumber)
set_option maxRecDepth 20000 in
theorem gX8_readLighter_X8_looked : GoodIn wsX8_readLighter (wsV RX8 119 RX8 yX8_looked wsX8_looked) := hs_gC (hs_gV (hs_inG 4 237 rfl rfl) (hs_inG 4 239 rfl rfl) (hs_inG 0 29 rfl rfl) (hs_inG 1 8 rfl rfl) inC_X8_looked)
set_option maxRecDepth 20000 in
theorem gX8_readLighter_X8_needs : GoodIn wsX8_readLighter (wsV RX8 115 RX8 yX8_needs wsX8_needs) := hs_gC (hs_gV (hs_inG 4 205 rfl rfl) (hs_inG 4 207 rfl rfl) (hs_inG 0 21 rfl rfl) (hs_inG 1 8 rfl rfl) inC_X8_needs)
set_option maxRecDepth 20000 in
theorem gX8_readLighter_X8_takes : GoodIn wsX8_readLighter (wsV RX8 123 RX8 yX8_takes wsX8_takes) := hs_gC (hs_gV (hs_inG 4 193 rfl rfl) (hs_inG 4 195 rfl rfl) (hs_inG 0 19 rfl rfl) (hs_inG 1 8 rfl rfl) inC_X8_takes)
theorem bqX8_readLighter_0 : hs_bs cX8_readLighter 0 [42, 3, 7, 182, 0, 126, 60, 42, 3, 7, 182, 0, 119, 61, 42, 180, 0, 78, 154, 0, 18, 42, 27, 28] := hs_bs_of _ _ _ (by decide +kernel)
theorem dX8_readLighter_0 : decode cX8_readLighter 0 = .ok (.aload_n 0, 1) := dc42 bqX8_readLighter_0 0 rfl rfl
theorem dX8_readLighter_1 : decode cX8_readLighter 1 = .ok (.iconst 0, 1) := dc3 bqX8_readLighter_0 1 rfl rfl
theorem dX8_readLighter_2 : decode cX8_readLighter 2 = .ok (.iconst 4, 1) := dc7 bqX8_readLighter_0 2 rfl rfl
theorem dX8_readLighter_3 : decode cX8_readLighter 3 = .ok (.invokevirtual 126, 3) := dc182 bqX8_readLighter_0 3 rfl rfl rfl
theorem dX8_readLighter_6 : decode cX8_readLighter 6 = .ok (.istore_n 1, 1) := dc60 bqX8_readLighter_0 6 rfl rfl
theorem dX8_readLighter_7 : decode cX8_readLighter 7 = .ok (.aload_n 0, 1) := dc42 bqX8_readLighter_0 7 rfl rfl
theorem dX8_readLighter_8 : decode cX8_readLighter 8 = .ok (.iconst 0, 1) := dc3 bqX8_readLighter_0 8 rfl rfl
theorem dX8_readLighter_9 : decode cX8_readLighter 9 = .ok (.iconst 4, 1) := dc7 bqX8_readLighter_0 9 rfl rfl
theorem dX8_readLighter_10 : decode cX8_readLighter 10 = .ok (.invokevirtual 119, 3) := dc182 bqX8_readLighter_0 10 rfl rfl rfl
theorem dX8_readLighter_13 : decode cX8_readLighter 13 = .ok (.istore_n 2, 1) := dc61 bqX8_readLighter_0 13 rfl rfl
theorem dX8_readLighter_14 : decode cX8_readLighter 14 = .ok (.aload_n 0, 1) := dc42 bqX8_readLighter_0 14 rfl rfl
theorem dX8_readLighter_15 : decode cX8_readLighter 15 = .ok (.getfield 78, 3) := dc180 bqX8_readLighter_0 15 rfl rfl rfl
theorem dX8_readLighter_18 : decode cX8_readLighter 18 = .ok (.ifCond .ne 18, 3) := dc154 bqX8_readLighter_0 18 rfl rfl rfl
theorem dX8_readLighter_21 : decode cX8_readLighter 21 = .ok (.aload_n 0, 1) := dc42 bqX8_readLighter_0 21 rfl rfl
theorem dX8_readLighter_22 : decode cX8_readLighter 22 = .ok (.iload_n 1, 1) := dc27 bqX8_readLighter_0 22 rfl rfl
theorem dX8_readLighter_23 : decode cX8_readLighter 23 = .ok (.iload_n 2, 1) := dc28 bqX8_readLighter_0 23 rfl rfl
theorem bqX8_readLighter_24 : hs_bs cX8_readLighter 24 [159, 0, 7, 4, 167, 0, 4, 3, 6, 182, 0, 115, 42, 180, 0, 78, 154, 0, 75, 42, 180, 0, 20] := hs_bs_of _ _ _ (by decide +kernel)
theorem dX8_readLighter_24 : decode cX8_readLighter 24 = .ok (.if_icmp .eq 7, 3) := dc159 bqX8_readLighter_24 0 rfl rfl rfl
theorem dX8_readLighter_27 : decode cX8_readLighter 27 = .ok (.iconst 1, 1) := dc4 bqX8_readLighter_24 3 rfl rfl
theorem dX8_readLighter_28 : decode cX8_readLighter 28 = .ok (.goto 4, 3) := dc167 bqX8_readLighter_24 4 rfl rfl rfl
theorem dX8_readLighter_31 : decode cX8_readLighter 31 = .ok (.iconst 0, 1) := dc3 bqX8_readLighter_24 7 rfl rfl
theorem dX8_readLighter_32 : decode cX8_readLighter 32 = .ok (.iconst 3, 1) := dc6 bqX8_readLighter_24 8 rfl rfl
theorem dX8_readLighter_33 : decode cX8_readLighter 33 = .ok (.invokevirtual 115, 3) := dc182 bqX8_readLighter_24 9 rfl rfl rfl
theorem dX8_readLighter_36 : decode cX8_readLighter 36 = .ok (.aload_n 0, 1) := dc42 bqX8_readLighter_24 12 rfl rfl
theorem dX8_readLighter_37 : decode cX8_readLighter 37 = .ok (.getfield 78, 3) := dc180 bqX8_readLighter_24 13 rfl rfl rfl
theorem dX8_readLighter_40 : decode cX8_readLighter 40 = .ok (.ifCond .ne 75, 3) := dc154 bqX8_readLighter_24 16 rfl rfl rfl
theorem dX8_readLighter_43 : decode cX8_readLighter 43 = .ok (.aload_n 0, 1) := dc42 bqX8_readLighter_24 19 rfl rfl
theorem dX8_readLighter_44 : decode cX8_readLighter 44 = .ok (.getfield 20, 3) := dc180 bqX8_readLighter_24 20 rfl rfl rfl
theorem bqX8_readLighter_47 : hs_bs cX8_readLighter 47 [16, 17, 42, 180, 0, 20, 16, 16, 46, 96, 16, 10, 27, 104, 28, 96, 79, 42, 180, 0, 20, 16, 16, 92] := hs_bs_of _ _ _ (by decide +kernel)
theorem dX8_readLighter_47 : decode cX8_readLighter 47 = .ok (.bipush 17, 2) := dc16 bqX8_readLighter_47 0 rfl rfl rfl
theorem dX8_readLighter_49 : decode cX8_readLighter 49 = .ok (.aload_n 0, 1) := dc42 bqX8_readLighter_47 2 rfl rfl
theorem dX8_readLighter_50 : decode cX8_readLighter 50 = .ok (.getfield 20, 3) := dc180 bqX8_readLighter_47 3 rfl rfl rfl
theorem dX8_readLighter_53 : decode cX8_readLighter 53 = .ok (.bipush 16, 2) := dc16 bqX8_readLighter_47 6 rfl rfl rfl
theorem dX8_readLighter_55 : decode cX8_readLighter 55 = .ok (.iaload, 1) := dc46 bqX8_readLighter_47 8 rfl rfl
theorem dX8_readLighter_56 : decode cX8_readLighter 56 = .ok (.iadd, 1) := dc96 bqX8_readLighter_47 9 rfl rfl
theorem dX8_readLighter_57 : decode cX8_readLighter 57 = .ok (.bipush 10, 2) := dc16 bqX8_readLighter_47 10 rfl rfl rfl
theorem dX8_readLighter_59 : decode cX8_readLighter 59 = .ok (.iload_n 1, 1) := dc27 bqX8_readLighter_47 12 rfl rfl
theorem dX8_readLighter_60 : decode cX8_readLighter 60 = .ok (.imul, 1) := dc104 bqX8_readLighter_47 13 rfl rfl
theorem dX8_readLighter_61 : decode cX8_readLighter 61 = .ok (.iload_n 2, 1) := dc28 bqX8_readLighter_47 14 rfl rfl
theorem dX8_readLighter_62 : decode cX8_readLighter 62 = .ok (.iadd, 1) := dc96 bqX8_readLighter_47 15 rfl rfl
theorem dX8_readLighter_63 : decode cX8_readLighter 63 = .ok (.iastore, 1) := dc79 bqX8_readLighter_47 16 rfl rfl
theorem dX8_readLighter_64 : decode cX8_readLighter 64 = .ok (.aload_n 0, 1) := dc42 bqX8_readLighter_47 17 rfl rfl
theorem dX8_readLighter_65 : decode cX8_readLighter 65 = .ok (.getfield 20, 3) := dc180 bqX8_readLighter_47 18 rfl rfl rfl
theorem dX8_readLighter_68 : decode cX8_readLighter 68 = .ok (.bipush 16, 2) := dc16 bqX8_readLighter_47 21 rfl rfl rfl
theorem dX8_readLighter_70 : decode cX8_readLighter 70 = .ok (.dup2, 1) := dc92 bqX8_readLighter_47 23 rfl rfl
theorem bqX8_readLighter_71 : hs_bs cX8_readLighter 71 [46, 4, 96, 79, 42, 27, 42, 180, 0, 60, 164, 0, 7, 27, 167, 0, 7, 42, 180, 0, 60, 181, 0, 60] := hs_bs_of _ _ _ (by decide +kernel)
theorem dX8_readLighter_71 : decode cX8_readLighter 71 = .ok (.iaload, 1) := dc46 bqX8_readLighter_71 0 rfl rfl
theorem dX8_readLighter_72 : decode cX8_readLighter 72 = .ok (.iconst 1, 1) := dc4 bqX8_readLighter_71 1 rfl rfl
theorem dX8_readLighter_73 : decode cX8_readLighter 73 = .ok (.iadd, 1) := dc96 bqX8_readLighter_71 2 rfl rfl
theorem dX8_readLighter_74 : decode cX8_readLighter 74 = .ok (.iastore, 1) := dc79 bqX8_readLighter_71 3 rfl rfl
theorem dX8_readLighter_75 : decode cX8_readLighter 75 = .ok (.aload_n 0, 1) := dc42 bqX8_readLighter_71 4 rfl rfl
theorem dX8_readLighter_76 : decode cX8_readLighter 76 = .ok (.iload_n 1, 1) := dc27 bqX8_readLighter_71 5 rfl rfl
theorem dX8_readLighter_77 : decode cX8_readLighter 77 = .ok (.aload_n 0, 1) := dc42 bqX8_readLighter_71 6 rfl rfl
theorem dX8_readLighter_78 : decode cX8_readLighter 78 = .ok (.getfield 60, 3) := dc180 bqX8_readLighter_71 7 rfl rfl rfl
theorem dX8_readLighter_81 : decode cX8_readLighter 81 = .ok (.if_icmp .le 7, 3) := dc164 bqX8_readLighter_71 10 rfl rfl rfl
theorem dX8_readLighter_84 : decode cX8_readLighter 84 = .ok (.iload_n 1, 1) := dc27 bqX8_readLighter_71 13 rfl rfl
theorem dX8_readLighter_85 : decode cX8_readLighter 85 = .ok (.goto 7, 3) := dc167 bqX8_readLighter_71 14 rfl rfl rfl
theorem dX8_readLighter_88 : decode cX8_readLighter 88 = .ok (.aload_n 0, 1) := dc42 bqX8_readLighter_71 17 rfl rfl
theorem dX8_readLighter_89 : decode cX8_readLighter 89 = .ok (.getfield 60, 3) := dc180 bqX8_readLighter_71 18 rfl rfl rfl
theorem dX8_readLighter_92 : decode cX8_readLighter 92 = .ok (.putfield 60, 3) := dc181 bqX8_readLighter_71 21 rfl rfl rfl
theorem bqX8_readLighter_95 : hs_bs cX8_readLighter 95 [42, 28, 42, 180, 0, 60, 164, 0, 7, 28, 167, 0, 7, 42, 180, 0, 60, 181, 0, 60, 42, 182, 0, 123] := hs_bs_of _ _ _ (by decide +kernel)
theorem dX8_readLighter_95 : decode cX8_readLighter 95 = .ok (.aload_n 0, 1) := dc42 bqX8_readLighter_95 0 rfl rfl
theorem dX8_readLighter_96 : decode cX8_readLighter 96 = .ok (.iload_n 2, 1) := dc28 bqX8_readLighter_95 1 rfl rfl
theorem dX8_readLighter_97 : decode cX8_readLighter 97 = .ok (.aload_n 0, 1) := dc42 bqX8_readLighter_95 2 rfl rfl
theorem dX8_readLighter_98 : decode cX8_readLighter 98 = .ok (.getfield 60, 3) := dc180 bqX8_readLighter_95 3 rfl rfl rfl
theorem dX8_readLighter_101 : decode cX8_readLighter 101 = .ok (.if_icmp .le 7, 3) := dc164 bqX8_readLighter_95 6 rfl rfl rfl
theorem dX8_readLighter_104 : decode cX8_readLighter 104 = .ok (.iload_n 2, 1) := dc28 bqX8_readLighter_95 9 rfl rfl
theorem dX8_readLighter_105 : decode cX8_readLighter 105 = .ok (.goto 7, 3) := dc167 bqX8_readLighter_95 10 rfl rfl rfl
theorem dX8_readLighter_108 : decode cX8_readLighter 108 = .ok (.aload_n 0, 1) := dc42 bqX8_readLighter_95 13 rfl rfl
theorem dX8_readLighter_109 : decode cX8_readLighter 109 = .ok (.getfield 60, 3) := dc180 bqX8_readLighter_95 14 rfl rfl rfl
theorem dX8_readLighter_112 : decode cX8_readLighter 112 = .ok (.putfield 60, 3) := dc181 bqX8_readLighter_95 17 rfl rfl rfl
theorem dX8_readLighter_115 : decode cX8_readLighter 115 = .ok (.aload_n 0, 1) := dc42 bqX8_readLighter_95 20 rfl rfl
theorem dX8_readLighter_116 : decode cX8_readLighter 116 = .ok (.invokevirtual 123, 3) := dc182 bqX8_readLighter_95 21 rfl rfl rfl
theorem bqX8_readLighter_119 : hs_bs cX8_readLighter 119 [177] := hs_bs_of _ _ _ (by decide +kernel)
theorem dX8_readLighter_119 : decode cX8_readLighter 119 = .ok (.return_, 1) := dc177 bqX8_readLighter_119 0 rfl rfl
set_option maxRecDepth 20000 in
theorem gX8_readLineOf_X8_readLighter : GoodIn wsX8_readLineOf (wsV RX8 129 RX8 yX8_readLighter wsX8_readLighter) := hs_gC (hs_gV (hs_inG 4 229 rfl rfl) (hs_inG 4 231 rfl rfl) (hs_inG 0 27 rfl rfl) (hs_inG 1 8 rfl rfl) inC_X8_readLighter)
set_option maxRecDepth 20000 in
theorem gX8_readLineOf_X8_readThing : GoodIn wsX8_readLineOf (wsV RX8 132 RX8 yX8_readThing wsX8_readThing) := hs_gC (hs_gV (hs_inG 5 1 rfl rfl) (hs_inG 5 3 rfl rfl) (hs_inG 0 30 rfl rfl) (hs_inG 1 8 rfl rfl) inC_X8_readThing)
set_option maxRecDepth 20000 in
theorem gX8_readLineOf_X8_readNumber : GoodIn wsX8_readLineOf (wsV RX8 126 RX8 yX8_readNumber wsX8_readNumber) := hs_gC (hs_gV (hs_inG 4 233 rfl rfl) (hs_inG 4 235 rfl rfl) (hs_inG 0 28 rfl rfl) (hs_inG 1 8 rfl rfl) inC_X8_readNumber)
theorem bqX8_readLineOf_0 : hs_bs cX8_readLineOf 0 [27] := hs_bs_of _ _ _ (by decide +kernel)
theorem dX8_readLineOf_0 : decode cX8_readLineOf 0 = .ok (.iload_n 1, 1) := dc27 bqX8_readLineOf_0 0 rfl rfl
theorem dX8_readLineOf_1 : decode cX8_readLineOf 1 = .ok (.tableswitch 96 4 8 #[35, 42, 49, 66, 83], 35) := by decide +kernel
theorem bqX8_readLineOf_36 : hs_bs cX8_readLineOf 36 [42, 182, 0, 129, 167, 0, 80, 42, 182, 0, 132, 167, 0, 73, 42, 180, 0, 20, 16, 13, 42, 3, 16, 9] := hs_bs_of _ _ _ (by decide +kernel)
theorem dX8_readLineOf_36 : decode cX8_readLineOf 36 = .ok (.aload_n 0, 1) := dc42 bqX8_readLineOf_36 0 rfl rfl
theorem dX8_readLineOf_37 : decode cX8_readLineOf 37 = .ok (.invokevirtual 129, 3) := dc182 bqX8_readLineOf_36 1 rfl rfl rfl
theorem dX8_readLineOf_40 : decode cX8_readLineOf 40 = .ok (.goto 80, 3) := dc167 bqX8_readLineOf_36 4 rfl rfl rfl
theorem dX8_readLineOf_43 : decode cX8_readLineOf 43 = .ok (.aload_n 0, 1) := dc42 bqX8_readLineOf_36 7 rfl rfl
theorem dX8_readLineOf_44 : decode cX8_readLineOf 44 = .ok (.invokevirtual 132, 3) := dc182 bqX8_readLineOf_36 8 rfl rfl rfl
theorem dX8_readLineOf_47 : decode cX8_readLineOf 47 = .ok (.goto 73, 3) := dc167 bqX8_readLineOf_36 11 rfl rfl rfl
theorem dX8_readLineOf_50 : decode cX8_readLineOf 50 = .ok (.aload_n 0, 1) := dc42 bqX8_readLineOf_36 14 rfl rfl
theorem dX8_readLineOf_51 : decode cX8_readLineOf 51 = .ok (.getfield 20, 3) := dc180 bqX8_readLineOf_36 15 rfl rfl rfl
theorem dX8_readLineOf_54 : decode cX8_readLineOf 54 = .ok (.bipush 13, 2) := dc16 bqX8_readLineOf_36 18 rfl rfl rfl
theorem dX8_readLineOf_56 : decode cX8_readLineOf 56 = .ok (.aload_n 0, 1) := dc42 bqX8_readLineOf_36 20 rfl rfl
theorem dX8_readLineOf_57 : decode cX8_readLineOf 57 = .ok (.iconst 0, 1) := dc3 bqX8_readLineOf_36 21 rfl rfl
theorem dX8_readLineOf_58 : decode cX8_readLineOf 58 = .ok (.bipush 9, 2) := dc16 bqX8_readLineOf_36 22 rfl rfl rfl
theorem bqX8_readLineOf_60 : hs_bs cX8_readLineOf 60 [182, 0, 126, 79, 167, 0, 56, 42, 180, 0, 20, 16, 14, 42, 3, 16, 99, 182, 0, 126, 79, 167, 0, 39] := hs_bs_of _ _ _ (by decide +kernel)
theorem dX8_readLineOf_60 : decode cX8_readLineOf 60 = .ok (.invokevirtual 126, 3) := dc182 bqX8_readLineOf_60 0 rfl rfl rfl
theorem dX8_readLineOf_63 : decode cX8_readLineOf 63 = .ok (.iastore, 1) := dc79 bqX8_readLineOf_60 3 rfl rfl
theorem dX8_readLineOf_64 : decode cX8_readLineOf 64 = .ok (.goto 56, 3) := dc167 bqX8_readLineOf_60 4 rfl rfl rfl
theorem dX8_readLineOf_67 : decode cX8_readLineOf 67 = .ok (.aload_n 0, 1) := dc42 bqX8_readLineOf_60 7 rfl rfl
theorem dX8_readLineOf_68 : decode cX8_readLineOf 68 = .ok (.getfield 20, 3) := dc180 bqX8_readLineOf_60 8 rfl rfl rfl
theorem dX8_readLineOf_71 : decode cX8_readLineOf 71 = .ok (.bipush 14, 2) := dc16 bqX8_readLineOf_60 11 rfl rfl rfl
theorem dX8_readLineOf_73 : decode cX8_readLineOf 73 = .ok (.aload_n 0, 1) := dc42 bqX8_readLineOf_60 13 rfl rfl
theorem dX8_readLineOf_74 : decode cX8_readLineOf 74 = .ok (.iconst 0, 1) := dc3 bqX8_readLineOf_60 14 rfl rfl
theorem dX8_readLineOf_75 : decode cX8_readLineOf 75 = .ok (.bipush 99, 2) := dc16 bqX8_readLineOf_60 15 rfl rfl rfl
theorem dX8_readLineOf_77 : decode cX8_readLineOf 77 = .ok (.invokevirtual 126, 3) := dc182 bqX8_readLineOf_60 17 rfl rfl rfl
theorem dX8_readLineOf_80 : decode cX8_readLineOf 80 = .ok (.iastore, 1) := dc79 bqX8_readLineOf_60 20 rfl rfl
theorem dX8_readLineOf_81 : decode cX8_readLineOf 81 = .ok (.goto 39, 3) := dc167 bqX8_readLineOf_60 21 rfl rfl rfl
theorem bqX8_readLineOf_84 : hs_bs cX8_readLineOf 84 [42, 42, 5, 8, 182, 0, 126, 181, 0, 54, 167, 0, 26, 42, 180, 0, 20, 16, 9, 42, 180, 0, 50, 96] := hs_bs_of _ _ _ (by decide +kernel)
theorem dX8_readLineOf_84 : decode cX8_readLineOf 84 = .ok (.aload_n 0, 1) := dc42 bqX8_readLineOf_84 0 rfl rfl
theorem dX8_readLineOf_85 : decode cX8_readLineOf 85 = .ok (.aload_n 0, 1) := dc42 bqX8_readLineOf_84 1 rfl rfl
theorem dX8_readLineOf_86 : decode cX8_readLineOf 86 = .ok (.iconst 2, 1) := dc5 bqX8_readLineOf_84 2 rfl rfl
theorem dX8_readLineOf_87 : decode cX8_readLineOf 87 = .ok (.iconst 5, 1) := dc8 bqX8_readLineOf_84 3 rfl rfl
theorem dX8_readLineOf_88 : decode cX8_readLineOf 88 = .ok (.invokevirtual 126, 3) := dc182 bqX8_readLineOf_84 4 rfl rfl rfl
theorem dX8_readLineOf_91 : decode cX8_readLineOf 91 = .ok (.putfield 54, 3) := dc181 bqX8_readLineOf_84 7 rfl rfl rfl
theorem dX8_readLineOf_94 : decode cX8_readLineOf 94 = .ok (.goto 26, 3) := dc167 bqX8_readLineOf_84 10 rfl rfl rfl
theorem dX8_readLineOf_97 : decode cX8_readLineOf 97 = .ok (.aload_n 0, 1) := dc42 bqX8_readLineOf_84 13 rfl rfl
theorem dX8_readLineOf_98 : decode cX8_readLineOf 98 = .ok (.getfield 20, 3) := dc180 bqX8_readLineOf_84 14 rfl rfl rfl
theorem dX8_readLineOf_101 : decode cX8_readLineOf 101 = .ok (.bipush 9, 2) := dc16 bqX8_readLineOf_84 17 rfl rfl rfl
theorem dX8_readLineOf_103 : decode cX8_readLineOf 103 = .ok (.aload_n 0, 1) := dc42 bqX8_readLineOf_84 19 rfl rfl
theorem dX8_readLineOf_104 : decode cX8_readLineOf 104 = .ok (.getfield 50, 3) := dc180 bqX8_readLineOf_84 20 rfl rfl rfl
theorem dX8_readLineOf_107 : decode cX8_readLineOf 107 = .ok (.iadd, 1) := dc96 bqX8_readLineOf_84 23 rfl rfl
theorem bqX8_readLineOf_108 : hs_bs cX8_readLineOf 108 [27, 79, 42, 89, 180, 0, 50, 4, 96, 181, 0, 50, 177] := hs_bs_of _ _ _ (by decide +kernel)
theorem dX8_readLineOf_108 : decode cX8_readLineOf 108 = .ok (.iload_n 1, 1) := dc27 bqX8_readLineOf_108 0 rfl rfl
theorem dX8_readLineOf_109 : decode cX8_readLineOf 109 = .ok (.iastore, 1) := dc79 bqX8_readLineOf_108 1 rfl rfl
theorem dX8_readLineOf_110 : decode cX8_readLineOf 110 = .ok (.aload_n 0, 1) := dc42 bqX8_readLineOf_108 2 rfl rfl
theorem dX8_readLineOf_111 : decode cX8_readLineOf 111 = .ok (.dup, 1) := dc89 bqX8_readLineOf_108 3 rfl rfl
theorem dX8_readLineOf_112 : decode cX8_readLineOf 112 = .ok (.getfield 50, 3) := dc180 bqX8_readLineOf_108 4 rfl rfl rfl
theorem dX8_readLineOf_115 : decode cX8_readLineOf 115 = .ok (.iconst 1, 1) := dc4 bqX8_readLineOf_108 7 rfl rfl
theorem dX8_readLineOf_116 : decode cX8_readLineOf 116 = .ok (.iadd, 1) := dc96 bqX8_readLineOf_108 8 rfl rfl
theorem dX8_readLineOf_117 : decode cX8_readLineOf 117 = .ok (.putfield 50, 3) := dc181 bqX8_readLineOf_108 9 rfl rfl rfl
theorem dX8_readLineOf_120 : decode cX8_readLineOf 120 = .ok (.return_, 1) := dc177 bqX8_readLineOf_108 12 rfl rfl
set_option maxRecDepth 20000 in
theorem gX8_readLine_X8_lineNow : GoodIn wsX8_readLine (wsV RX8 135 RX8 yX8_lineNow wsX8_lineNow) := hs_gC (hs_gV (hs_inG 4 213 rfl rfl) (hs_inG 4 215 rfl rfl) (hs_inG 0 23 rfl rfl) (hs_inG 1 8 rfl rfl) inC_X8_lineNow)
set_option maxRecDepth 20000 in
theorem gX8_readLine_X8_needs : GoodIn wsX8_readLine (wsV RX8 115 RX8 yX8_needs wsX8_needs) := hs_gC (hs_gV (hs_inG 4 205 rfl rfl) (hs_inG 4 207 rfl rfl) (hs_inG 0 21 rfl rfl) (hs_inG 1 8 rfl rfl) inC_X8_needs)
set_option maxRecDepth 20000 in
theorem gX8_readLine_X8_takes : GoodIn wsX8_readLine (wsV RX8 123 RX8 yX8_takes wsX8_takes) := hs_gC (hs_gV (hs_inG 4 193 rfl rfl) (hs_inG 4 195 rfl rfl) (hs_inG 0 19 rfl rfl) (hs_inG 1 8 rfl rfl) inC_X8_takes)
set_option maxRecDepth 20000 in
theorem gX8_readLine_X8_readLineOf : GoodIn wsX8_readLine (wsV RX8 139 RX8 yX8_readLineOf wsX8_readLineOf) := hs_gC (hs_gV (hs_inG 4 225 rfl rfl) (hs_inG 4 227 rfl rfl) (hs_inG 0 26 rfl rfl) (hs_inG 1 8 rfl rfl) inC_X8_readLineOf)
theorem bqX8_readLine_0 : hs_bs cX8_readLine 0 [42, 180, 0, 101, 4, 160, 0, 10, 42, 182, 0, 135, 167, 0, 5, 16, 252, 60, 42, 27, 16, 252] := hs_bs_of _ _ _ (by decide +kernel)
theorem dX8_readLine_0 : decode cX8_readLine 0 = .ok (.aload_n 0, 1) := dc42 bqX8_readLine_0 0 rfl rfl
theorem dX8_readLine_1 : decode cX8_readLine 1 = .ok (.getfield 101, 3) := dc180 bqX8_readLine_0 1 rfl rfl rfl
theorem dX8_readLine_4 : decode cX8_readLine 4 = .ok (.iconst 1, 1) := dc4 bqX8_readLine_0 4 rfl rfl
theorem dX8_readLine_5 : decode cX8_readLine 5 = .ok (.if_icmp .ne 10, 3) := dc160 bqX8_readLine_0 5 rfl rfl rfl
theorem dX8_readLine_8 : decode cX8_readLine 8 = .ok (.aload_n 0, 1) := dc42 bqX8_readLine_0 8 rfl rfl
theorem dX8_readLine_9 : decode cX8_readLine 9 = .ok (.invokevirtual 135, 3) := dc182 bqX8_readLine_0 9 rfl rfl rfl
theorem dX8_readLine_12 : decode cX8_readLine 12 = .ok (.goto 5, 3) := dc167 bqX8_readLine_0 12 rfl rfl rfl
theorem dX8_readLine_15 : decode cX8_readLine 15 = .ok (.bipush (-4), 2) := dc16 bqX8_readLine_0 15 rfl rfl rfl
theorem dX8_readLine_17 : decode cX8_readLine 17 = .ok (.istore_n 1, 1) := dc60 bqX8_readLine_0 17 rfl rfl
theorem dX8_readLine_18 : decode cX8_readLine 18 = .ok (.aload_n 0, 1) := dc42 bqX8_readLine_0 18 rfl rfl
theorem dX8_readLine_19 : decode cX8_readLine 19 = .ok (.iload_n 1, 1) := dc27 bqX8_readLine_0 19 rfl rfl
theorem dX8_readLine_20 : decode cX8_readLine 20 = .ok (.bipush (-4), 2) := dc16 bqX8_readLine_0 20 rfl rfl rfl
theorem bqX8_readLine_22 : hs_bs cX8_readLine 22 [159, 0, 7, 4, 167, 0, 4, 3, 5, 182, 0, 115, 42, 27, 7, 160, 0, 23, 42, 180, 0, 20, 16, 16] := hs_bs_of _ _ _ (by decide +kernel)
theorem dX8_readLine_22 : decode cX8_readLine 22 = .ok (.if_icmp .eq 7, 3) := dc159 bqX8_readLine_22 0 rfl rfl rfl
theorem dX8_readLine_25 : decode cX8_readLine 25 = .ok (.iconst 1, 1) := dc4 bqX8_readLine_22 3 rfl rfl
theorem dX8_readLine_26 : decode cX8_readLine 26 = .ok (.goto 4, 3) := dc167 bqX8_readLine_22 4 rfl rfl rfl
theorem dX8_readLine_29 : decode cX8_readLine 29 = .ok (.iconst 0, 1) := dc3 bqX8_readLine_22 7 rfl rfl
theorem dX8_readLine_30 : decode cX8_readLine 30 = .ok (.iconst 2, 1) := dc5 bqX8_readLine_22 8 rfl rfl
theorem dX8_readLine_31 : decode cX8_readLine 31 = .ok (.invokevirtual 115, 3) := dc182 bqX8_readLine_22 9 rfl rfl rfl
theorem dX8_readLine_34 : decode cX8_readLine 34 = .ok (.aload_n 0, 1) := dc42 bqX8_readLine_22 12 rfl rfl
theorem dX8_readLine_35 : decode cX8_readLine 35 = .ok (.iload_n 1, 1) := dc27 bqX8_readLine_22 13 rfl rfl
theorem dX8_readLine_36 : decode cX8_readLine 36 = .ok (.iconst 4, 1) := dc7 bqX8_readLine_22 14 rfl rfl
theorem dX8_readLine_37 : decode cX8_readLine 37 = .ok (.if_icmp .ne 23, 3) := dc160 bqX8_readLine_22 15 rfl rfl rfl
theorem dX8_readLine_40 : decode cX8_readLine 40 = .ok (.aload_n 0, 1) := dc42 bqX8_readLine_22 18 rfl rfl
theorem dX8_readLine_41 : decode cX8_readLine 41 = .ok (.getfield 20, 3) := dc180 bqX8_readLine_22 19 rfl rfl rfl
theorem dX8_readLine_44 : decode cX8_readLine 44 = .ok (.bipush 16, 2) := dc16 bqX8_readLine_22 22 rfl rfl rfl
theorem bqX8_readLine_46 : hs_bs cX8_readLine 46 [46, 16, 8, 162, 0, 7, 4, 167, 0, 25, 3, 167, 0, 21, 27, 7, 163, 0, 11, 42, 180, 0, 50, 7] := hs_bs_of _ _ _ (by decide +kernel)
theorem dX8_readLine_46 : decode cX8_readLine 46 = .ok (.iaload, 1) := dc46 bqX8_readLine_46 0 rfl rfl
theorem dX8_readLine_47 : decode cX8_readLine 47 = .ok (.bipush 8, 2) := dc16 bqX8_readLine_46 1 rfl rfl rfl
theorem dX8_readLine_49 : decode cX8_readLine 49 = .ok (.if_icmp .ge 7, 3) := dc162 bqX8_readLine_46 3 rfl rfl rfl
theorem dX8_readLine_52 : decode cX8_readLine 52 = .ok (.iconst 1, 1) := dc4 bqX8_readLine_46 6 rfl rfl
theorem dX8_readLine_53 : decode cX8_readLine 53 = .ok (.goto 25, 3) := dc167 bqX8_readLine_46 7 rfl rfl rfl
theorem dX8_readLine_56 : decode cX8_readLine 56 = .ok (.iconst 0, 1) := dc3 bqX8_readLine_46 10 rfl rfl
theorem dX8_readLine_57 : decode cX8_readLine 57 = .ok (.goto 21, 3) := dc167 bqX8_readLine_46 11 rfl rfl rfl
theorem dX8_readLine_60 : decode cX8_readLine 60 = .ok (.iload_n 1, 1) := dc27 bqX8_readLine_46 14 rfl rfl
theorem dX8_readLine_61 : decode cX8_readLine 61 = .ok (.iconst 4, 1) := dc7 bqX8_readLine_46 15 rfl rfl
theorem dX8_readLine_62 : decode cX8_readLine 62 = .ok (.if_icmp .gt 11, 3) := dc163 bqX8_readLine_46 16 rfl rfl rfl
theorem dX8_readLine_65 : decode cX8_readLine 65 = .ok (.aload_n 0, 1) := dc42 bqX8_readLine_46 19 rfl rfl
theorem dX8_readLine_66 : decode cX8_readLine 66 = .ok (.getfield 50, 3) := dc180 bqX8_readLine_46 20 rfl rfl rfl
theorem dX8_readLine_69 : decode cX8_readLine 69 = .ok (.iconst 4, 1) := dc7 bqX8_readLine_46 23 rfl rfl
theorem bqX8_readLine_70 : hs_bs cX8_readLine 70 [162, 0, 7, 4, 167, 0, 4, 3, 8, 182, 0, 115, 42, 180, 0, 78, 154, 0, 41, 27, 8, 161, 0, 36] := hs_bs_of _ _ _ (by decide +kernel)
theorem dX8_readLine_70 : decode cX8_readLine 70 = .ok (.if_icmp .ge 7, 3) := dc162 bqX8_readLine_70 0 rfl rfl rfl
theorem dX8_readLine_73 : decode cX8_readLine 73 = .ok (.iconst 1, 1) := dc4 bqX8_readLine_70 3 rfl rfl
theorem dX8_readLine_74 : decode cX8_readLine 74 = .ok (.goto 4, 3) := dc167 bqX8_readLine_70 4 rfl rfl rfl
theorem dX8_readLine_77 : decode cX8_readLine 77 = .ok (.iconst 0, 1) := dc3 bqX8_readLine_70 7 rfl rfl
theorem dX8_readLine_78 : decode cX8_readLine 78 = .ok (.iconst 5, 1) := dc8 bqX8_readLine_70 8 rfl rfl
theorem dX8_readLine_79 : decode cX8_readLine 79 = .ok (.invokevirtual 115, 3) := dc182 bqX8_readLine_70 9 rfl rfl rfl
theorem dX8_readLine_82 : decode cX8_readLine 82 = .ok (.aload_n 0, 1) := dc42 bqX8_readLine_70 12 rfl rfl
theorem dX8_readLine_83 : decode cX8_readLine 83 = .ok (.getfield 78, 3) := dc180 bqX8_readLine_70 13 rfl rfl rfl
theorem dX8_readLine_86 : decode cX8_readLine 86 = .ok (.ifCond .ne 41, 3) := dc154 bqX8_readLine_70 16 rfl rfl rfl
theorem dX8_readLine_89 : decode cX8_readLine 89 = .ok (.iload_n 1, 1) := dc27 bqX8_readLine_70 19 rfl rfl
theorem dX8_readLine_90 : decode cX8_readLine 90 = .ok (.iconst 5, 1) := dc8 bqX8_readLine_70 20 rfl rfl
theorem dX8_readLine_91 : decode cX8_readLine 91 = .ok (.if_icmp .lt 36, 3) := dc161 bqX8_readLine_70 21 rfl rfl rfl
theorem bqX8_readLine_94 : hs_bs cX8_readLine 94 [42, 42, 180, 0, 57, 27, 122, 4, 126, 154, 0, 7, 4, 167, 0, 4, 3, 7, 182, 0, 115, 42, 89] := hs_bs_of _ _ _ (by decide +kernel)
theorem dX8_readLine_94 : decode cX8_readLine 94 = .ok (.aload_n 0, 1) := dc42 bqX8_readLine_94 0 rfl rfl
theorem dX8_readLine_95 : decode cX8_readLine 95 = .ok (.aload_n 0, 1) := dc42 bqX8_readLine_94 1 rfl rfl
theorem dX8_readLine_96 : decode cX8_readLine 96 = .ok (.getfield 57, 3) := dc180 bqX8_readLine_94 2 rfl rfl rfl
theorem dX8_readLine_99 : decode cX8_readLine 99 = .ok (.iload_n 1, 1) := dc27 bqX8_readLine_94 5 rfl rfl
theorem dX8_readLine_100 : decode cX8_readLine 100 = .ok (.ishr, 1) := dc122 bqX8_readLine_94 6 rfl rfl
theorem dX8_readLine_101 : decode cX8_readLine 101 = .ok (.iconst 1, 1) := dc4 bqX8_readLine_94 7 rfl rfl
theorem dX8_readLine_102 : decode cX8_readLine 102 = .ok (.iand, 1) := dc126 bqX8_readLine_94 8 rfl rfl
theorem dX8_readLine_103 : decode cX8_readLine 103 = .ok (.ifCond .ne 7, 3) := dc154 bqX8_readLine_94 9 rfl rfl rfl
theorem dX8_readLine_106 : decode cX8_readLine 106 = .ok (.iconst 1, 1) := dc4 bqX8_readLine_94 12 rfl rfl
theorem dX8_readLine_107 : decode cX8_readLine 107 = .ok (.goto 4, 3) := dc167 bqX8_readLine_94 13 rfl rfl rfl
theorem dX8_readLine_110 : decode cX8_readLine 110 = .ok (.iconst 0, 1) := dc3 bqX8_readLine_94 16 rfl rfl
theorem dX8_readLine_111 : decode cX8_readLine 111 = .ok (.iconst 4, 1) := dc7 bqX8_readLine_94 17 rfl rfl
theorem dX8_readLine_112 : decode cX8_readLine 112 = .ok (.invokevirtual 115, 3) := dc182 bqX8_readLine_94 18 rfl rfl rfl
theorem dX8_readLine_115 : decode cX8_readLine 115 = .ok (.aload_n 0, 1) := dc42 bqX8_readLine_94 21 rfl rfl
theorem dX8_readLine_116 : decode cX8_readLine 116 = .ok (.dup, 1) := dc89 bqX8_readLine_94 22 rfl rfl
theorem bqX8_readLine_117 : hs_bs cX8_readLine 117 [180, 0, 57, 4, 27, 120, 128, 181, 0, 57, 42, 182, 0, 123, 42, 180, 0, 78, 158, 0, 4, 177, 42, 27] := hs_bs_of _ _ _ (by decide +kernel)
theorem dX8_readLine_117 : decode cX8_readLine 117 = .ok (.getfield 57, 3) := dc180 bqX8_readLine_117 0 rfl rfl rfl
theorem dX8_readLine_120 : decode cX8_readLine 120 = .ok (.iconst 1, 1) := dc4 bqX8_readLine_117 3 rfl rfl
theorem dX8_readLine_121 : decode cX8_readLine 121 = .ok (.iload_n 1, 1) := dc27 bqX8_readLine_117 4 rfl rfl
theorem dX8_readLine_122 : decode cX8_readLine 122 = .ok (.ishl, 1) := dc120 bqX8_readLine_117 5 rfl rfl
theorem dX8_readLine_123 : decode cX8_readLine 123 = .ok (.ior, 1) := dc128 bqX8_readLine_117 6 rfl rfl
theorem dX8_readLine_124 : decode cX8_readLine 124 = .ok (.putfield 57, 3) := dc181 bqX8_readLine_117 7 rfl rfl rfl
theorem dX8_readLine_127 : decode cX8_readLine 127 = .ok (.aload_n 0, 1) := dc42 bqX8_readLine_117 10 rfl rfl
theorem dX8_readLine_128 : decode cX8_readLine 128 = .ok (.invokevirtual 123, 3) := dc182 bqX8_readLine_117 11 rfl rfl rfl
theorem dX8_readLine_131 : decode cX8_readLine 131 = .ok (.aload_n 0, 1) := dc42 bqX8_readLine_117 14 rfl rfl
theorem dX8_readLine_132 : decode cX8_readLine 132 = .ok (.getfield 78, 3) := dc180 bqX8_readLine_117 15 rfl rfl rfl
theorem dX8_readLine_135 : decode cX8_readLine 135 = .ok (.ifCond .le 4, 3) := dc158 bqX8_readLine_117 18 rfl rfl rfl
theorem dX8_readLine_138 : decode cX8_readLine 138 = .ok (.return_, 1) := dc177 bqX8_readLine_117 21 rfl rfl
theorem dX8_readLine_139 : decode cX8_readLine 139 = .ok (.aload_n 0, 1) := dc42 bqX8_readLine_117 22 rfl rfl
theorem dX8_readLine_140 : decode cX8_readLine 140 = .ok (.iload_n 1, 1) := dc27 bqX8_readLine_117 23 rfl rfl
theorem bqX8_readLine_141 : hs_bs cX8_readLine 141 [182, 0, 139, 42, 180, 0, 78, 154, 0, 21, 42, 42, 180, 0, 101, 6, 160, 0, 7, 4, 167, 0, 4, 3] := hs_bs_of _ _ _ (by decide +kernel)
theorem dX8_readLine_141 : decode cX8_readLine 141 = .ok (.invokevirtual 139, 3) := dc182 bqX8_readLine_141 0 rfl rfl rfl
theorem dX8_readLine_144 : decode cX8_readLine 144 = .ok (.aload_n 0, 1) := dc42 bqX8_readLine_141 3 rfl rfl
theorem dX8_readLine_145 : decode cX8_readLine 145 = .ok (.getfield 78, 3) := dc180 bqX8_readLine_141 4 rfl rfl rfl
theorem dX8_readLine_148 : decode cX8_readLine 148 = .ok (.ifCond .ne 21, 3) := dc154 bqX8_readLine_141 7 rfl rfl rfl
theorem dX8_readLine_151 : decode cX8_readLine 151 = .ok (.aload_n 0, 1) := dc42 bqX8_readLine_141 10 rfl rfl
theorem dX8_readLine_152 : decode cX8_readLine 152 = .ok (.aload_n 0, 1) := dc42 bqX8_readLine_141 11 rfl rfl
theorem dX8_readLine_153 : decode cX8_readLine 153 = .ok (.getfield 101, 3) := dc180 bqX8_readLine_141 12 rfl rfl rfl
theorem dX8_readLine_156 : decode cX8_readLine 156 = .ok (.iconst 3, 1) := dc6 bqX8_readLine_141 15 rfl rfl
theorem dX8_readLine_157 : decode cX8_readLine 157 = .ok (.if_icmp .ne 7, 3) := dc160 bqX8_readLine_141 16 rfl rfl rfl
theorem dX8_readLine_160 : decode cX8_readLine 160 = .ok (.iconst 1, 1) := dc4 bqX8_readLine_141 19 rfl rfl
theorem dX8_readLine_161 : decode cX8_readLine 161 = .ok (.goto 4, 3) := dc167 bqX8_readLine_141 20 rfl rfl rfl
theorem dX8_readLine_164 : decode cX8_readLine 164 = .ok (.iconst 0, 1) := dc3 bqX8_readLine_141 23 rfl rfl
theorem bqX8_readLine_165 : hs_bs cX8_readLine 165 [5, 182, 0, 115, 42, 182, 0, 123, 177] := hs_bs_of _ _ _ (by decide +kernel)
theorem dX8_readLine_165 : decode cX8_readLine 165 = .ok (.iconst 2, 1) := dc5 bqX8_readLine_165 0 rfl rfl
theorem dX8_readLine_166 : decode cX8_readLine 166 = .ok (.invokevirtual 115, 3) := dc182 bqX8_readLine_165 1 rfl rfl rfl
theorem dX8_readLine_169 : decode cX8_readLine 169 = .ok (.aload_n 0, 1) := dc42 bqX8_readLine_165 4 rfl rfl
theorem dX8_readLine_170 : decode cX8_readLine 170 = .ok (.invokevirtual 123, 3) := dc182 bqX8_readLine_165 5 rfl rfl rfl
theorem dX8_readLine_173 : decode cX8_readLine 173 = .ok (.return_, 1) := dc177 bqX8_readLine_165 8 rfl rfl
set_option maxRecDepth 20000 in
theorem gX8_text_X8_firstDraft : GoodIn wsX8_text (wsV RX8 44 RX8 yX8_firstDraft wsX8_firstDraft) := hs_gC (hs_gV (hs_inG 4 72 rfl rfl) (hs_inG 4 74 rfl rfl) (hs_inG 0 17 rfl rfl) (hs_inG 1 8 rfl rfl) inC_X8_firstDraft)
set_option maxRecDepth 20000 in
theorem gX8_text_X8_takes : GoodIn wsX8_text (wsV RX8 123 RX8 yX8_takes wsX8_takes) := hs_gC (hs_gV (hs_inG 4 193 rfl rfl) (hs_inG 4 195 rfl rfl) (hs_inG 0 19 rfl rfl) (hs_inG 1 8 rfl rfl) inC_X8_takes)
set_option maxRecDepth 20000 in
theorem gX8_text_X8_readLine : GoodIn wsX8_text (wsV RX8 143 RX8 yX8_readLine wsX8_readLine) := hs_gC (hs_gV (hs_inG 4 209 rfl rfl) (hs_inG 4 211 rfl rfl) (hs_inG 0 22 rfl rfl) (hs_inG 1 8 rfl rfl) inC_X8_readLine)
set_option maxRecDepth 20000 in
theorem gX8_text_X8_needs : GoodIn wsX8_text (wsV RX8 115 RX8 yX8_needs wsX8_needs) := hs_gC (hs_gV (hs_inG 4 205 rfl rfl) (hs_inG 4 207 rfl rfl) (hs_inG 0 21 rfl rfl) (hs_inG 1 8 rfl rfl) inC_X8_needs)
set_option maxRecDepth 20000 in
theorem gX8_text_X8_findOrders : GoodIn wsX8_text (wsV RX8 146 RX8 yX8_findOrders wsX8_findOrders) := hs_gC (hs_gV (hs_inG 5 5 rfl rfl) (hs_inG 5 7 rfl rfl) (hs_inG 0 31 rfl rfl) (hs_inG 1 8 rfl rfl) inC_X8_findOrders)
set_option maxRecDepth 20000 in
theorem gX8_text_X8_keepDraft : GoodIn wsX8_text (wsV RX8 47 RX8 yX8_keepDraft wsX8_keepDraft) := hs_gC (hs_gV (hs_inG 4 76 rfl rfl) (hs_inG 4 78 rfl rfl) (hs_inG 0 18 rfl rfl) (hs_inG 1 8 rfl rfl) inC_X8_keepDraft)
theorem bqX8_text_0 : hs_bs cX8_text 0 [3, 60, 42, 3, 181, 0, 78, 42, 3, 181, 0, 87, 42, 182, 0, 44, 42, 182, 0, 123, 42, 180, 0, 78] := hs_bs_of _ _ _ (by decide +kernel)
theorem dX8_text_0 : decode cX8_text 0 = .ok (.iconst 0, 1) := dc3 bqX8_text_0 0 rfl rfl
theorem dX8_text_1 : decode cX8_text 1 = .ok (.istore_n 1, 1) := dc60 bqX8_text_0 1 rfl rfl
theorem dX8_text_2 : decode cX8_text 2 = .ok (.aload_n 0, 1) := dc42 bqX8_text_0 2 rfl rfl
theorem dX8_text_3 : decode cX8_text 3 = .ok (.iconst 0, 1) := dc3 bqX8_text_0 3 rfl rfl
theorem dX8_text_4 : decode cX8_text 4 = .ok (.putfield 78, 3) := dc181 bqX8_text_0 4 rfl rfl rfl
theorem dX8_text_7 : decode cX8_text 7 = .ok (.aload_n 0, 1) := dc42 bqX8_text_0 7 rfl rfl
theorem dX8_text_8 : decode cX8_text 8 = .ok (.iconst 0, 1) := dc3 bqX8_text_0 8 rfl rfl
theorem dX8_text_9 : decode cX8_text 9 = .ok (.putfield 87, 3) := dc181 bqX8_text_0 9 rfl rfl rfl
theorem dX8_text_12 : decode cX8_text 12 = .ok (.aload_n 0, 1) := dc42 bqX8_text_0 12 rfl rfl
theorem dX8_text_13 : decode cX8_text 13 = .ok (.invokevirtual 44, 3) := dc182 bqX8_text_0 13 rfl rfl rfl
theorem dX8_text_16 : decode cX8_text 16 = .ok (.aload_n 0, 1) := dc42 bqX8_text_0 16 rfl rfl
theorem dX8_text_17 : decode cX8_text 17 = .ok (.invokevirtual 123, 3) := dc182 bqX8_text_0 17 rfl rfl rfl
theorem dX8_text_20 : decode cX8_text 20 = .ok (.aload_n 0, 1) := dc42 bqX8_text_0 20 rfl rfl
theorem dX8_text_21 : decode cX8_text 21 = .ok (.getfield 78, 3) := dc180 bqX8_text_0 21 rfl rfl rfl
theorem bqX8_text_24 : hs_bs cX8_text 24 [154, 0, 20, 42, 180, 0, 101, 153, 0, 13, 42, 182, 0, 143, 132, 1, 1, 167, 255, 235, 42, 180, 0, 78] := hs_bs_of _ _ _ (by decide +kernel)
theorem dX8_text_24 : decode cX8_text 24 = .ok (.ifCond .ne 20, 3) := dc154 bqX8_text_24 0 rfl rfl rfl
theorem dX8_text_27 : decode cX8_text 27 = .ok (.aload_n 0, 1) := dc42 bqX8_text_24 3 rfl rfl
theorem dX8_text_28 : decode cX8_text 28 = .ok (.getfield 101, 3) := dc180 bqX8_text_24 4 rfl rfl rfl
theorem dX8_text_31 : decode cX8_text 31 = .ok (.ifCond .eq 13, 3) := dc153 bqX8_text_24 7 rfl rfl rfl
theorem dX8_text_34 : decode cX8_text 34 = .ok (.aload_n 0, 1) := dc42 bqX8_text_24 10 rfl rfl
theorem dX8_text_35 : decode cX8_text 35 = .ok (.invokevirtual 143, 3) := dc182 bqX8_text_24 11 rfl rfl rfl
theorem dX8_text_38 : decode cX8_text 38 = .ok (.iinc 1 1, 3) := dc132 bqX8_text_24 14 rfl rfl rfl
theorem dX8_text_41 : decode cX8_text 41 = .ok (.goto (-21), 3) := dc167 bqX8_text_24 17 rfl rfl rfl
theorem dX8_text_44 : decode cX8_text 44 = .ok (.aload_n 0, 1) := dc42 bqX8_text_24 20 rfl rfl
theorem dX8_text_45 : decode cX8_text 45 = .ok (.getfield 78, 3) := dc180 bqX8_text_24 21 rfl rfl rfl
theorem bqX8_text_48 : hs_bs cX8_text 48 [154, 0, 25, 42, 42, 180, 0, 60, 42, 180, 0, 54, 162, 0, 7, 4, 167, 0, 4, 3, 16, 6] := hs_bs_of _ _ _ (by decide +kernel)
theorem dX8_text_48 : decode cX8_text 48 = .ok (.ifCond .ne 25, 3) := dc154 bqX8_text_48 0 rfl rfl rfl
theorem dX8_text_51 : decode cX8_text 51 = .ok (.aload_n 0, 1) := dc42 bqX8_text_48 3 rfl rfl
theorem dX8_text_52 : decode cX8_text 52 = .ok (.aload_n 0, 1) := dc42 bqX8_text_48 4 rfl rfl
theorem dX8_text_53 : decode cX8_text 53 = .ok (.getfield 60, 3) := dc180 bqX8_text_48 5 rfl rfl rfl
theorem dX8_text_56 : decode cX8_text 56 = .ok (.aload_n 0, 1) := dc42 bqX8_text_48 8 rfl rfl
theorem dX8_text_57 : decode cX8_text 57 = .ok (.getfield 54, 3) := dc180 bqX8_text_48 9 rfl rfl rfl
theorem dX8_text_60 : decode cX8_text 60 = .ok (.if_icmp .ge 7, 3) := dc162 bqX8_text_48 12 rfl rfl rfl
theorem dX8_text_63 : decode cX8_text 63 = .ok (.iconst 1, 1) := dc4 bqX8_text_48 15 rfl rfl
theorem dX8_text_64 : decode cX8_text 64 = .ok (.goto 4, 3) := dc167 bqX8_text_48 16 rfl rfl rfl
theorem dX8_text_67 : decode cX8_text 67 = .ok (.iconst 0, 1) := dc3 bqX8_text_48 19 rfl rfl
theorem dX8_text_68 : decode cX8_text 68 = .ok (.bipush 6, 2) := dc16 bqX8_text_48 20 rfl rfl rfl
theorem bqX8_text_70 : hs_bs cX8_text 70 [182, 0, 115, 42, 180, 0, 78, 154, 0, 55, 3, 61, 28, 16, 44, 162, 0, 21, 42, 180, 0, 13, 28, 42] := hs_bs_of _ _ _ (by decide +kernel)
theorem dX8_text_70 : decode cX8_text 70 = .ok (.invokevirtual 115, 3) := dc182 bqX8_text_70 0 rfl rfl rfl
theorem dX8_text_73 : decode cX8_text 73 = .ok (.aload_n 0, 1) := dc42 bqX8_text_70 3 rfl rfl
theorem dX8_text_74 : decode cX8_text 74 = .ok (.getfield 78, 3) := dc180 bqX8_text_70 4 rfl rfl rfl
theorem dX8_text_77 : decode cX8_text 77 = .ok (.ifCond .ne 55, 3) := dc154 bqX8_text_70 7 rfl rfl rfl
theorem dX8_text_80 : decode cX8_text 80 = .ok (.iconst 0, 1) := dc3 bqX8_text_70 10 rfl rfl
theorem dX8_text_81 : decode cX8_text 81 = .ok (.istore_n 2, 1) := dc61 bqX8_text_70 11 rfl rfl
theorem dX8_text_82 : decode cX8_text 82 = .ok (.iload_n 2, 1) := dc28 bqX8_text_70 12 rfl rfl
theorem dX8_text_83 : decode cX8_text 83 = .ok (.bipush 44, 2) := dc16 bqX8_text_70 13 rfl rfl rfl
theorem dX8_text_85 : decode cX8_text 85 = .ok (.if_icmp .ge 21, 3) := dc162 bqX8_text_70 15 rfl rfl rfl
theorem dX8_text_88 : decode cX8_text 88 = .ok (.aload_n 0, 1) := dc42 bqX8_text_70 18 rfl rfl
theorem dX8_text_89 : decode cX8_text 89 = .ok (.getfield 13, 3) := dc180 bqX8_text_70 19 rfl rfl rfl
theorem dX8_text_92 : decode cX8_text 92 = .ok (.iload_n 2, 1) := dc28 bqX8_text_70 22 rfl rfl
theorem dX8_text_93 : decode cX8_text 93 = .ok (.aload_n 0, 1) := dc42 bqX8_text_70 23 rfl rfl
theorem bqX8_text_94 : hs_bs cX8_text 94 [180, 0, 20, 28, 46, 79, 132, 2, 1, 167, 255, 235, 42, 42, 180, 0, 54, 182, 0, 146, 42, 42] := hs_bs_of _ _ _ (by decide +kernel)
theorem dX8_text_94 : decode cX8_text 94 = .ok (.getfield 20, 3) := dc180 bqX8_text_94 0 rfl rfl rfl
theorem dX8_text_97 : decode cX8_text 97 = .ok (.iload_n 2, 1) := dc28 bqX8_text_94 3 rfl rfl
theorem dX8_text_98 : decode cX8_text 98 = .ok (.iaload, 1) := dc46 bqX8_text_94 4 rfl rfl
theorem dX8_text_99 : decode cX8_text 99 = .ok (.iastore, 1) := dc79 bqX8_text_94 5 rfl rfl
theorem dX8_text_100 : decode cX8_text 100 = .ok (.iinc 2 1, 3) := dc132 bqX8_text_94 6 rfl rfl rfl
theorem dX8_text_103 : decode cX8_text 103 = .ok (.goto (-21), 3) := dc167 bqX8_text_94 9 rfl rfl rfl
theorem dX8_text_106 : decode cX8_text 106 = .ok (.aload_n 0, 1) := dc42 bqX8_text_94 12 rfl rfl
theorem dX8_text_107 : decode cX8_text 107 = .ok (.aload_n 0, 1) := dc42 bqX8_text_94 13 rfl rfl
theorem dX8_text_108 : decode cX8_text 108 = .ok (.getfield 54, 3) := dc180 bqX8_text_94 14 rfl rfl rfl
theorem dX8_text_111 : decode cX8_text 111 = .ok (.invokevirtual 146, 3) := dc182 bqX8_text_94 17 rfl rfl rfl
theorem dX8_text_114 : decode cX8_text 114 = .ok (.aload_n 0, 1) := dc42 bqX8_text_94 20 rfl rfl
theorem dX8_text_115 : decode cX8_text 115 = .ok (.aload_n 0, 1) := dc42 bqX8_text_94 21 rfl rfl
theorem bqX8_text_116 : hs_bs cX8_text 116 [180, 0, 149, 158, 0, 7, 4, 167, 0, 4, 3, 16, 7, 182, 0, 115, 42, 3, 181, 0, 75, 42] := hs_bs_of _ _ _ (by decide +kernel)
theorem dX8_text_116 : decode cX8_text 116 = .ok (.getfield 149, 3) := dc180 bqX8_text_116 0 rfl rfl rfl
theorem dX8_text_119 : decode cX8_text 119 = .ok (.ifCond .le 7, 3) := dc158 bqX8_text_116 3 rfl rfl rfl
theorem dX8_text_122 : decode cX8_text 122 = .ok (.iconst 1, 1) := dc4 bqX8_text_116 6 rfl rfl
theorem dX8_text_123 : decode cX8_text 123 = .ok (.goto 4, 3) := dc167 bqX8_text_116 7 rfl rfl rfl
theorem dX8_text_126 : decode cX8_text 126 = .ok (.iconst 0, 1) := dc3 bqX8_text_116 10 rfl rfl
theorem dX8_text_127 : decode cX8_text 127 = .ok (.bipush 7, 2) := dc16 bqX8_text_116 11 rfl rfl rfl
theorem dX8_text_129 : decode cX8_text 129 = .ok (.invokevirtual 115, 3) := dc182 bqX8_text_116 13 rfl rfl rfl
theorem dX8_text_132 : decode cX8_text 132 = .ok (.aload_n 0, 1) := dc42 bqX8_text_116 16 rfl rfl
theorem dX8_text_133 : decode cX8_text 133 = .ok (.iconst 0, 1) := dc3 bqX8_text_116 17 rfl rfl
theorem dX8_text_134 : decode cX8_text 134 = .ok (.putfield 75, 3) := dc181 bqX8_text_116 18 rfl rfl rfl
theorem dX8_text_137 : decode cX8_text 137 = .ok (.aload_n 0, 1) := dc42 bqX8_text_116 21 rfl rfl
theorem bqX8_text_138 : hs_bs cX8_text 138 [180, 0, 78, 158, 0, 11, 16, 246, 42, 180, 0, 84, 100, 172, 42, 182, 0, 47, 27, 172] := hs_bs_of _ _ _ (by decide +kernel)
theorem dX8_text_138 : decode cX8_text 138 = .ok (.getfield 78, 3) := dc180 bqX8_text_138 0 rfl rfl rfl
theorem dX8_text_141 : decode cX8_text 141 = .ok (.ifCond .le 11, 3) := dc158 bqX8_text_138 3 rfl rfl rfl
theorem dX8_text_144 : decode cX8_text 144 = .ok (.bipush (-10), 2) := dc16 bqX8_text_138 6 rfl rfl rfl
theorem dX8_text_146 : decode cX8_text 146 = .ok (.aload_n 0, 1) := dc42 bqX8_text_138 8 rfl rfl
theorem dX8_text_147 : decode cX8_text 147 = .ok (.getfield 84, 3) := dc180 bqX8_text_138 9 rfl rfl rfl
theorem dX8_text_150 : decode cX8_text 150 = .ok (.isub, 1) := dc100 bqX8_text_138 12 rfl rfl
theorem dX8_text_151 : decode cX8_text 151 = .ok (.ireturn, 1) := dc172 bqX8_text_138 13 rfl rfl
theorem dX8_text_152 : decode cX8_text 152 = .ok (.aload_n 0, 1) := dc42 bqX8_text_138 14 rfl rfl
theorem dX8_text_153 : decode cX8_text 153 = .ok (.invokevirtual 47, 3) := dc182 bqX8_text_138 15 rfl rfl rfl
theorem dX8_text_156 : decode cX8_text 156 = .ok (.iload_n 1, 1) := dc27 bqX8_text_138 18 rfl rfl
theorem dX8_text_157 : decode cX8_text 157 = .ok (.ireturn, 1) := dc172 bqX8_text_138 19 rfl rfl
theorem bqX8_fault_0 : hs_bs cX8_fault 0 [42, 180, 0, 78, 172] := hs_bs_of _ _ _ (by decide +kernel)
theorem dX8_fault_0 : decode cX8_fault 0 = .ok (.aload_n 0, 1) := dc42 bqX8_fault_0 0 rfl rfl
theorem dX8_fault_1 : decode cX8_fault 1 = .ok (.getfield 78, 3) := dc180 bqX8_fault_0 1 rfl rfl rfl
theorem dX8_fault_4 : decode cX8_fault 4 = .ok (.ireturn, 1) := dc172 bqX8_fault_0 4 rfl rfl
set_option maxRecDepth 20000 in
theorem gX8_isCell_X8_in : GoodIn wsX8_isCell (va_wsS RX8 71 yX8_in wsX8_in) := hs_gC (hs_gS (hs_inG 4 182 rfl rfl) (hs_inG 4 183 rfl rfl) (hs_inG 1 8 rfl rfl) inC_X8_in)
theorem bqX8_isCell_0 : hs_bs cX8_isCell 0 [27, 133, 9, 42, 180, 0, 7, 3, 46, 4, 100, 133, 184, 0, 71, 172] := hs_bs_of _ _ _ (by decide +kernel)
theorem dX8_isCell_0 : decode cX8_isCell 0 = .ok (.iload_n 1, 1) := dc27 bqX8_isCell_0 0 rfl rfl
theorem dX8_isCell_1 : decode cX8_isCell 1 = .ok (.i2l, 1) := dc133 bqX8_isCell_0 1 rfl rfl
theorem dX8_isCell_2 : decode cX8_isCell 2 = .ok (.lconst 0, 1) := dc9 bqX8_isCell_0 2 rfl rfl
theorem dX8_isCell_3 : decode cX8_isCell 3 = .ok (.aload_n 0, 1) := dc42 bqX8_isCell_0 3 rfl rfl
theorem dX8_isCell_4 : decode cX8_isCell 4 = .ok (.getfield 7, 3) := dc180 bqX8_isCell_0 4 rfl rfl rfl
theorem dX8_isCell_7 : decode cX8_isCell 7 = .ok (.iconst 0, 1) := dc3 bqX8_isCell_0 7 rfl rfl
theorem dX8_isCell_8 : decode cX8_isCell 8 = .ok (.iaload, 1) := dc46 bqX8_isCell_0 8 rfl rfl
theorem dX8_isCell_9 : decode cX8_isCell 9 = .ok (.iconst 1, 1) := dc4 bqX8_isCell_0 9 rfl rfl
theorem dX8_isCell_10 : decode cX8_isCell 10 = .ok (.isub, 1) := dc100 bqX8_isCell_0 10 rfl rfl
theorem dX8_isCell_11 : decode cX8_isCell 11 = .ok (.i2l, 1) := dc133 bqX8_isCell_0 11 rfl rfl
theorem dX8_isCell_12 : decode cX8_isCell 12 = .ok (.invokestatic 71, 3) := dc184 bqX8_isCell_0 12 rfl rfl rfl
theorem dX8_isCell_15 : decode cX8_isCell 15 = .ok (.ireturn, 1) := dc172 bqX8_isCell_0 15 rfl rfl
set_option maxRecDepth 20000 in
theorem gX8_isPerson_X8_in : GoodIn wsX8_isPerson (va_wsS RX8 71 yX8_in wsX8_in) := hs_gC (hs_gS (hs_inG 4 182 rfl rfl) (hs_inG 4 183 rfl rfl) (hs_inG 1 8 rfl rfl) inC_X8_in)
theorem bqX8_isPerson_0 : hs_bs cX8_isPerson 0 [27, 133, 9, 42, 180, 0, 63, 4, 100, 133, 184, 0, 71, 172] := hs_bs_of _ _ _ (by decide +kernel)
theorem dX8_isPerson_0 : decode cX8_isPerson 0 = .ok (.iload_n 1, 1) := dc27 bqX8_isPerson_0 0 rfl rfl
theorem dX8_isPerson_1 : decode cX8_isPerson 1 = .ok (.i2l, 1) := dc133 bqX8_isPerson_0 1 rfl rfl
theorem dX8_isPerson_2 : decode cX8_isPerson 2 = .ok (.lconst 0, 1) := dc9 bqX8_isPerson_0 2 rfl rfl
theorem dX8_isPerson_3 : decode cX8_isPerson 3 = .ok (.aload_n 0, 1) := dc42 bqX8_isPerson_0 3 rfl rfl
theorem dX8_isPerson_4 : decode cX8_isPerson 4 = .ok (.getfield 63, 3) := dc180 bqX8_isPerson_0 4 rfl rfl rfl
theorem dX8_isPerson_7 : decode cX8_isPerson 7 = .ok (.iconst 1, 1) := dc4 bqX8_isPerson_0 7 rfl rfl
theorem dX8_isPerson_8 : decode cX8_isPerson 8 = .ok (.isub, 1) := dc100 bqX8_isPerson_0 8 rfl rfl
theorem dX8_isPerson_9 : decode cX8_isPerson 9 = .ok (.i2l, 1) := dc133 bqX8_isPerson_0 9 rfl rfl
theorem dX8_isPerson_10 : decode cX8_isPerson 10 = .ok (.invokestatic 71, 3) := dc184 bqX8_isPerson_0 10 rfl rfl rfl
theorem dX8_isPerson_13 : decode cX8_isPerson 13 = .ok (.ireturn, 1) := dc172 bqX8_isPerson_0 13 rfl rfl
set_option maxRecDepth 20000 in
theorem gX8_isCut_X8_in : GoodIn wsX8_isCut (va_wsS RX8 71 yX8_in wsX8_in) := hs_gC (hs_gS (hs_inG 4 182 rfl rfl) (hs_inG 4 183 rfl rfl) (hs_inG 1 8 rfl rfl) inC_X8_in)
theorem bqX8_isCut_0 : hs_bs cX8_isCut 0 [27, 133, 10, 42, 180, 0, 7, 3, 46, 4, 100, 133, 184, 0, 71, 172] := hs_bs_of _ _ _ (by decide +kernel)
theorem dX8_isCut_0 : decode cX8_isCut 0 = .ok (.iload_n 1, 1) := dc27 bqX8_isCut_0 0 rfl rfl
theorem dX8_isCut_1 : decode cX8_isCut 1 = .ok (.i2l, 1) := dc133 bqX8_isCut_0 1 rfl rfl
theorem dX8_isCut_2 : decode cX8_isCut 2 = .ok (.lconst 1, 1) := dc10 bqX8_isCut_0 2 rfl rfl
theorem dX8_isCut_3 : decode cX8_isCut 3 = .ok (.aload_n 0, 1) := dc42 bqX8_isCut_0 3 rfl rfl
theorem dX8_isCut_4 : decode cX8_isCut 4 = .ok (.getfield 7, 3) := dc180 bqX8_isCut_0 4 rfl rfl rfl
theorem dX8_isCut_7 : decode cX8_isCut 7 = .ok (.iconst 0, 1) := dc3 bqX8_isCut_0 7 rfl rfl
theorem dX8_isCut_8 : decode cX8_isCut 8 = .ok (.iaload, 1) := dc46 bqX8_isCut_0 8 rfl rfl
theorem dX8_isCut_9 : decode cX8_isCut 9 = .ok (.iconst 1, 1) := dc4 bqX8_isCut_0 9 rfl rfl
theorem dX8_isCut_10 : decode cX8_isCut 10 = .ok (.isub, 1) := dc100 bqX8_isCut_0 10 rfl rfl
theorem dX8_isCut_11 : decode cX8_isCut 11 = .ok (.i2l, 1) := dc133 bqX8_isCut_0 11 rfl rfl
theorem dX8_isCut_12 : decode cX8_isCut 12 = .ok (.invokestatic 71, 3) := dc184 bqX8_isCut_0 12 rfl rfl rfl
theorem dX8_isCut_15 : decode cX8_isCut 15 = .ok (.ireturn, 1) := dc172 bqX8_isCut_0 15 rfl rfl
set_option maxRecDepth 20000 in
theorem gX8_isPart_X8_in : GoodIn wsX8_isPart (va_wsS RX8 71 yX8_in wsX8_in) := hs_gC (hs_gS (hs_inG 4 182 rfl rfl) (hs_inG 4 183 rfl rfl) (hs_inG 1 8 rfl rfl) inC_X8_in)
theorem bqX8_isPart_0 : hs_bs cX8_isPart 0 [26, 133, 9, 10, 184, 0, 71, 172] := hs_bs_of _ _ _ (by decide +kernel)
theorem dX8_isPart_0 : decode cX8_isPart 0 = .ok (.iload_n 0, 1) := dc26 bqX8_isPart_0 0 rfl rfl
theorem dX8_isPart_1 : decode cX8_isPart 1 = .ok (.i2l, 1) := dc133 bqX8_isPart_0 1 rfl rfl
theorem dX8_isPart_2 : decode cX8_isPart 2 = .ok (.lconst 0, 1) := dc9 bqX8_isPart_0 2 rfl rfl
theorem dX8_isPart_3 : decode cX8_isPart 3 = .ok (.lconst 1, 1) := dc10 bqX8_isPart_0 3 rfl rfl
theorem dX8_isPart_4 : decode cX8_isPart 4 = .ok (.invokestatic 71, 3) := dc184 bqX8_isPart_0 4 rfl rfl rfl
theorem dX8_isPart_7 : decode cX8_isPart 7 = .ok (.ireturn, 1) := dc172 bqX8_isPart_0 7 rfl rfl
theorem bqX8_starts_0 : hs_bs cX8_starts 0 [3, 60, 27, 16, 44, 162, 0, 21, 42, 180, 0, 13, 27, 42, 180, 0, 7, 27, 46, 79, 132, 1, 1] := hs_bs_of _ _ _ (by decide +kernel)
theorem dX8_starts_0 : decode cX8_starts 0 = .ok (.iconst 0, 1) := dc3 bqX8_starts_0 0 rfl rfl
theorem dX8_starts_1 : decode cX8_starts 1 = .ok (.istore_n 1, 1) := dc60 bqX8_starts_0 1 rfl rfl
theorem dX8_starts_2 : decode cX8_starts 2 = .ok (.iload_n 1, 1) := dc27 bqX8_starts_0 2 rfl rfl
theorem dX8_starts_3 : decode cX8_starts 3 = .ok (.bipush 44, 2) := dc16 bqX8_starts_0 3 rfl rfl rfl
theorem dX8_starts_5 : decode cX8_starts 5 = .ok (.if_icmp .ge 21, 3) := dc162 bqX8_starts_0 5 rfl rfl rfl
theorem dX8_starts_8 : decode cX8_starts 8 = .ok (.aload_n 0, 1) := dc42 bqX8_starts_0 8 rfl rfl
theorem dX8_starts_9 : decode cX8_starts 9 = .ok (.getfield 13, 3) := dc180 bqX8_starts_0 9 rfl rfl rfl
theorem dX8_starts_12 : decode cX8_starts 12 = .ok (.iload_n 1, 1) := dc27 bqX8_starts_0 12 rfl rfl
theorem dX8_starts_13 : decode cX8_starts 13 = .ok (.aload_n 0, 1) := dc42 bqX8_starts_0 13 rfl rfl
theorem dX8_starts_14 : decode cX8_starts 14 = .ok (.getfield 7, 3) := dc180 bqX8_starts_0 14 rfl rfl rfl
theorem dX8_starts_17 : decode cX8_starts 17 = .ok (.iload_n 1, 1) := dc27 bqX8_starts_0 17 rfl rfl
theorem dX8_starts_18 : decode cX8_starts 18 = .ok (.iaload, 1) := dc46 bqX8_starts_0 18 rfl rfl
theorem dX8_starts_19 : decode cX8_starts 19 = .ok (.iastore, 1) := dc79 bqX8_starts_0 19 rfl rfl
theorem dX8_starts_20 : decode cX8_starts 20 = .ok (.iinc 1 1, 3) := dc132 bqX8_starts_0 20 rfl rfl rfl
theorem bqX8_starts_23 : hs_bs cX8_starts 23 [167, 255, 235, 177] := hs_bs_of _ _ _ (by decide +kernel)
theorem dX8_starts_23 : decode cX8_starts 23 = .ok (.goto (-21), 3) := dc167 bqX8_starts_23 0 rfl rfl rfl
theorem dX8_starts_26 : decode cX8_starts 26 = .ok (.return_, 1) := dc177 bqX8_starts_23 3 rfl rfl
theorem bqX8_worthOf_0 : hs_bs cX8_worthOf 0 [42, 180, 0, 13, 4, 28, 96, 46, 62, 28, 154, 0, 9, 5, 29, 104, 167, 0, 4, 29, 54, 4, 42] := hs_bs_of _ _ _ (by decide +kernel)
theorem dX8_worthOf_0 : decode cX8_worthOf 0 = .ok (.aload_n 0, 1) := dc42 bqX8_worthOf_0 0 rfl rfl
theorem dX8_worthOf_1 : decode cX8_worthOf 1 = .ok (.getfield 13, 3) := dc180 bqX8_worthOf_0 1 rfl rfl rfl
theorem dX8_worthOf_4 : decode cX8_worthOf 4 = .ok (.iconst 1, 1) := dc4 bqX8_worthOf_0 4 rfl rfl
theorem dX8_worthOf_5 : decode cX8_worthOf 5 = .ok (.iload_n 2, 1) := dc28 bqX8_worthOf_0 5 rfl rfl
theorem dX8_worthOf_6 : decode cX8_worthOf 6 = .ok (.iadd, 1) := dc96 bqX8_worthOf_0 6 rfl rfl
theorem dX8_worthOf_7 : decode cX8_worthOf 7 = .ok (.iaload, 1) := dc46 bqX8_worthOf_0 7 rfl rfl
theorem dX8_worthOf_8 : decode cX8_worthOf 8 = .ok (.istore_n 3, 1) := dc62 bqX8_worthOf_0 8 rfl rfl
theorem dX8_worthOf_9 : decode cX8_worthOf 9 = .ok (.iload_n 2, 1) := dc28 bqX8_worthOf_0 9 rfl rfl
theorem dX8_worthOf_10 : decode cX8_worthOf 10 = .ok (.ifCond .ne 9, 3) := dc154 bqX8_worthOf_0 10 rfl rfl rfl
theorem dX8_worthOf_13 : decode cX8_worthOf 13 = .ok (.iconst 2, 1) := dc5 bqX8_worthOf_0 13 rfl rfl
theorem dX8_worthOf_14 : decode cX8_worthOf 14 = .ok (.iload_n 3, 1) := dc29 bqX8_worthOf_0 14 rfl rfl
theorem dX8_worthOf_15 : decode cX8_worthOf 15 = .ok (.imul, 1) := dc104 bqX8_worthOf_0 15 rfl rfl
theorem dX8_worthOf_16 : decode cX8_worthOf 16 = .ok (.goto 4, 3) := dc167 bqX8_worthOf_0 16 rfl rfl rfl
theorem dX8_worthOf_19 : decode cX8_worthOf 19 = .ok (.iload_n 3, 1) := dc29 bqX8_worthOf_0 19 rfl rfl
theorem dX8_worthOf_20 : decode cX8_worthOf 20 = .ok (.istore 4, 2) := dc54 bqX8_worthOf_0 20 rfl rfl
theorem dX8_worthOf_22 : decode cX8_worthOf 22 = .ok (.aload_n 0, 1) := dc42 bqX8_worthOf_0 22 rfl rfl
theorem bqX8_worthOf_23 : hs_bs cX8_worthOf 23 [180, 0, 13, 16, 9, 27, 96, 46] := hs_bs_of _ _ _ (by decide +kernel)
theorem dX8_worthOf_23 : decode cX8_worthOf 23 = .ok (.getfield 13, 3) := dc180 bqX8_worthOf_23 0 rfl rfl rfl
theorem dX8_worthOf_26 : decode cX8_worthOf 26 = .ok (.bipush 9, 2) := dc16 bqX8_worthOf_23 3 rfl rfl rfl
theorem dX8_worthOf_28 : decode cX8_worthOf 28 = .ok (.iload_n 1, 1) := dc27 bqX8_worthOf_23 5 rfl rfl
theorem dX8_worthOf_29 : decode cX8_worthOf 29 = .ok (.iadd, 1) := dc96 bqX8_worthOf_23 6 rfl rfl
theorem dX8_worthOf_30 : decode cX8_worthOf 30 = .ok (.iaload, 1) := dc46 bqX8_worthOf_23 7 rfl rfl
theorem dX8_worthOf_31 : decode cX8_worthOf 31 = .ok (.tableswitch 39 1 3 #[25, 28, 35], 25) := by decide +kernel
theorem bqX8_worthOf_56 : hs_bs cX8_worthOf 56 [21, 4, 172, 21, 4, 29, 5, 112, 96, 172, 29, 5, 108, 172, 29, 172] := hs_bs_of _ _ _ (by decide +kernel)
theorem dX8_worthOf_56 : decode cX8_worthOf 56 = .ok (.iload 4, 2) := dc21 bqX8_worthOf_56 0 rfl rfl
theorem dX8_worthOf_58 : decode cX8_worthOf 58 = .ok (.ireturn, 1) := dc172 bqX8_worthOf_56 2 rfl rfl
theorem dX8_worthOf_59 : decode cX8_worthOf 59 = .ok (.iload 4, 2) := dc21 bqX8_worthOf_56 3 rfl rfl
theorem dX8_worthOf_61 : decode cX8_worthOf 61 = .ok (.iload_n 3, 1) := dc29 bqX8_worthOf_56 5 rfl rfl
theorem dX8_worthOf_62 : decode cX8_worthOf 62 = .ok (.iconst 2, 1) := dc5 bqX8_worthOf_56 6 rfl rfl
theorem dX8_worthOf_63 : decode cX8_worthOf 63 = .ok (.irem, 1) := dc112 bqX8_worthOf_56 7 rfl rfl
theorem dX8_worthOf_64 : decode cX8_worthOf 64 = .ok (.iadd, 1) := dc96 bqX8_worthOf_56 8 rfl rfl
theorem dX8_worthOf_65 : decode cX8_worthOf 65 = .ok (.ireturn, 1) := dc172 bqX8_worthOf_56 9 rfl rfl
theorem dX8_worthOf_66 : decode cX8_worthOf 66 = .ok (.iload_n 3, 1) := dc29 bqX8_worthOf_56 10 rfl rfl
theorem dX8_worthOf_67 : decode cX8_worthOf 67 = .ok (.iconst 2, 1) := dc5 bqX8_worthOf_56 11 rfl rfl
theorem dX8_worthOf_68 : decode cX8_worthOf 68 = .ok (.idiv, 1) := dc108 bqX8_worthOf_56 12 rfl rfl
theorem dX8_worthOf_69 : decode cX8_worthOf 69 = .ok (.ireturn, 1) := dc172 bqX8_worthOf_56 13 rfl rfl
theorem dX8_worthOf_70 : decode cX8_worthOf 70 = .ok (.iload_n 3, 1) := dc29 bqX8_worthOf_56 14 rfl rfl
theorem dX8_worthOf_71 : decode cX8_worthOf 71 = .ok (.ireturn, 1) := dc172 bqX8_worthOf_56 15 rfl rfl
set_option maxRecDepth 20000 in
theorem gX8_worthOfAll_X8_worthOf : GoodIn wsX8_worthOfAll (wsV RX8 152 RX8 yX8_worthOf wsX8_worthOf) := hs_gC (hs_gV (hs_inG 5 104 rfl rfl) (hs_inG 5 106 rfl rfl) (hs_inG 0 41 rfl rfl) (hs_inG 1 8 rfl rfl) inC_X8_worthOf)
theorem bqX8_worthOfAll_0 : hs_bs cX8_worthOfAll 0 [3, 62, 3, 54, 4, 21, 4, 42, 180, 0, 13, 3, 46, 162, 0, 33, 29, 28, 21, 4, 122, 4, 126, 4] := hs_bs_of _ _ _ (by decide +kernel)
theorem dX8_worthOfAll_0 : decode cX8_worthOfAll 0 = .ok (.iconst 0, 1) := dc3 bqX8_worthOfAll_0 0 rfl rfl
theorem dX8_worthOfAll_1 : decode cX8_worthOfAll 1 = .ok (.istore_n 3, 1) := dc62 bqX8_worthOfAll_0 1 rfl rfl
theorem dX8_worthOfAll_2 : decode cX8_worthOfAll 2 = .ok (.iconst 0, 1) := dc3 bqX8_worthOfAll_0 2 rfl rfl
theorem dX8_worthOfAll_3 : decode cX8_worthOfAll 3 = .ok (.istore 4, 2) := dc54 bqX8_worthOfAll_0 3 rfl rfl
theorem dX8_worthOfAll_5 : decode cX8_worthOfAll 5 = .ok (.iload 4, 2) := dc21 bqX8_worthOfAll_0 5 rfl rfl
theorem dX8_worthOfAll_7 : decode cX8_worthOfAll 7 = .ok (.aload_n 0, 1) := dc42 bqX8_worthOfAll_0 7 rfl rfl
theorem dX8_worthOfAll_8 : decode cX8_worthOfAll 8 = .ok (.getfield 13, 3) := dc180 bqX8_worthOfAll_0 8 rfl rfl rfl
theorem dX8_worthOfAll_11 : decode cX8_worthOfAll 11 = .ok (.iconst 0, 1) := dc3 bqX8_worthOfAll_0 11 rfl rfl
theorem dX8_worthOfAll_12 : decode cX8_worthOfAll 12 = .ok (.iaload, 1) := dc46 bqX8_worthOfAll_0 12 rfl rfl
theorem dX8_worthOfAll_13 : decode cX8_worthOfAll 13 = .ok (.if_icmp .ge 33, 3) := dc162 bqX8_worthOfAll_0 13 rfl rfl rfl
theorem dX8_worthOfAll_16 : decode cX8_worthOfAll 16 = .ok (.iload_n 3, 1) := dc29 bqX8_worthOfAll_0 16 rfl rfl
theorem dX8_worthOfAll_17 : decode cX8_worthOfAll 17 = .ok (.iload_n 2, 1) := dc28 bqX8_worthOfAll_0 17 rfl rfl
theorem dX8_worthOfAll_18 : decode cX8_worthOfAll 18 = .ok (.iload 4, 2) := dc21 bqX8_worthOfAll_0 18 rfl rfl
theorem dX8_worthOfAll_20 : decode cX8_worthOfAll 20 = .ok (.ishr, 1) := dc122 bqX8_worthOfAll_0 20 rfl rfl
theorem dX8_worthOfAll_21 : decode cX8_worthOfAll 21 = .ok (.iconst 1, 1) := dc4 bqX8_worthOfAll_0 21 rfl rfl
theorem dX8_worthOfAll_22 : decode cX8_worthOfAll 22 = .ok (.iand, 1) := dc126 bqX8_worthOfAll_0 22 rfl rfl
theorem dX8_worthOfAll_23 : decode cX8_worthOfAll 23 = .ok (.iconst 1, 1) := dc4 bqX8_worthOfAll_0 23 rfl rfl
theorem bqX8_worthOfAll_24 : hs_bs cX8_worthOfAll 24 [160, 0, 13, 42, 27, 21, 4, 182, 0, 152, 167, 0, 4, 3, 96, 62, 132, 4, 1, 167, 255, 218, 29, 172] := hs_bs_of _ _ _ (by decide +kernel)
theorem dX8_worthOfAll_24 : decode cX8_worthOfAll 24 = .ok (.if_icmp .ne 13, 3) := dc160 bqX8_worthOfAll_24 0 rfl rfl rfl
theorem dX8_worthOfAll_27 : decode cX8_worthOfAll 27 = .ok (.aload_n 0, 1) := dc42 bqX8_worthOfAll_24 3 rfl rfl
theorem dX8_worthOfAll_28 : decode cX8_worthOfAll 28 = .ok (.iload_n 1, 1) := dc27 bqX8_worthOfAll_24 4 rfl rfl
theorem dX8_worthOfAll_29 : decode cX8_worthOfAll 29 = .ok (.iload 4, 2) := dc21 bqX8_worthOfAll_24 5 rfl rfl
theorem dX8_worthOfAll_31 : decode cX8_worthOfAll 31 = .ok (.invokevirtual 152, 3) := dc182 bqX8_worthOfAll_24 7 rfl rfl rfl
theorem dX8_worthOfAll_34 : decode cX8_worthOfAll 34 = .ok (.goto 4, 3) := dc167 bqX8_worthOfAll_24 10 rfl rfl rfl
theorem dX8_worthOfAll_37 : decode cX8_worthOfAll 37 = .ok (.iconst 0, 1) := dc3 bqX8_worthOfAll_24 13 rfl rfl
theorem dX8_worthOfAll_38 : decode cX8_worthOfAll 38 = .ok (.iadd, 1) := dc96 bqX8_worthOfAll_24 14 rfl rfl
theorem dX8_worthOfAll_39 : decode cX8_worthOfAll 39 = .ok (.istore_n 3, 1) := dc62 bqX8_worthOfAll_24 15 rfl rfl
theorem dX8_worthOfAll_40 : decode cX8_worthOfAll 40 = .ok (.iinc 4 1, 3) := dc132 bqX8_worthOfAll_24 16 rfl rfl rfl
theorem dX8_worthOfAll_43 : decode cX8_worthOfAll 43 = .ok (.goto (-38), 3) := dc167 bqX8_worthOfAll_24 19 rfl rfl rfl
theorem dX8_worthOfAll_46 : decode cX8_worthOfAll 46 = .ok (.iload_n 3, 1) := dc29 bqX8_worthOfAll_24 22 rfl rfl
theorem dX8_worthOfAll_47 : decode cX8_worthOfAll 47 = .ok (.ireturn, 1) := dc172 bqX8_worthOfAll_24 23 rfl rfl
theorem bqX8_every_0 : hs_bs cX8_every 0 [4, 42, 180, 0, 13, 3, 46, 120, 4, 100, 172] := hs_bs_of _ _ _ (by decide +kernel)
theorem dX8_every_0 : decode cX8_every 0 = .ok (.iconst 1, 1) := dc4 bqX8_every_0 0 rfl rfl
theorem dX8_every_1 : decode cX8_every 1 = .ok (.aload_n 0, 1) := dc42 bqX8_every_0 1 rfl rfl
theorem dX8_every_2 : decode cX8_every 2 = .ok (.getfield 13, 3) := dc180 bqX8_every_0 2 rfl rfl rfl
theorem dX8_every_5 : decode cX8_every 5 = .ok (.iconst 0, 1) := dc3 bqX8_every_0 5 rfl rfl
theorem dX8_every_6 : decode cX8_every 6 = .ok (.iaload, 1) := dc46 bqX8_every_0 6 rfl rfl
theorem dX8_every_7 : decode cX8_every 7 = .ok (.ishl, 1) := dc120 bqX8_every_0 7 rfl rfl
theorem dX8_every_8 : decode cX8_every 8 = .ok (.iconst 1, 1) := dc4 bqX8_every_0 8 rfl rfl
