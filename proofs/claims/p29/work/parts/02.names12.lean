theorem bqX8_read_187 : hs_bs cX8_read 187 [21, 8, 46, 42, 180, 0, 38, 21, 8, 4, 96, 46, 182, 1, 30, 156, 0, 39, 3, 54, 9, 21, 9] := hs_bs_of _ _ _ (by decide +kernel)
theorem dX8_read_187 : decode cX8_read 187 = .ok (.iload 8, 2) := dc21 bqX8_read_187 0 rfl rfl
theorem dX8_read_189 : decode cX8_read 189 = .ok (.iaload, 1) := dc46 bqX8_read_187 2 rfl rfl
theorem dX8_read_190 : decode cX8_read 190 = .ok (.aload_n 0, 1) := dc42 bqX8_read_187 3 rfl rfl
theorem dX8_read_191 : decode cX8_read 191 = .ok (.getfield 38, 3) := dc180 bqX8_read_187 4 rfl rfl rfl
theorem dX8_read_194 : decode cX8_read 194 = .ok (.iload 8, 2) := dc21 bqX8_read_187 7 rfl rfl
theorem dX8_read_196 : decode cX8_read 196 = .ok (.iconst 1, 1) := dc4 bqX8_read_187 9 rfl rfl
theorem dX8_read_197 : decode cX8_read 197 = .ok (.iadd, 1) := dc96 bqX8_read_187 10 rfl rfl
theorem dX8_read_198 : decode cX8_read 198 = .ok (.iaload, 1) := dc46 bqX8_read_187 11 rfl rfl
theorem dX8_read_199 : decode cX8_read 199 = .ok (.invokevirtual 286, 3) := dc182 bqX8_read_187 12 rfl rfl rfl
theorem dX8_read_202 : decode cX8_read 202 = .ok (.ifCond .ge 39, 3) := dc156 bqX8_read_187 15 rfl rfl rfl
theorem dX8_read_205 : decode cX8_read 205 = .ok (.iconst 0, 1) := dc3 bqX8_read_187 18 rfl rfl
theorem dX8_read_206 : decode cX8_read 206 = .ok (.istore 9, 2) := dc54 bqX8_read_187 19 rfl rfl
theorem dX8_read_208 : decode cX8_read 208 = .ok (.iload 9, 2) := dc21 bqX8_read_187 21 rfl rfl
theorem bqX8_read_210 : hs_bs cX8_read 210 [16, 44, 162, 0, 23, 42, 180, 0, 7, 21, 9, 42, 180, 0, 41, 21, 9, 46, 79, 132, 9, 1] := hs_bs_of _ _ _ (by decide +kernel)
theorem dX8_read_210 : decode cX8_read 210 = .ok (.bipush 44, 2) := dc16 bqX8_read_210 0 rfl rfl rfl
theorem dX8_read_212 : decode cX8_read 212 = .ok (.if_icmp .ge 23, 3) := dc162 bqX8_read_210 2 rfl rfl rfl
theorem dX8_read_215 : decode cX8_read 215 = .ok (.aload_n 0, 1) := dc42 bqX8_read_210 5 rfl rfl
theorem dX8_read_216 : decode cX8_read 216 = .ok (.getfield 7, 3) := dc180 bqX8_read_210 6 rfl rfl rfl
theorem dX8_read_219 : decode cX8_read 219 = .ok (.iload 9, 2) := dc21 bqX8_read_210 9 rfl rfl
theorem dX8_read_221 : decode cX8_read 221 = .ok (.aload_n 0, 1) := dc42 bqX8_read_210 11 rfl rfl
theorem dX8_read_222 : decode cX8_read 222 = .ok (.getfield 41, 3) := dc180 bqX8_read_210 12 rfl rfl rfl
theorem dX8_read_225 : decode cX8_read 225 = .ok (.iload 9, 2) := dc21 bqX8_read_210 15 rfl rfl
theorem dX8_read_227 : decode cX8_read 227 = .ok (.iaload, 1) := dc46 bqX8_read_210 17 rfl rfl
theorem dX8_read_228 : decode cX8_read 228 = .ok (.iastore, 1) := dc79 bqX8_read_210 18 rfl rfl
theorem dX8_read_229 : decode cX8_read 229 = .ok (.iinc 9 1, 3) := dc132 bqX8_read_210 19 rfl rfl rfl
theorem bqX8_read_232 : hs_bs cX8_read 232 [167, 255, 232, 16, 236, 21, 7, 100, 172, 132, 6, 1, 132, 7, 1, 167, 255, 71, 42, 21, 5, 181, 1, 33] := hs_bs_of _ _ _ (by decide +kernel)
theorem dX8_read_232 : decode cX8_read 232 = .ok (.goto (-24), 3) := dc167 bqX8_read_232 0 rfl rfl rfl
theorem dX8_read_235 : decode cX8_read 235 = .ok (.bipush (-20), 2) := dc16 bqX8_read_232 3 rfl rfl rfl
theorem dX8_read_237 : decode cX8_read 237 = .ok (.iload 7, 2) := dc21 bqX8_read_232 5 rfl rfl
theorem dX8_read_239 : decode cX8_read 239 = .ok (.isub, 1) := dc100 bqX8_read_232 7 rfl rfl
theorem dX8_read_240 : decode cX8_read 240 = .ok (.ireturn, 1) := dc172 bqX8_read_232 8 rfl rfl
theorem dX8_read_241 : decode cX8_read 241 = .ok (.iinc 6 1, 3) := dc132 bqX8_read_232 9 rfl rfl rfl
theorem dX8_read_244 : decode cX8_read 244 = .ok (.iinc 7 1, 3) := dc132 bqX8_read_232 12 rfl rfl rfl
theorem dX8_read_247 : decode cX8_read 247 = .ok (.goto (-185), 3) := dc167 bqX8_read_232 15 rfl rfl rfl
theorem dX8_read_250 : decode cX8_read 250 = .ok (.aload_n 0, 1) := dc42 bqX8_read_232 18 rfl rfl
theorem dX8_read_251 : decode cX8_read 251 = .ok (.iload 5, 2) := dc21 bqX8_read_232 19 rfl rfl
theorem dX8_read_253 : decode cX8_read 253 = .ok (.putfield 289, 3) := dc181 bqX8_read_232 21 rfl rfl rfl
theorem bqX8_read_256 : hs_bs cX8_read 256 [21, 6, 172] := hs_bs_of _ _ _ (by decide +kernel)
theorem dX8_read_256 : decode cX8_read 256 = .ok (.iload 6, 2) := dc21 bqX8_read_256 0 rfl rfl
theorem dX8_read_258 : decode cX8_read 258 = .ok (.ireturn, 1) := dc172 bqX8_read_256 2 rfl rfl
theorem bqX8_torn_0 : hs_bs cX8_torn 0 [42, 180, 1, 33, 172] := hs_bs_of _ _ _ (by decide +kernel)
theorem dX8_torn_0 : decode cX8_torn 0 = .ok (.aload_n 0, 1) := dc42 bqX8_torn_0 0 rfl rfl
theorem dX8_torn_1 : decode cX8_torn 1 = .ok (.getfield 289, 3) := dc180 bqX8_torn_0 1 rfl rfl rfl
theorem dX8_torn_4 : decode cX8_torn 4 = .ok (.ireturn, 1) := dc172 bqX8_torn_0 4 rfl rfl
set_option maxRecDepth 20000 in
theorem gX8_count_X8_flag : GoodIn wsX8_count (va_wsS RX8 173 yX8_flag wsX8_flag) := hs_gC (hs_gS (hs_inG 5 142 rfl rfl) (hs_inG 5 143 rfl rfl) (hs_inG 1 8 rfl rfl) inC_X8_flag)
theorem bqX8_count_0 : hs_bs cX8_count 0 [27] := hs_bs_of _ _ _ (by decide +kernel)
theorem dX8_count_0 : decode cX8_count 0 = .ok (.iload_n 1, 1) := dc27 bqX8_count_0 0 rfl rfl
theorem dX8_count_1 : decode cX8_count 1 = .ok (.tableswitch 87 0 3 #[31, 39, 59, 64], 31) := by decide +kernel
theorem bqX8_count_32 : hs_bs cX8_count 32 [42, 180, 0, 7, 16, 25, 46, 172, 42, 180, 0, 16, 3, 51, 184, 0, 173, 42, 180, 0, 16, 4, 51] := hs_bs_of _ _ _ (by decide +kernel)
theorem dX8_count_32 : decode cX8_count 32 = .ok (.aload_n 0, 1) := dc42 bqX8_count_32 0 rfl rfl
theorem dX8_count_33 : decode cX8_count 33 = .ok (.getfield 7, 3) := dc180 bqX8_count_32 1 rfl rfl rfl
theorem dX8_count_36 : decode cX8_count 36 = .ok (.bipush 25, 2) := dc16 bqX8_count_32 4 rfl rfl rfl
theorem dX8_count_38 : decode cX8_count 38 = .ok (.iaload, 1) := dc46 bqX8_count_32 6 rfl rfl
theorem dX8_count_39 : decode cX8_count 39 = .ok (.ireturn, 1) := dc172 bqX8_count_32 7 rfl rfl
theorem dX8_count_40 : decode cX8_count 40 = .ok (.aload_n 0, 1) := dc42 bqX8_count_32 8 rfl rfl
theorem dX8_count_41 : decode cX8_count 41 = .ok (.getfield 16, 3) := dc180 bqX8_count_32 9 rfl rfl rfl
theorem dX8_count_44 : decode cX8_count 44 = .ok (.iconst 0, 1) := dc3 bqX8_count_32 12 rfl rfl
theorem dX8_count_45 : decode cX8_count 45 = .ok (.baload, 1) := dc51 bqX8_count_32 13 rfl rfl
theorem dX8_count_46 : decode cX8_count 46 = .ok (.invokestatic 173, 3) := dc184 bqX8_count_32 14 rfl rfl rfl
theorem dX8_count_49 : decode cX8_count 49 = .ok (.aload_n 0, 1) := dc42 bqX8_count_32 17 rfl rfl
theorem dX8_count_50 : decode cX8_count 50 = .ok (.getfield 16, 3) := dc180 bqX8_count_32 18 rfl rfl rfl
theorem dX8_count_53 : decode cX8_count 53 = .ok (.iconst 1, 1) := dc4 bqX8_count_32 21 rfl rfl
theorem dX8_count_54 : decode cX8_count 54 = .ok (.baload, 1) := dc51 bqX8_count_32 22 rfl rfl
theorem bqX8_count_55 : hs_bs cX8_count 55 [184, 0, 173, 96, 172, 42, 180, 0, 75, 172, 42, 180, 0, 32, 3, 46, 16, 252, 160, 0, 8, 16, 252] := hs_bs_of _ _ _ (by decide +kernel)
theorem dX8_count_55 : decode cX8_count 55 = .ok (.invokestatic 173, 3) := dc184 bqX8_count_55 0 rfl rfl rfl
theorem dX8_count_58 : decode cX8_count 58 = .ok (.iadd, 1) := dc96 bqX8_count_55 3 rfl rfl
theorem dX8_count_59 : decode cX8_count 59 = .ok (.ireturn, 1) := dc172 bqX8_count_55 4 rfl rfl
theorem dX8_count_60 : decode cX8_count 60 = .ok (.aload_n 0, 1) := dc42 bqX8_count_55 5 rfl rfl
theorem dX8_count_61 : decode cX8_count 61 = .ok (.getfield 75, 3) := dc180 bqX8_count_55 6 rfl rfl rfl
theorem dX8_count_64 : decode cX8_count 64 = .ok (.ireturn, 1) := dc172 bqX8_count_55 9 rfl rfl
theorem dX8_count_65 : decode cX8_count 65 = .ok (.aload_n 0, 1) := dc42 bqX8_count_55 10 rfl rfl
theorem dX8_count_66 : decode cX8_count 66 = .ok (.getfield 32, 3) := dc180 bqX8_count_55 11 rfl rfl rfl
theorem dX8_count_69 : decode cX8_count 69 = .ok (.iconst 0, 1) := dc3 bqX8_count_55 14 rfl rfl
theorem dX8_count_70 : decode cX8_count 70 = .ok (.iaload, 1) := dc46 bqX8_count_55 15 rfl rfl
theorem dX8_count_71 : decode cX8_count 71 = .ok (.bipush (-4), 2) := dc16 bqX8_count_55 16 rfl rfl rfl
theorem dX8_count_73 : decode cX8_count 73 = .ok (.if_icmp .ne 8, 3) := dc160 bqX8_count_55 18 rfl rfl rfl
theorem dX8_count_76 : decode cX8_count 76 = .ok (.bipush (-4), 2) := dc16 bqX8_count_55 21 rfl rfl rfl
theorem bqX8_count_78 : hs_bs cX8_count 78 [167, 0, 9, 42, 180, 0, 35, 3, 46, 172, 2, 172] := hs_bs_of _ _ _ (by decide +kernel)
theorem dX8_count_78 : decode cX8_count 78 = .ok (.goto 9, 3) := dc167 bqX8_count_78 0 rfl rfl rfl
theorem dX8_count_81 : decode cX8_count 81 = .ok (.aload_n 0, 1) := dc42 bqX8_count_78 3 rfl rfl
theorem dX8_count_82 : decode cX8_count 82 = .ok (.getfield 35, 3) := dc180 bqX8_count_78 4 rfl rfl rfl
theorem dX8_count_85 : decode cX8_count 85 = .ok (.iconst 0, 1) := dc3 bqX8_count_78 7 rfl rfl
theorem dX8_count_86 : decode cX8_count 86 = .ok (.iaload, 1) := dc46 bqX8_count_78 8 rfl rfl
theorem dX8_count_87 : decode cX8_count 87 = .ok (.ireturn, 1) := dc172 bqX8_count_78 9 rfl rfl
theorem dX8_count_88 : decode cX8_count 88 = .ok (.iconst (-1), 1) := dc2 bqX8_count_78 10 rfl rfl
theorem dX8_count_89 : decode cX8_count 89 = .ok (.ireturn, 1) := dc172 bqX8_count_78 11 rfl rfl
theorem bqJ6_bitCount_0f7a4_0 : hs_bs cJ6_bitCount_0f7a4 0 [26, 26, 4, 124, 19, 1, 9, 126, 100, 59, 26, 19, 1, 10, 126, 26, 5, 124, 19, 1, 10, 126, 96, 59] := hs_bs_of _ _ _ (by decide +kernel)
theorem dJ6_bitCount_0f7a4_0 : decode cJ6_bitCount_0f7a4 0 = .ok (.iload_n 0, 1) := dc26 bqJ6_bitCount_0f7a4_0 0 rfl rfl
theorem dJ6_bitCount_0f7a4_1 : decode cJ6_bitCount_0f7a4 1 = .ok (.iload_n 0, 1) := dc26 bqJ6_bitCount_0f7a4_0 1 rfl rfl
theorem dJ6_bitCount_0f7a4_2 : decode cJ6_bitCount_0f7a4 2 = .ok (.iconst 1, 1) := dc4 bqJ6_bitCount_0f7a4_0 2 rfl rfl
theorem dJ6_bitCount_0f7a4_3 : decode cJ6_bitCount_0f7a4 3 = .ok (.iushr, 1) := dc124 bqJ6_bitCount_0f7a4_0 3 rfl rfl
theorem dJ6_bitCount_0f7a4_4 : decode cJ6_bitCount_0f7a4 4 = .ok (.ldc_w 265, 3) := dc19 bqJ6_bitCount_0f7a4_0 4 rfl rfl rfl
theorem dJ6_bitCount_0f7a4_7 : decode cJ6_bitCount_0f7a4 7 = .ok (.iand, 1) := dc126 bqJ6_bitCount_0f7a4_0 7 rfl rfl
theorem dJ6_bitCount_0f7a4_8 : decode cJ6_bitCount_0f7a4 8 = .ok (.isub, 1) := dc100 bqJ6_bitCount_0f7a4_0 8 rfl rfl
theorem dJ6_bitCount_0f7a4_9 : decode cJ6_bitCount_0f7a4 9 = .ok (.istore_n 0, 1) := dc59 bqJ6_bitCount_0f7a4_0 9 rfl rfl
theorem dJ6_bitCount_0f7a4_10 : decode cJ6_bitCount_0f7a4 10 = .ok (.iload_n 0, 1) := dc26 bqJ6_bitCount_0f7a4_0 10 rfl rfl
theorem dJ6_bitCount_0f7a4_11 : decode cJ6_bitCount_0f7a4 11 = .ok (.ldc_w 266, 3) := dc19 bqJ6_bitCount_0f7a4_0 11 rfl rfl rfl
theorem dJ6_bitCount_0f7a4_14 : decode cJ6_bitCount_0f7a4 14 = .ok (.iand, 1) := dc126 bqJ6_bitCount_0f7a4_0 14 rfl rfl
theorem dJ6_bitCount_0f7a4_15 : decode cJ6_bitCount_0f7a4 15 = .ok (.iload_n 0, 1) := dc26 bqJ6_bitCount_0f7a4_0 15 rfl rfl
theorem dJ6_bitCount_0f7a4_16 : decode cJ6_bitCount_0f7a4 16 = .ok (.iconst 2, 1) := dc5 bqJ6_bitCount_0f7a4_0 16 rfl rfl
theorem dJ6_bitCount_0f7a4_17 : decode cJ6_bitCount_0f7a4 17 = .ok (.iushr, 1) := dc124 bqJ6_bitCount_0f7a4_0 17 rfl rfl
theorem dJ6_bitCount_0f7a4_18 : decode cJ6_bitCount_0f7a4 18 = .ok (.ldc_w 266, 3) := dc19 bqJ6_bitCount_0f7a4_0 18 rfl rfl rfl
theorem dJ6_bitCount_0f7a4_21 : decode cJ6_bitCount_0f7a4 21 = .ok (.iand, 1) := dc126 bqJ6_bitCount_0f7a4_0 21 rfl rfl
theorem dJ6_bitCount_0f7a4_22 : decode cJ6_bitCount_0f7a4 22 = .ok (.iadd, 1) := dc96 bqJ6_bitCount_0f7a4_0 22 rfl rfl
theorem dJ6_bitCount_0f7a4_23 : decode cJ6_bitCount_0f7a4 23 = .ok (.istore_n 0, 1) := dc59 bqJ6_bitCount_0f7a4_0 23 rfl rfl
theorem bqJ6_bitCount_0f7a4_24 : hs_bs cJ6_bitCount_0f7a4 24 [26, 26, 7, 124, 96, 19, 1, 11, 126, 59, 26, 26, 16, 8, 124, 96, 59, 26, 26, 16, 16, 124, 96, 59] := hs_bs_of _ _ _ (by decide +kernel)
theorem dJ6_bitCount_0f7a4_24 : decode cJ6_bitCount_0f7a4 24 = .ok (.iload_n 0, 1) := dc26 bqJ6_bitCount_0f7a4_24 0 rfl rfl
theorem dJ6_bitCount_0f7a4_25 : decode cJ6_bitCount_0f7a4 25 = .ok (.iload_n 0, 1) := dc26 bqJ6_bitCount_0f7a4_24 1 rfl rfl
theorem dJ6_bitCount_0f7a4_26 : decode cJ6_bitCount_0f7a4 26 = .ok (.iconst 4, 1) := dc7 bqJ6_bitCount_0f7a4_24 2 rfl rfl
theorem dJ6_bitCount_0f7a4_27 : decode cJ6_bitCount_0f7a4 27 = .ok (.iushr, 1) := dc124 bqJ6_bitCount_0f7a4_24 3 rfl rfl
theorem dJ6_bitCount_0f7a4_28 : decode cJ6_bitCount_0f7a4 28 = .ok (.iadd, 1) := dc96 bqJ6_bitCount_0f7a4_24 4 rfl rfl
theorem dJ6_bitCount_0f7a4_29 : decode cJ6_bitCount_0f7a4 29 = .ok (.ldc_w 267, 3) := dc19 bqJ6_bitCount_0f7a4_24 5 rfl rfl rfl
theorem dJ6_bitCount_0f7a4_32 : decode cJ6_bitCount_0f7a4 32 = .ok (.iand, 1) := dc126 bqJ6_bitCount_0f7a4_24 8 rfl rfl
theorem dJ6_bitCount_0f7a4_33 : decode cJ6_bitCount_0f7a4 33 = .ok (.istore_n 0, 1) := dc59 bqJ6_bitCount_0f7a4_24 9 rfl rfl
theorem dJ6_bitCount_0f7a4_34 : decode cJ6_bitCount_0f7a4 34 = .ok (.iload_n 0, 1) := dc26 bqJ6_bitCount_0f7a4_24 10 rfl rfl
theorem dJ6_bitCount_0f7a4_35 : decode cJ6_bitCount_0f7a4 35 = .ok (.iload_n 0, 1) := dc26 bqJ6_bitCount_0f7a4_24 11 rfl rfl
theorem dJ6_bitCount_0f7a4_36 : decode cJ6_bitCount_0f7a4 36 = .ok (.bipush 8, 2) := dc16 bqJ6_bitCount_0f7a4_24 12 rfl rfl rfl
theorem dJ6_bitCount_0f7a4_38 : decode cJ6_bitCount_0f7a4 38 = .ok (.iushr, 1) := dc124 bqJ6_bitCount_0f7a4_24 14 rfl rfl
theorem dJ6_bitCount_0f7a4_39 : decode cJ6_bitCount_0f7a4 39 = .ok (.iadd, 1) := dc96 bqJ6_bitCount_0f7a4_24 15 rfl rfl
theorem dJ6_bitCount_0f7a4_40 : decode cJ6_bitCount_0f7a4 40 = .ok (.istore_n 0, 1) := dc59 bqJ6_bitCount_0f7a4_24 16 rfl rfl
theorem dJ6_bitCount_0f7a4_41 : decode cJ6_bitCount_0f7a4 41 = .ok (.iload_n 0, 1) := dc26 bqJ6_bitCount_0f7a4_24 17 rfl rfl
theorem dJ6_bitCount_0f7a4_42 : decode cJ6_bitCount_0f7a4 42 = .ok (.iload_n 0, 1) := dc26 bqJ6_bitCount_0f7a4_24 18 rfl rfl
theorem dJ6_bitCount_0f7a4_43 : decode cJ6_bitCount_0f7a4 43 = .ok (.bipush 16, 2) := dc16 bqJ6_bitCount_0f7a4_24 19 rfl rfl rfl
theorem dJ6_bitCount_0f7a4_45 : decode cJ6_bitCount_0f7a4 45 = .ok (.iushr, 1) := dc124 bqJ6_bitCount_0f7a4_24 21 rfl rfl
theorem dJ6_bitCount_0f7a4_46 : decode cJ6_bitCount_0f7a4 46 = .ok (.iadd, 1) := dc96 bqJ6_bitCount_0f7a4_24 22 rfl rfl
theorem dJ6_bitCount_0f7a4_47 : decode cJ6_bitCount_0f7a4 47 = .ok (.istore_n 0, 1) := dc59 bqJ6_bitCount_0f7a4_24 23 rfl rfl
theorem bqJ6_bitCount_0f7a4_48 : hs_bs cJ6_bitCount_0f7a4 48 [26, 16, 63, 126, 172] := hs_bs_of _ _ _ (by decide +kernel)
theorem dJ6_bitCount_0f7a4_48 : decode cJ6_bitCount_0f7a4 48 = .ok (.iload_n 0, 1) := dc26 bqJ6_bitCount_0f7a4_48 0 rfl rfl
theorem dJ6_bitCount_0f7a4_49 : decode cJ6_bitCount_0f7a4 49 = .ok (.bipush 63, 2) := dc16 bqJ6_bitCount_0f7a4_48 1 rfl rfl rfl
theorem dJ6_bitCount_0f7a4_51 : decode cJ6_bitCount_0f7a4 51 = .ok (.iand, 1) := dc126 bqJ6_bitCount_0f7a4_48 3 rfl rfl
theorem dJ6_bitCount_0f7a4_52 : decode cJ6_bitCount_0f7a4 52 = .ok (.ireturn, 1) := dc172 bqJ6_bitCount_0f7a4_48 4 rfl rfl
theorem bqJ9_abs_0f7a4_0 : hs_bs cJ9_abs_0f7a4 0 [26, 156, 0, 8, 26, 116, 167, 0, 4, 26, 172] := hs_bs_of _ _ _ (by decide +kernel)
theorem bqJ9_max_7cf53_0 : hs_bs cJ9_max_7cf53 0 [26, 27, 161, 0, 7, 26, 167, 0, 4, 27, 172] := hs_bs_of _ _ _ (by decide +kernel)
theorem bqJ9_min_7cf53_0 : hs_bs cJ9_min_7cf53 0 [26, 27, 163, 0, 7, 26, 167, 0, 4, 27, 172] := hs_bs_of _ _ _ (by decide +kernel)
set_option maxRecDepth 20000 in
theorem gJ0_length_8abf5_J0_coder_7d493 : GoodIn wsJ0_length_8abf5 (wsV RJ0 335 RJ0 yJ0_coder_7d493 wsJ0_coder_7d493) := hs_gC (hs_gV (hs_inG 2 73 rfl rfl) (hs_inG 2 74 rfl rfl) (hs_inG 2 75 rfl rfl) (hs_inG 1 9 rfl rfl) inC_J0_coder_7d493)
theorem bqJ0_length_8abf5_0 : hs_bs cJ0_length_8abf5 0 [42, 180, 0, 9, 190, 42, 182, 1, 79, 122, 172] := hs_bs_of _ _ _ (by decide +kernel)
theorem dJ0_length_8abf5_0 : decode cJ0_length_8abf5 0 = .ok (.aload_n 0, 1) := dc42 bqJ0_length_8abf5_0 0 rfl rfl
theorem dJ0_length_8abf5_1 : decode cJ0_length_8abf5 1 = .ok (.getfield 9, 3) := dc180 bqJ0_length_8abf5_0 1 rfl rfl rfl
theorem dJ0_length_8abf5_4 : decode cJ0_length_8abf5 4 = .ok (.arraylength, 1) := dc190 bqJ0_length_8abf5_0 4 rfl rfl
theorem dJ0_length_8abf5_5 : decode cJ0_length_8abf5 5 = .ok (.aload_n 0, 1) := dc42 bqJ0_length_8abf5_0 5 rfl rfl
theorem dJ0_length_8abf5_6 : decode cJ0_length_8abf5 6 = .ok (.invokevirtual 335, 3) := dc182 bqJ0_length_8abf5_0 6 rfl rfl rfl
theorem dJ0_length_8abf5_9 : decode cJ0_length_8abf5 9 = .ok (.ishr, 1) := dc122 bqJ0_length_8abf5_0 9 rfl rfl
theorem dJ0_length_8abf5_10 : decode cJ0_length_8abf5 10 = .ok (.ireturn, 1) := dc172 bqJ0_length_8abf5_0 10 rfl rfl
set_option maxRecDepth 20000 in
theorem gJ0_charAt_5068e_J0_isLatin1_aae02 : GoodIn wsJ0_charAt_5068e (wsV RJ0 492 RJ0 yJ0_isLatin1_aae02 wsJ0_isLatin1_aae02) := hs_gC (hs_gV (hs_inG 2 83 rfl rfl) (hs_inG 2 84 rfl rfl) (hs_inG 2 85 rfl rfl) (hs_inG 1 9 rfl rfl) inC_J0_isLatin1_aae02)
set_option maxRecDepth 20000 in
theorem gJ0_charAt_5068e_J1_charAt_3b067 : GoodIn wsJ0_charAt_5068e (va_wsS RJ0 495 yJ1_charAt_3b067 wsJ1_charAt_3b067) := hs_gC (hs_gS (hs_inG 2 87 rfl rfl) (hs_inG 2 88 rfl rfl) (hs_inG 1 10 rfl rfl) inC_J1_charAt_3b067)
theorem bqJ0_charAt_5068e_0 : hs_bs cJ0_charAt_5068e 0 [42, 182, 1, 236, 153, 0, 12, 42, 180, 0, 9, 27, 184, 1, 239, 172, 42, 180, 0, 9, 27, 184, 1, 242] := hs_bs_of _ _ _ (by decide +kernel)
theorem dJ0_charAt_5068e_0 : decode cJ0_charAt_5068e 0 = .ok (.aload_n 0, 1) := dc42 bqJ0_charAt_5068e_0 0 rfl rfl
theorem dJ0_charAt_5068e_1 : decode cJ0_charAt_5068e 1 = .ok (.invokevirtual 492, 3) := dc182 bqJ0_charAt_5068e_0 1 rfl rfl rfl
theorem dJ0_charAt_5068e_4 : decode cJ0_charAt_5068e 4 = .ok (.ifCond .eq 12, 3) := dc153 bqJ0_charAt_5068e_0 4 rfl rfl rfl
theorem dJ0_charAt_5068e_7 : decode cJ0_charAt_5068e 7 = .ok (.aload_n 0, 1) := dc42 bqJ0_charAt_5068e_0 7 rfl rfl
theorem dJ0_charAt_5068e_8 : decode cJ0_charAt_5068e 8 = .ok (.getfield 9, 3) := dc180 bqJ0_charAt_5068e_0 8 rfl rfl rfl
theorem dJ0_charAt_5068e_11 : decode cJ0_charAt_5068e 11 = .ok (.iload_n 1, 1) := dc27 bqJ0_charAt_5068e_0 11 rfl rfl
theorem dJ0_charAt_5068e_12 : decode cJ0_charAt_5068e 12 = .ok (.invokestatic 495, 3) := dc184 bqJ0_charAt_5068e_0 12 rfl rfl rfl
theorem dJ0_charAt_5068e_15 : decode cJ0_charAt_5068e 15 = .ok (.ireturn, 1) := dc172 bqJ0_charAt_5068e_0 15 rfl rfl
theorem bqJ0_charAt_5068e_24 : hs_bs cJ0_charAt_5068e 24 [172] := hs_bs_of _ _ _ (by decide +kernel)
theorem bqJ0_coder_7d493_0 : hs_bs cJ0_coder_7d493 0 [178, 0, 38, 153, 0, 10, 42, 180, 0, 15, 167, 0, 4, 4, 172] := hs_bs_of _ _ _ (by decide +kernel)
theorem dJ0_coder_7d493_0 : decode cJ0_coder_7d493 0 = .ok (.getstatic 38, 3) := dc178 bqJ0_coder_7d493_0 0 rfl rfl rfl
theorem dJ0_coder_7d493_3 : decode cJ0_coder_7d493 3 = .ok (.ifCond .eq 10, 3) := dc153 bqJ0_coder_7d493_0 3 rfl rfl rfl
theorem dJ0_coder_7d493_6 : decode cJ0_coder_7d493 6 = .ok (.aload_n 0, 1) := dc42 bqJ0_coder_7d493_0 6 rfl rfl
theorem dJ0_coder_7d493_7 : decode cJ0_coder_7d493 7 = .ok (.getfield 15, 3) := dc180 bqJ0_coder_7d493_0 7 rfl rfl rfl
theorem dJ0_coder_7d493_10 : decode cJ0_coder_7d493 10 = .ok (.goto 4, 3) := dc167 bqJ0_coder_7d493_0 10 rfl rfl rfl
theorem dJ0_coder_7d493_14 : decode cJ0_coder_7d493 14 = .ok (.ireturn, 1) := dc172 bqJ0_coder_7d493_0 14 rfl rfl
theorem bqJ0_isLatin1_aae02_0 : hs_bs cJ0_isLatin1_aae02 0 [178, 0, 38, 153, 0, 14, 42, 180, 0, 15, 154, 0, 7, 4, 167, 0, 4, 3, 172] := hs_bs_of _ _ _ (by decide +kernel)
theorem dJ0_isLatin1_aae02_0 : decode cJ0_isLatin1_aae02 0 = .ok (.getstatic 38, 3) := dc178 bqJ0_isLatin1_aae02_0 0 rfl rfl rfl
theorem dJ0_isLatin1_aae02_3 : decode cJ0_isLatin1_aae02 3 = .ok (.ifCond .eq 14, 3) := dc153 bqJ0_isLatin1_aae02_0 3 rfl rfl rfl
theorem dJ0_isLatin1_aae02_6 : decode cJ0_isLatin1_aae02 6 = .ok (.aload_n 0, 1) := dc42 bqJ0_isLatin1_aae02_0 6 rfl rfl
theorem dJ0_isLatin1_aae02_7 : decode cJ0_isLatin1_aae02 7 = .ok (.getfield 15, 3) := dc180 bqJ0_isLatin1_aae02_0 7 rfl rfl rfl
theorem dJ0_isLatin1_aae02_10 : decode cJ0_isLatin1_aae02 10 = .ok (.ifCond .ne 7, 3) := dc154 bqJ0_isLatin1_aae02_0 10 rfl rfl rfl
theorem dJ0_isLatin1_aae02_13 : decode cJ0_isLatin1_aae02 13 = .ok (.iconst 1, 1) := dc4 bqJ0_isLatin1_aae02_0 13 rfl rfl
theorem dJ0_isLatin1_aae02_14 : decode cJ0_isLatin1_aae02 14 = .ok (.goto 4, 3) := dc167 bqJ0_isLatin1_aae02_0 14 rfl rfl rfl
theorem dJ0_isLatin1_aae02_18 : decode cJ0_isLatin1_aae02 18 = .ok (.ireturn, 1) := dc172 bqJ0_isLatin1_aae02_0 18 rfl rfl
set_option maxRecDepth 20000 in
theorem gJ0_checkIndex_df160_J3_checkIndex_8e157 : GoodIn wsJ0_checkIndex_df160 (va_wsS RJ0 1059 yJ3_checkIndex_8e157 wsJ3_checkIndex_8e157) := hs_gC (hs_gS (hs_inG 2 95 rfl rfl) (hs_inG 2 96 rfl rfl) (hs_inG 1 11 rfl rfl) inC_J3_checkIndex_8e157)
theorem bqJ0_checkIndex_df160_0 : hs_bs cJ0_checkIndex_df160 0 [26, 27, 178, 4, 29, 184, 4, 35, 87, 177] := hs_bs_of _ _ _ (by decide +kernel)
theorem dJ0_checkIndex_df160_0 : decode cJ0_checkIndex_df160 0 = .ok (.iload_n 0, 1) := dc26 bqJ0_checkIndex_df160_0 0 rfl rfl
theorem dJ0_checkIndex_df160_1 : decode cJ0_checkIndex_df160 1 = .ok (.iload_n 1, 1) := dc27 bqJ0_checkIndex_df160_0 1 rfl rfl
theorem dJ0_checkIndex_df160_2 : decode cJ0_checkIndex_df160 2 = .ok (.getstatic 1053, 3) := dc178 bqJ0_checkIndex_df160_0 2 rfl rfl rfl
theorem dJ0_checkIndex_df160_5 : decode cJ0_checkIndex_df160 5 = .ok (.invokestatic 1059, 3) := dc184 bqJ0_checkIndex_df160_0 5 rfl rfl rfl
theorem dJ0_checkIndex_df160_8 : decode cJ0_checkIndex_df160 8 = .ok (.pop, 1) := dc87 bqJ0_checkIndex_df160_0 8 rfl rfl
theorem dJ0_checkIndex_df160_9 : decode cJ0_checkIndex_df160 9 = .ok (.return_, 1) := dc177 bqJ0_checkIndex_df160_0 9 rfl rfl
set_option maxRecDepth 20000 in
theorem gJ1_charAt_3b067_J0_checkIndex_df160 : GoodIn wsJ1_charAt_3b067 (va_wsS RJ1 9 yJ0_checkIndex_df160 wsJ0_checkIndex_df160) := hs_gC (hs_gS (hs_inG 2 90 rfl rfl) (hs_inG 2 91 rfl rfl) (hs_inG 1 9 rfl rfl) inC_J0_checkIndex_df160)
theorem bqJ1_charAt_3b067_0 : hs_bs cJ1_charAt_3b067 0 [27, 42, 190, 184, 0, 9, 42, 27, 51, 17, 0, 255, 126, 146, 172] := hs_bs_of _ _ _ (by decide +kernel)
theorem dJ1_charAt_3b067_0 : decode cJ1_charAt_3b067 0 = .ok (.iload_n 1, 1) := dc27 bqJ1_charAt_3b067_0 0 rfl rfl
theorem dJ1_charAt_3b067_1 : decode cJ1_charAt_3b067 1 = .ok (.aload_n 0, 1) := dc42 bqJ1_charAt_3b067_0 1 rfl rfl
theorem dJ1_charAt_3b067_2 : decode cJ1_charAt_3b067 2 = .ok (.arraylength, 1) := dc190 bqJ1_charAt_3b067_0 2 rfl rfl
theorem dJ1_charAt_3b067_3 : decode cJ1_charAt_3b067 3 = .ok (.invokestatic 9, 3) := dc184 bqJ1_charAt_3b067_0 3 rfl rfl rfl
theorem dJ1_charAt_3b067_6 : decode cJ1_charAt_3b067 6 = .ok (.aload_n 0, 1) := dc42 bqJ1_charAt_3b067_0 6 rfl rfl
theorem dJ1_charAt_3b067_7 : decode cJ1_charAt_3b067 7 = .ok (.iload_n 1, 1) := dc27 bqJ1_charAt_3b067_0 7 rfl rfl
theorem dJ1_charAt_3b067_8 : decode cJ1_charAt_3b067 8 = .ok (.baload, 1) := dc51 bqJ1_charAt_3b067_0 8 rfl rfl
theorem dJ1_charAt_3b067_9 : decode cJ1_charAt_3b067 9 = .ok (.sipush 255, 3) := dc17 bqJ1_charAt_3b067_0 9 rfl rfl rfl
theorem dJ1_charAt_3b067_12 : decode cJ1_charAt_3b067 12 = .ok (.iand, 1) := dc126 bqJ1_charAt_3b067_0 12 rfl rfl
theorem dJ1_charAt_3b067_13 : decode cJ1_charAt_3b067 13 = .ok (.i2c, 1) := dc146 bqJ1_charAt_3b067_0 13 rfl rfl
theorem dJ1_charAt_3b067_14 : decode cJ1_charAt_3b067 14 = .ok (.ireturn, 1) := dc172 bqJ1_charAt_3b067_0 14 rfl rfl
theorem bqJ2_getChar_3b067_0 : hs_bs cJ2_getChar_3b067 0 [178, 0, 44, 154, 0, 25, 27, 155, 0, 11, 27, 42, 184, 0, 48, 161, 0, 13, 187, 0, 52, 89, 18, 54] := hs_bs_of _ _ _ (by decide +kernel)
theorem bqJ2_getChar_3b067_24 : hs_bs cJ2_getChar_3b067 24 [183, 0, 56, 191, 27, 4, 120, 60, 42, 27, 132, 1, 1, 51, 17, 0, 255, 126, 178, 0, 59, 120, 42, 27] := hs_bs_of _ _ _ (by decide +kernel)
theorem bqJ2_getChar_3b067_48 : hs_bs cJ2_getChar_3b067 48 [51, 17, 0, 255, 126, 178, 0, 63, 120, 128, 146, 172] := hs_bs_of _ _ _ (by decide +kernel)
theorem bqJ2_length_9d52b_0 : hs_bs cJ2_length_9d52b 0 [42, 190, 4, 122, 172] := hs_bs_of _ _ _ (by decide +kernel)
theorem bqJ2_charAt_3b067_0 : hs_bs cJ2_charAt_3b067 0 [27, 42, 184, 0, 67, 42, 27, 184, 0, 71, 172] := hs_bs_of _ _ _ (by decide +kernel)
theorem bqJ2_checkIndex_2214a_0 : hs_bs cJ2_checkIndex_2214a 0 [26, 43, 184, 0, 48, 184, 1, 158, 177] := hs_bs_of _ _ _ (by decide +kernel)
theorem bqJ3_checkIndex_8e157_0 : hs_bs cJ3_checkIndex_8e157 0 [26, 155, 0, 8, 26, 27, 161, 0, 10, 44, 26, 27, 184, 0, 95, 191, 26, 172] := hs_bs_of _ _ _ (by decide +kernel)
theorem dJ3_checkIndex_8e157_0 : decode cJ3_checkIndex_8e157 0 = .ok (.iload_n 0, 1) := dc26 bqJ3_checkIndex_8e157_0 0 rfl rfl
theorem dJ3_checkIndex_8e157_1 : decode cJ3_checkIndex_8e157 1 = .ok (.ifCond .lt 8, 3) := dc155 bqJ3_checkIndex_8e157_0 1 rfl rfl rfl
theorem dJ3_checkIndex_8e157_4 : decode cJ3_checkIndex_8e157 4 = .ok (.iload_n 0, 1) := dc26 bqJ3_checkIndex_8e157_0 4 rfl rfl
theorem dJ3_checkIndex_8e157_5 : decode cJ3_checkIndex_8e157 5 = .ok (.iload_n 1, 1) := dc27 bqJ3_checkIndex_8e157_0 5 rfl rfl
theorem dJ3_checkIndex_8e157_6 : decode cJ3_checkIndex_8e157 6 = .ok (.if_icmp .lt 10, 3) := dc161 bqJ3_checkIndex_8e157_0 6 rfl rfl rfl
theorem dJ3_checkIndex_8e157_16 : decode cJ3_checkIndex_8e157 16 = .ok (.iload_n 0, 1) := dc26 bqJ3_checkIndex_8e157_0 16 rfl rfl
theorem dJ3_checkIndex_8e157_17 : decode cJ3_checkIndex_8e157 17 = .ok (.ireturn, 1) := dc172 bqJ3_checkIndex_8e157_0 17 rfl rfl
theorem bqL_law_0 : hs_bs cL_law 0 [187, 0, 7, 89, 183, 0, 9, 76, 187, 0, 10, 89, 183, 0, 12, 77, 3, 62, 29, 42, 190, 8, 100] := hs_bs_of _ _ _ (by decide +kernel)
theorem dL_law_0 : decode cL_law 0 = .ok (.new 7, 3) := dc187 bqL_law_0 0 rfl rfl rfl
theorem dL_law_3 : decode cL_law 3 = .ok (.dup, 1) := dc89 bqL_law_0 3 rfl rfl
theorem dL_law_4 : decode cL_law 4 = .ok (.invokespecial 9, 3) := dc183 bqL_law_0 4 rfl rfl rfl
theorem dL_law_7 : decode cL_law 7 = .ok (.astore_n 1, 1) := dc76 bqL_law_0 7 rfl rfl
theorem dL_law_8 : decode cL_law 8 = .ok (.new 10, 3) := dc187 bqL_law_0 8 rfl rfl rfl
theorem dL_law_11 : decode cL_law 11 = .ok (.dup, 1) := dc89 bqL_law_0 11 rfl rfl
theorem dL_law_12 : decode cL_law 12 = .ok (.invokespecial 12, 3) := dc183 bqL_law_0 12 rfl rfl rfl
theorem dL_law_15 : decode cL_law 15 = .ok (.astore_n 2, 1) := dc77 bqL_law_0 15 rfl rfl
theorem dL_law_16 : decode cL_law 16 = .ok (.iconst 0, 1) := dc3 bqL_law_0 16 rfl rfl
theorem dL_law_17 : decode cL_law 17 = .ok (.istore_n 3, 1) := dc62 bqL_law_0 17 rfl rfl
theorem dL_law_18 : decode cL_law 18 = .ok (.iload_n 3, 1) := dc29 bqL_law_0 18 rfl rfl
theorem dL_law_19 : decode cL_law 19 = .ok (.aload_n 0, 1) := dc42 bqL_law_0 19 rfl rfl
theorem dL_law_20 : decode cL_law 20 = .ok (.arraylength, 1) := dc190 bqL_law_0 20 rfl rfl
theorem dL_law_21 : decode cL_law 21 = .ok (.iconst 5, 1) := dc8 bqL_law_0 21 rfl rfl
theorem dL_law_22 : decode cL_law 22 = .ok (.isub, 1) := dc100 bqL_law_0 22 rfl rfl
theorem bqL_law_23 : hs_bs cL_law 23 [163, 5, 62, 42, 29, 46, 16, 63, 126] := hs_bs_of _ _ _ (by decide +kernel)
theorem dL_law_23 : decode cL_law 23 = .ok (.if_icmp .gt 1342, 3) := dc163 bqL_law_23 0 rfl rfl rfl
theorem dL_law_26 : decode cL_law 26 = .ok (.aload_n 0, 1) := dc42 bqL_law_23 3 rfl rfl
theorem dL_law_27 : decode cL_law 27 = .ok (.iload_n 3, 1) := dc29 bqL_law_23 4 rfl rfl
theorem dL_law_28 : decode cL_law 28 = .ok (.iaload, 1) := dc46 bqL_law_23 5 rfl rfl
theorem dL_law_29 : decode cL_law 29 = .ok (.bipush 63, 2) := dc16 bqL_law_23 6 rfl rfl rfl
theorem dL_law_31 : decode cL_law 31 = .ok (.iand, 1) := dc126 bqL_law_23 8 rfl rfl
theorem dL_law_32 : decode cL_law 32 = .ok (.tableswitch 1327 0 39 #[176, 199, 222, 235, 248, 271, 294, 317, 340, 373, 396, 419, 452, 485, 498, 531, 564, 597, 620, 643, 666, 709, 752, 785, 818, 841, 864, 907, 951, 994, 1017, 1040, 1063, 1106, 1129, 1152, 1195, 1238, 1291, 1304], 176) := by decide +kernel
theorem bqL_law_208 : hs_bs cL_law 208 [43, 42, 29, 4, 96, 46, 182, 0, 13, 87, 44, 42, 29, 4, 96, 46, 182, 0, 17, 87, 167, 4, 107, 43] := hs_bs_of _ _ _ (by decide +kernel)
theorem dL_law_208 : decode cL_law 208 = .ok (.aload_n 1, 1) := dc43 bqL_law_208 0 rfl rfl
theorem dL_law_209 : decode cL_law 209 = .ok (.aload_n 0, 1) := dc42 bqL_law_208 1 rfl rfl
theorem dL_law_210 : decode cL_law 210 = .ok (.iload_n 3, 1) := dc29 bqL_law_208 2 rfl rfl
theorem dL_law_211 : decode cL_law 211 = .ok (.iconst 1, 1) := dc4 bqL_law_208 3 rfl rfl
theorem dL_law_212 : decode cL_law 212 = .ok (.iadd, 1) := dc96 bqL_law_208 4 rfl rfl
theorem dL_law_213 : decode cL_law 213 = .ok (.iaload, 1) := dc46 bqL_law_208 5 rfl rfl
theorem dL_law_214 : decode cL_law 214 = .ok (.invokevirtual 13, 3) := dc182 bqL_law_208 6 rfl rfl rfl
theorem dL_law_217 : decode cL_law 217 = .ok (.pop, 1) := dc87 bqL_law_208 9 rfl rfl
theorem dL_law_218 : decode cL_law 218 = .ok (.aload_n 2, 1) := dc44 bqL_law_208 10 rfl rfl
theorem dL_law_219 : decode cL_law 219 = .ok (.aload_n 0, 1) := dc42 bqL_law_208 11 rfl rfl
theorem dL_law_220 : decode cL_law 220 = .ok (.iload_n 3, 1) := dc29 bqL_law_208 12 rfl rfl
theorem dL_law_221 : decode cL_law 221 = .ok (.iconst 1, 1) := dc4 bqL_law_208 13 rfl rfl
theorem dL_law_222 : decode cL_law 222 = .ok (.iadd, 1) := dc96 bqL_law_208 14 rfl rfl
theorem dL_law_223 : decode cL_law 223 = .ok (.iaload, 1) := dc46 bqL_law_208 15 rfl rfl
theorem dL_law_224 : decode cL_law 224 = .ok (.invokevirtual 17, 3) := dc182 bqL_law_208 16 rfl rfl rfl
theorem dL_law_227 : decode cL_law 227 = .ok (.pop, 1) := dc87 bqL_law_208 19 rfl rfl
theorem dL_law_228 : decode cL_law 228 = .ok (.goto 1131, 3) := dc167 bqL_law_208 20 rfl rfl rfl
theorem dL_law_231 : decode cL_law 231 = .ok (.aload_n 1, 1) := dc43 bqL_law_208 23 rfl rfl
theorem bqL_law_232 : hs_bs cL_law 232 [42, 29, 4, 96, 46, 182, 0, 18, 87, 44, 42, 29, 4, 96, 46, 182, 0, 21, 87, 167, 4, 84, 43] := hs_bs_of _ _ _ (by decide +kernel)
theorem dL_law_232 : decode cL_law 232 = .ok (.aload_n 0, 1) := dc42 bqL_law_232 0 rfl rfl
theorem dL_law_233 : decode cL_law 233 = .ok (.iload_n 3, 1) := dc29 bqL_law_232 1 rfl rfl
theorem dL_law_234 : decode cL_law 234 = .ok (.iconst 1, 1) := dc4 bqL_law_232 2 rfl rfl
theorem dL_law_235 : decode cL_law 235 = .ok (.iadd, 1) := dc96 bqL_law_232 3 rfl rfl
theorem dL_law_236 : decode cL_law 236 = .ok (.iaload, 1) := dc46 bqL_law_232 4 rfl rfl
theorem dL_law_237 : decode cL_law 237 = .ok (.invokevirtual 18, 3) := dc182 bqL_law_232 5 rfl rfl rfl
theorem dL_law_240 : decode cL_law 240 = .ok (.pop, 1) := dc87 bqL_law_232 8 rfl rfl
theorem dL_law_241 : decode cL_law 241 = .ok (.aload_n 2, 1) := dc44 bqL_law_232 9 rfl rfl
theorem dL_law_242 : decode cL_law 242 = .ok (.aload_n 0, 1) := dc42 bqL_law_232 10 rfl rfl
theorem dL_law_243 : decode cL_law 243 = .ok (.iload_n 3, 1) := dc29 bqL_law_232 11 rfl rfl
theorem dL_law_244 : decode cL_law 244 = .ok (.iconst 1, 1) := dc4 bqL_law_232 12 rfl rfl
theorem dL_law_245 : decode cL_law 245 = .ok (.iadd, 1) := dc96 bqL_law_232 13 rfl rfl
theorem dL_law_246 : decode cL_law 246 = .ok (.iaload, 1) := dc46 bqL_law_232 14 rfl rfl
theorem dL_law_247 : decode cL_law 247 = .ok (.invokevirtual 21, 3) := dc182 bqL_law_232 15 rfl rfl rfl
theorem dL_law_250 : decode cL_law 250 = .ok (.pop, 1) := dc87 bqL_law_232 18 rfl rfl
theorem dL_law_251 : decode cL_law 251 = .ok (.goto 1108, 3) := dc167 bqL_law_232 19 rfl rfl rfl
theorem dL_law_254 : decode cL_law 254 = .ok (.aload_n 1, 1) := dc43 bqL_law_232 22 rfl rfl
theorem bqL_law_255 : hs_bs cL_law 255 [182, 0, 22, 87, 44, 182, 0, 26, 87, 167, 4, 71, 43, 182, 0, 27, 87, 44, 182, 0, 30, 87] := hs_bs_of _ _ _ (by decide +kernel)
theorem dL_law_255 : decode cL_law 255 = .ok (.invokevirtual 22, 3) := dc182 bqL_law_255 0 rfl rfl rfl
theorem dL_law_258 : decode cL_law 258 = .ok (.pop, 1) := dc87 bqL_law_255 3 rfl rfl
theorem dL_law_259 : decode cL_law 259 = .ok (.aload_n 2, 1) := dc44 bqL_law_255 4 rfl rfl
theorem dL_law_260 : decode cL_law 260 = .ok (.invokevirtual 26, 3) := dc182 bqL_law_255 5 rfl rfl rfl
theorem dL_law_263 : decode cL_law 263 = .ok (.pop, 1) := dc87 bqL_law_255 8 rfl rfl
theorem dL_law_264 : decode cL_law 264 = .ok (.goto 1095, 3) := dc167 bqL_law_255 9 rfl rfl rfl
theorem dL_law_267 : decode cL_law 267 = .ok (.aload_n 1, 1) := dc43 bqL_law_255 12 rfl rfl
theorem dL_law_268 : decode cL_law 268 = .ok (.invokevirtual 27, 3) := dc182 bqL_law_255 13 rfl rfl rfl
theorem dL_law_271 : decode cL_law 271 = .ok (.pop, 1) := dc87 bqL_law_255 16 rfl rfl
theorem dL_law_272 : decode cL_law 272 = .ok (.aload_n 2, 1) := dc44 bqL_law_255 17 rfl rfl
theorem dL_law_273 : decode cL_law 273 = .ok (.invokevirtual 30, 3) := dc182 bqL_law_255 18 rfl rfl rfl
theorem dL_law_276 : decode cL_law 276 = .ok (.pop, 1) := dc87 bqL_law_255 21 rfl rfl
theorem bqL_law_277 : hs_bs cL_law 277 [167, 4, 58, 43, 42, 29, 4, 96, 46, 182, 0, 31, 87, 44, 42, 29, 4, 96, 46, 182, 0, 34, 87] := hs_bs_of _ _ _ (by decide +kernel)
theorem dL_law_277 : decode cL_law 277 = .ok (.goto 1082, 3) := dc167 bqL_law_277 0 rfl rfl rfl
theorem dL_law_280 : decode cL_law 280 = .ok (.aload_n 1, 1) := dc43 bqL_law_277 3 rfl rfl
theorem dL_law_281 : decode cL_law 281 = .ok (.aload_n 0, 1) := dc42 bqL_law_277 4 rfl rfl
theorem dL_law_282 : decode cL_law 282 = .ok (.iload_n 3, 1) := dc29 bqL_law_277 5 rfl rfl
theorem dL_law_283 : decode cL_law 283 = .ok (.iconst 1, 1) := dc4 bqL_law_277 6 rfl rfl
theorem dL_law_284 : decode cL_law 284 = .ok (.iadd, 1) := dc96 bqL_law_277 7 rfl rfl
theorem dL_law_285 : decode cL_law 285 = .ok (.iaload, 1) := dc46 bqL_law_277 8 rfl rfl
theorem dL_law_286 : decode cL_law 286 = .ok (.invokevirtual 31, 3) := dc182 bqL_law_277 9 rfl rfl rfl
theorem dL_law_289 : decode cL_law 289 = .ok (.pop, 1) := dc87 bqL_law_277 12 rfl rfl
theorem dL_law_290 : decode cL_law 290 = .ok (.aload_n 2, 1) := dc44 bqL_law_277 13 rfl rfl
theorem dL_law_291 : decode cL_law 291 = .ok (.aload_n 0, 1) := dc42 bqL_law_277 14 rfl rfl
theorem dL_law_292 : decode cL_law 292 = .ok (.iload_n 3, 1) := dc29 bqL_law_277 15 rfl rfl
theorem dL_law_293 : decode cL_law 293 = .ok (.iconst 1, 1) := dc4 bqL_law_277 16 rfl rfl
theorem dL_law_294 : decode cL_law 294 = .ok (.iadd, 1) := dc96 bqL_law_277 17 rfl rfl
theorem dL_law_295 : decode cL_law 295 = .ok (.iaload, 1) := dc46 bqL_law_277 18 rfl rfl
theorem dL_law_296 : decode cL_law 296 = .ok (.invokevirtual 34, 3) := dc182 bqL_law_277 19 rfl rfl rfl
theorem dL_law_299 : decode cL_law 299 = .ok (.pop, 1) := dc87 bqL_law_277 22 rfl rfl
theorem bqL_law_300 : hs_bs cL_law 300 [167, 4, 35, 43, 42, 29, 4, 96, 46, 182, 0, 35, 87, 44, 42, 29, 4, 96, 46, 182, 0, 38, 87] := hs_bs_of _ _ _ (by decide +kernel)
theorem dL_law_300 : decode cL_law 300 = .ok (.goto 1059, 3) := dc167 bqL_law_300 0 rfl rfl rfl
theorem dL_law_303 : decode cL_law 303 = .ok (.aload_n 1, 1) := dc43 bqL_law_300 3 rfl rfl
theorem dL_law_304 : decode cL_law 304 = .ok (.aload_n 0, 1) := dc42 bqL_law_300 4 rfl rfl
theorem dL_law_305 : decode cL_law 305 = .ok (.iload_n 3, 1) := dc29 bqL_law_300 5 rfl rfl
theorem dL_law_306 : decode cL_law 306 = .ok (.iconst 1, 1) := dc4 bqL_law_300 6 rfl rfl
theorem dL_law_307 : decode cL_law 307 = .ok (.iadd, 1) := dc96 bqL_law_300 7 rfl rfl
theorem dL_law_308 : decode cL_law 308 = .ok (.iaload, 1) := dc46 bqL_law_300 8 rfl rfl
theorem dL_law_309 : decode cL_law 309 = .ok (.invokevirtual 35, 3) := dc182 bqL_law_300 9 rfl rfl rfl
theorem dL_law_312 : decode cL_law 312 = .ok (.pop, 1) := dc87 bqL_law_300 12 rfl rfl
theorem dL_law_313 : decode cL_law 313 = .ok (.aload_n 2, 1) := dc44 bqL_law_300 13 rfl rfl
theorem dL_law_314 : decode cL_law 314 = .ok (.aload_n 0, 1) := dc42 bqL_law_300 14 rfl rfl
theorem dL_law_315 : decode cL_law 315 = .ok (.iload_n 3, 1) := dc29 bqL_law_300 15 rfl rfl
theorem dL_law_316 : decode cL_law 316 = .ok (.iconst 1, 1) := dc4 bqL_law_300 16 rfl rfl
theorem dL_law_317 : decode cL_law 317 = .ok (.iadd, 1) := dc96 bqL_law_300 17 rfl rfl
theorem dL_law_318 : decode cL_law 318 = .ok (.iaload, 1) := dc46 bqL_law_300 18 rfl rfl
theorem dL_law_319 : decode cL_law 319 = .ok (.invokevirtual 38, 3) := dc182 bqL_law_300 19 rfl rfl rfl
theorem dL_law_322 : decode cL_law 322 = .ok (.pop, 1) := dc87 bqL_law_300 22 rfl rfl
theorem bqL_law_323 : hs_bs cL_law 323 [167, 4, 12, 43, 42, 29, 4, 96, 46, 182, 0, 39, 87, 44, 42, 29, 4, 96, 46, 182, 0, 42, 87] := hs_bs_of _ _ _ (by decide +kernel)
theorem dL_law_323 : decode cL_law 323 = .ok (.goto 1036, 3) := dc167 bqL_law_323 0 rfl rfl rfl
theorem dL_law_326 : decode cL_law 326 = .ok (.aload_n 1, 1) := dc43 bqL_law_323 3 rfl rfl
theorem dL_law_327 : decode cL_law 327 = .ok (.aload_n 0, 1) := dc42 bqL_law_323 4 rfl rfl
theorem dL_law_328 : decode cL_law 328 = .ok (.iload_n 3, 1) := dc29 bqL_law_323 5 rfl rfl
theorem dL_law_329 : decode cL_law 329 = .ok (.iconst 1, 1) := dc4 bqL_law_323 6 rfl rfl
theorem dL_law_330 : decode cL_law 330 = .ok (.iadd, 1) := dc96 bqL_law_323 7 rfl rfl
theorem dL_law_331 : decode cL_law 331 = .ok (.iaload, 1) := dc46 bqL_law_323 8 rfl rfl
theorem dL_law_332 : decode cL_law 332 = .ok (.invokevirtual 39, 3) := dc182 bqL_law_323 9 rfl rfl rfl
theorem dL_law_335 : decode cL_law 335 = .ok (.pop, 1) := dc87 bqL_law_323 12 rfl rfl
theorem dL_law_336 : decode cL_law 336 = .ok (.aload_n 2, 1) := dc44 bqL_law_323 13 rfl rfl
theorem dL_law_337 : decode cL_law 337 = .ok (.aload_n 0, 1) := dc42 bqL_law_323 14 rfl rfl
theorem dL_law_338 : decode cL_law 338 = .ok (.iload_n 3, 1) := dc29 bqL_law_323 15 rfl rfl
theorem dL_law_339 : decode cL_law 339 = .ok (.iconst 1, 1) := dc4 bqL_law_323 16 rfl rfl
theorem dL_law_340 : decode cL_law 340 = .ok (.iadd, 1) := dc96 bqL_law_323 17 rfl rfl
theorem dL_law_341 : decode cL_law 341 = .ok (.iaload, 1) := dc46 bqL_law_323 18 rfl rfl
theorem dL_law_342 : decode cL_law 342 = .ok (.invokevirtual 42, 3) := dc182 bqL_law_323 19 rfl rfl rfl
theorem dL_law_345 : decode cL_law 345 = .ok (.pop, 1) := dc87 bqL_law_323 22 rfl rfl
theorem bqL_law_346 : hs_bs cL_law 346 [167, 3, 245, 43, 42, 29, 4, 96, 46, 182, 0, 43, 87, 44, 42, 29, 4, 96, 46, 182, 0, 46, 87] := hs_bs_of _ _ _ (by decide +kernel)
theorem dL_law_346 : decode cL_law 346 = .ok (.goto 1013, 3) := dc167 bqL_law_346 0 rfl rfl rfl
theorem dL_law_349 : decode cL_law 349 = .ok (.aload_n 1, 1) := dc43 bqL_law_346 3 rfl rfl
theorem dL_law_350 : decode cL_law 350 = .ok (.aload_n 0, 1) := dc42 bqL_law_346 4 rfl rfl
theorem dL_law_351 : decode cL_law 351 = .ok (.iload_n 3, 1) := dc29 bqL_law_346 5 rfl rfl
theorem dL_law_352 : decode cL_law 352 = .ok (.iconst 1, 1) := dc4 bqL_law_346 6 rfl rfl
theorem dL_law_353 : decode cL_law 353 = .ok (.iadd, 1) := dc96 bqL_law_346 7 rfl rfl
theorem dL_law_354 : decode cL_law 354 = .ok (.iaload, 1) := dc46 bqL_law_346 8 rfl rfl
theorem dL_law_355 : decode cL_law 355 = .ok (.invokevirtual 43, 3) := dc182 bqL_law_346 9 rfl rfl rfl
theorem dL_law_358 : decode cL_law 358 = .ok (.pop, 1) := dc87 bqL_law_346 12 rfl rfl
theorem dL_law_359 : decode cL_law 359 = .ok (.aload_n 2, 1) := dc44 bqL_law_346 13 rfl rfl
theorem dL_law_360 : decode cL_law 360 = .ok (.aload_n 0, 1) := dc42 bqL_law_346 14 rfl rfl
theorem dL_law_361 : decode cL_law 361 = .ok (.iload_n 3, 1) := dc29 bqL_law_346 15 rfl rfl
theorem dL_law_362 : decode cL_law 362 = .ok (.iconst 1, 1) := dc4 bqL_law_346 16 rfl rfl
theorem dL_law_363 : decode cL_law 363 = .ok (.iadd, 1) := dc96 bqL_law_346 17 rfl rfl
theorem dL_law_364 : decode cL_law 364 = .ok (.iaload, 1) := dc46 bqL_law_346 18 rfl rfl
theorem dL_law_365 : decode cL_law 365 = .ok (.invokevirtual 46, 3) := dc182 bqL_law_346 19 rfl rfl rfl
theorem dL_law_368 : decode cL_law 368 = .ok (.pop, 1) := dc87 bqL_law_346 22 rfl rfl
theorem bqL_law_369 : hs_bs cL_law 369 [167, 3, 222, 43, 42, 29, 4, 96, 46, 42, 29, 5, 96, 46, 182, 0, 47, 87, 44, 42, 29, 4, 96, 46] := hs_bs_of _ _ _ (by decide +kernel)
theorem dL_law_369 : decode cL_law 369 = .ok (.goto 990, 3) := dc167 bqL_law_369 0 rfl rfl rfl
theorem dL_law_372 : decode cL_law 372 = .ok (.aload_n 1, 1) := dc43 bqL_law_369 3 rfl rfl
theorem dL_law_373 : decode cL_law 373 = .ok (.aload_n 0, 1) := dc42 bqL_law_369 4 rfl rfl
theorem dL_law_374 : decode cL_law 374 = .ok (.iload_n 3, 1) := dc29 bqL_law_369 5 rfl rfl
theorem dL_law_375 : decode cL_law 375 = .ok (.iconst 1, 1) := dc4 bqL_law_369 6 rfl rfl
theorem dL_law_376 : decode cL_law 376 = .ok (.iadd, 1) := dc96 bqL_law_369 7 rfl rfl
theorem dL_law_377 : decode cL_law 377 = .ok (.iaload, 1) := dc46 bqL_law_369 8 rfl rfl
theorem dL_law_378 : decode cL_law 378 = .ok (.aload_n 0, 1) := dc42 bqL_law_369 9 rfl rfl
theorem dL_law_379 : decode cL_law 379 = .ok (.iload_n 3, 1) := dc29 bqL_law_369 10 rfl rfl
theorem dL_law_380 : decode cL_law 380 = .ok (.iconst 2, 1) := dc5 bqL_law_369 11 rfl rfl
theorem dL_law_381 : decode cL_law 381 = .ok (.iadd, 1) := dc96 bqL_law_369 12 rfl rfl
theorem dL_law_382 : decode cL_law 382 = .ok (.iaload, 1) := dc46 bqL_law_369 13 rfl rfl
theorem dL_law_383 : decode cL_law 383 = .ok (.invokevirtual 47, 3) := dc182 bqL_law_369 14 rfl rfl rfl
theorem dL_law_386 : decode cL_law 386 = .ok (.pop, 1) := dc87 bqL_law_369 17 rfl rfl
theorem dL_law_387 : decode cL_law 387 = .ok (.aload_n 2, 1) := dc44 bqL_law_369 18 rfl rfl
theorem dL_law_388 : decode cL_law 388 = .ok (.aload_n 0, 1) := dc42 bqL_law_369 19 rfl rfl
theorem dL_law_389 : decode cL_law 389 = .ok (.iload_n 3, 1) := dc29 bqL_law_369 20 rfl rfl
theorem dL_law_390 : decode cL_law 390 = .ok (.iconst 1, 1) := dc4 bqL_law_369 21 rfl rfl
theorem dL_law_391 : decode cL_law 391 = .ok (.iadd, 1) := dc96 bqL_law_369 22 rfl rfl
theorem dL_law_392 : decode cL_law 392 = .ok (.iaload, 1) := dc46 bqL_law_369 23 rfl rfl
theorem bqL_law_393 : hs_bs cL_law 393 [42, 29, 5, 96, 46, 182, 0, 51, 87, 167, 3, 189, 43, 42, 29, 4, 96, 46, 182, 0, 52, 87, 44, 42] := hs_bs_of _ _ _ (by decide +kernel)
theorem dL_law_393 : decode cL_law 393 = .ok (.aload_n 0, 1) := dc42 bqL_law_393 0 rfl rfl
theorem dL_law_394 : decode cL_law 394 = .ok (.iload_n 3, 1) := dc29 bqL_law_393 1 rfl rfl
theorem dL_law_395 : decode cL_law 395 = .ok (.iconst 2, 1) := dc5 bqL_law_393 2 rfl rfl
theorem dL_law_396 : decode cL_law 396 = .ok (.iadd, 1) := dc96 bqL_law_393 3 rfl rfl
theorem dL_law_397 : decode cL_law 397 = .ok (.iaload, 1) := dc46 bqL_law_393 4 rfl rfl
theorem dL_law_398 : decode cL_law 398 = .ok (.invokevirtual 51, 3) := dc182 bqL_law_393 5 rfl rfl rfl
theorem dL_law_401 : decode cL_law 401 = .ok (.pop, 1) := dc87 bqL_law_393 8 rfl rfl
theorem dL_law_402 : decode cL_law 402 = .ok (.goto 957, 3) := dc167 bqL_law_393 9 rfl rfl rfl
theorem dL_law_405 : decode cL_law 405 = .ok (.aload_n 1, 1) := dc43 bqL_law_393 12 rfl rfl
theorem dL_law_406 : decode cL_law 406 = .ok (.aload_n 0, 1) := dc42 bqL_law_393 13 rfl rfl
theorem dL_law_407 : decode cL_law 407 = .ok (.iload_n 3, 1) := dc29 bqL_law_393 14 rfl rfl
theorem dL_law_408 : decode cL_law 408 = .ok (.iconst 1, 1) := dc4 bqL_law_393 15 rfl rfl
theorem dL_law_409 : decode cL_law 409 = .ok (.iadd, 1) := dc96 bqL_law_393 16 rfl rfl
theorem dL_law_410 : decode cL_law 410 = .ok (.iaload, 1) := dc46 bqL_law_393 17 rfl rfl
theorem dL_law_411 : decode cL_law 411 = .ok (.invokevirtual 52, 3) := dc182 bqL_law_393 18 rfl rfl rfl
theorem dL_law_414 : decode cL_law 414 = .ok (.pop, 1) := dc87 bqL_law_393 21 rfl rfl
theorem dL_law_415 : decode cL_law 415 = .ok (.aload_n 2, 1) := dc44 bqL_law_393 22 rfl rfl
theorem dL_law_416 : decode cL_law 416 = .ok (.aload_n 0, 1) := dc42 bqL_law_393 23 rfl rfl
theorem bqL_law_417 : hs_bs cL_law 417 [29, 4, 96, 46, 182, 0, 55, 87, 167, 3, 166, 43, 42, 29, 4, 96, 46, 182, 0, 56, 87, 44, 42, 29] := hs_bs_of _ _ _ (by decide +kernel)
theorem dL_law_417 : decode cL_law 417 = .ok (.iload_n 3, 1) := dc29 bqL_law_417 0 rfl rfl
theorem dL_law_418 : decode cL_law 418 = .ok (.iconst 1, 1) := dc4 bqL_law_417 1 rfl rfl
theorem dL_law_419 : decode cL_law 419 = .ok (.iadd, 1) := dc96 bqL_law_417 2 rfl rfl
theorem dL_law_420 : decode cL_law 420 = .ok (.iaload, 1) := dc46 bqL_law_417 3 rfl rfl
theorem dL_law_421 : decode cL_law 421 = .ok (.invokevirtual 55, 3) := dc182 bqL_law_417 4 rfl rfl rfl
theorem dL_law_424 : decode cL_law 424 = .ok (.pop, 1) := dc87 bqL_law_417 7 rfl rfl
theorem dL_law_425 : decode cL_law 425 = .ok (.goto 934, 3) := dc167 bqL_law_417 8 rfl rfl rfl
theorem dL_law_428 : decode cL_law 428 = .ok (.aload_n 1, 1) := dc43 bqL_law_417 11 rfl rfl
theorem dL_law_429 : decode cL_law 429 = .ok (.aload_n 0, 1) := dc42 bqL_law_417 12 rfl rfl
theorem dL_law_430 : decode cL_law 430 = .ok (.iload_n 3, 1) := dc29 bqL_law_417 13 rfl rfl
theorem dL_law_431 : decode cL_law 431 = .ok (.iconst 1, 1) := dc4 bqL_law_417 14 rfl rfl
theorem dL_law_432 : decode cL_law 432 = .ok (.iadd, 1) := dc96 bqL_law_417 15 rfl rfl
theorem dL_law_433 : decode cL_law 433 = .ok (.iaload, 1) := dc46 bqL_law_417 16 rfl rfl
theorem dL_law_434 : decode cL_law 434 = .ok (.invokevirtual 56, 3) := dc182 bqL_law_417 17 rfl rfl rfl
theorem dL_law_437 : decode cL_law 437 = .ok (.pop, 1) := dc87 bqL_law_417 20 rfl rfl
theorem dL_law_438 : decode cL_law 438 = .ok (.aload_n 2, 1) := dc44 bqL_law_417 21 rfl rfl
theorem dL_law_439 : decode cL_law 439 = .ok (.aload_n 0, 1) := dc42 bqL_law_417 22 rfl rfl
theorem dL_law_440 : decode cL_law 440 = .ok (.iload_n 3, 1) := dc29 bqL_law_417 23 rfl rfl
theorem bqL_law_441 : hs_bs cL_law 441 [4, 96, 46, 182, 0, 59, 87, 167, 3, 143, 43, 42, 29, 4, 96, 46, 42, 29, 5, 96, 46, 182, 0, 60] := hs_bs_of _ _ _ (by decide +kernel)
theorem dL_law_441 : decode cL_law 441 = .ok (.iconst 1, 1) := dc4 bqL_law_441 0 rfl rfl
theorem dL_law_442 : decode cL_law 442 = .ok (.iadd, 1) := dc96 bqL_law_441 1 rfl rfl
theorem dL_law_443 : decode cL_law 443 = .ok (.iaload, 1) := dc46 bqL_law_441 2 rfl rfl
theorem dL_law_444 : decode cL_law 444 = .ok (.invokevirtual 59, 3) := dc182 bqL_law_441 3 rfl rfl rfl
theorem dL_law_447 : decode cL_law 447 = .ok (.pop, 1) := dc87 bqL_law_441 6 rfl rfl
theorem dL_law_448 : decode cL_law 448 = .ok (.goto 911, 3) := dc167 bqL_law_441 7 rfl rfl rfl
theorem dL_law_451 : decode cL_law 451 = .ok (.aload_n 1, 1) := dc43 bqL_law_441 10 rfl rfl
theorem dL_law_452 : decode cL_law 452 = .ok (.aload_n 0, 1) := dc42 bqL_law_441 11 rfl rfl
theorem dL_law_453 : decode cL_law 453 = .ok (.iload_n 3, 1) := dc29 bqL_law_441 12 rfl rfl
theorem dL_law_454 : decode cL_law 454 = .ok (.iconst 1, 1) := dc4 bqL_law_441 13 rfl rfl
theorem dL_law_455 : decode cL_law 455 = .ok (.iadd, 1) := dc96 bqL_law_441 14 rfl rfl
theorem dL_law_456 : decode cL_law 456 = .ok (.iaload, 1) := dc46 bqL_law_441 15 rfl rfl
theorem dL_law_457 : decode cL_law 457 = .ok (.aload_n 0, 1) := dc42 bqL_law_441 16 rfl rfl
theorem dL_law_458 : decode cL_law 458 = .ok (.iload_n 3, 1) := dc29 bqL_law_441 17 rfl rfl
theorem dL_law_459 : decode cL_law 459 = .ok (.iconst 2, 1) := dc5 bqL_law_441 18 rfl rfl
theorem dL_law_460 : decode cL_law 460 = .ok (.iadd, 1) := dc96 bqL_law_441 19 rfl rfl
theorem dL_law_461 : decode cL_law 461 = .ok (.iaload, 1) := dc46 bqL_law_441 20 rfl rfl
theorem dL_law_462 : decode cL_law 462 = .ok (.invokevirtual 60, 3) := dc182 bqL_law_441 21 rfl rfl rfl
theorem bqL_law_465 : hs_bs cL_law 465 [87, 44, 42, 29, 4, 96, 46, 42, 29, 5, 96, 46, 182, 0, 63, 87, 167, 3, 110, 43, 42, 29, 4, 96] := hs_bs_of _ _ _ (by decide +kernel)
theorem dL_law_465 : decode cL_law 465 = .ok (.pop, 1) := dc87 bqL_law_465 0 rfl rfl
theorem dL_law_466 : decode cL_law 466 = .ok (.aload_n 2, 1) := dc44 bqL_law_465 1 rfl rfl
theorem dL_law_467 : decode cL_law 467 = .ok (.aload_n 0, 1) := dc42 bqL_law_465 2 rfl rfl
theorem dL_law_468 : decode cL_law 468 = .ok (.iload_n 3, 1) := dc29 bqL_law_465 3 rfl rfl
theorem dL_law_469 : decode cL_law 469 = .ok (.iconst 1, 1) := dc4 bqL_law_465 4 rfl rfl
theorem dL_law_470 : decode cL_law 470 = .ok (.iadd, 1) := dc96 bqL_law_465 5 rfl rfl
theorem dL_law_471 : decode cL_law 471 = .ok (.iaload, 1) := dc46 bqL_law_465 6 rfl rfl
theorem dL_law_472 : decode cL_law 472 = .ok (.aload_n 0, 1) := dc42 bqL_law_465 7 rfl rfl
theorem dL_law_473 : decode cL_law 473 = .ok (.iload_n 3, 1) := dc29 bqL_law_465 8 rfl rfl
theorem dL_law_474 : decode cL_law 474 = .ok (.iconst 2, 1) := dc5 bqL_law_465 9 rfl rfl
theorem dL_law_475 : decode cL_law 475 = .ok (.iadd, 1) := dc96 bqL_law_465 10 rfl rfl
theorem dL_law_476 : decode cL_law 476 = .ok (.iaload, 1) := dc46 bqL_law_465 11 rfl rfl
theorem dL_law_477 : decode cL_law 477 = .ok (.invokevirtual 63, 3) := dc182 bqL_law_465 12 rfl rfl rfl
theorem dL_law_480 : decode cL_law 480 = .ok (.pop, 1) := dc87 bqL_law_465 15 rfl rfl
theorem dL_law_481 : decode cL_law 481 = .ok (.goto 878, 3) := dc167 bqL_law_465 16 rfl rfl rfl
theorem dL_law_484 : decode cL_law 484 = .ok (.aload_n 1, 1) := dc43 bqL_law_465 19 rfl rfl
theorem dL_law_485 : decode cL_law 485 = .ok (.aload_n 0, 1) := dc42 bqL_law_465 20 rfl rfl
theorem dL_law_486 : decode cL_law 486 = .ok (.iload_n 3, 1) := dc29 bqL_law_465 21 rfl rfl
theorem dL_law_487 : decode cL_law 487 = .ok (.iconst 1, 1) := dc4 bqL_law_465 22 rfl rfl
theorem dL_law_488 : decode cL_law 488 = .ok (.iadd, 1) := dc96 bqL_law_465 23 rfl rfl
theorem bqL_law_489 : hs_bs cL_law 489 [46, 42, 29, 5, 96, 46, 182, 0, 64, 87, 44, 42, 29, 4, 96, 46, 42, 29, 5, 96, 46, 182, 0, 67] := hs_bs_of _ _ _ (by decide +kernel)
theorem dL_law_489 : decode cL_law 489 = .ok (.iaload, 1) := dc46 bqL_law_489 0 rfl rfl
theorem dL_law_490 : decode cL_law 490 = .ok (.aload_n 0, 1) := dc42 bqL_law_489 1 rfl rfl
theorem dL_law_491 : decode cL_law 491 = .ok (.iload_n 3, 1) := dc29 bqL_law_489 2 rfl rfl
theorem dL_law_492 : decode cL_law 492 = .ok (.iconst 2, 1) := dc5 bqL_law_489 3 rfl rfl
theorem dL_law_493 : decode cL_law 493 = .ok (.iadd, 1) := dc96 bqL_law_489 4 rfl rfl
theorem dL_law_494 : decode cL_law 494 = .ok (.iaload, 1) := dc46 bqL_law_489 5 rfl rfl
theorem dL_law_495 : decode cL_law 495 = .ok (.invokevirtual 64, 3) := dc182 bqL_law_489 6 rfl rfl rfl
theorem dL_law_498 : decode cL_law 498 = .ok (.pop, 1) := dc87 bqL_law_489 9 rfl rfl
theorem dL_law_499 : decode cL_law 499 = .ok (.aload_n 2, 1) := dc44 bqL_law_489 10 rfl rfl
theorem dL_law_500 : decode cL_law 500 = .ok (.aload_n 0, 1) := dc42 bqL_law_489 11 rfl rfl
theorem dL_law_501 : decode cL_law 501 = .ok (.iload_n 3, 1) := dc29 bqL_law_489 12 rfl rfl
theorem dL_law_502 : decode cL_law 502 = .ok (.iconst 1, 1) := dc4 bqL_law_489 13 rfl rfl
theorem dL_law_503 : decode cL_law 503 = .ok (.iadd, 1) := dc96 bqL_law_489 14 rfl rfl
theorem dL_law_504 : decode cL_law 504 = .ok (.iaload, 1) := dc46 bqL_law_489 15 rfl rfl
theorem dL_law_505 : decode cL_law 505 = .ok (.aload_n 0, 1) := dc42 bqL_law_489 16 rfl rfl
theorem dL_law_506 : decode cL_law 506 = .ok (.iload_n 3, 1) := dc29 bqL_law_489 17 rfl rfl
theorem dL_law_507 : decode cL_law 507 = .ok (.iconst 2, 1) := dc5 bqL_law_489 18 rfl rfl
theorem dL_law_508 : decode cL_law 508 = .ok (.iadd, 1) := dc96 bqL_law_489 19 rfl rfl
theorem dL_law_509 : decode cL_law 509 = .ok (.iaload, 1) := dc46 bqL_law_489 20 rfl rfl
theorem dL_law_510 : decode cL_law 510 = .ok (.invokevirtual 67, 3) := dc182 bqL_law_489 21 rfl rfl rfl
theorem bqL_law_513 : hs_bs cL_law 513 [87, 167, 3, 77, 43, 182, 0, 68, 87, 44, 182, 0, 71, 87, 167, 3, 64, 43, 42, 29, 4, 96, 46, 42] := hs_bs_of _ _ _ (by decide +kernel)
theorem dL_law_513 : decode cL_law 513 = .ok (.pop, 1) := dc87 bqL_law_513 0 rfl rfl
theorem dL_law_514 : decode cL_law 514 = .ok (.goto 845, 3) := dc167 bqL_law_513 1 rfl rfl rfl
theorem dL_law_517 : decode cL_law 517 = .ok (.aload_n 1, 1) := dc43 bqL_law_513 4 rfl rfl
theorem dL_law_518 : decode cL_law 518 = .ok (.invokevirtual 68, 3) := dc182 bqL_law_513 5 rfl rfl rfl
theorem dL_law_521 : decode cL_law 521 = .ok (.pop, 1) := dc87 bqL_law_513 8 rfl rfl
theorem dL_law_522 : decode cL_law 522 = .ok (.aload_n 2, 1) := dc44 bqL_law_513 9 rfl rfl
theorem dL_law_523 : decode cL_law 523 = .ok (.invokevirtual 71, 3) := dc182 bqL_law_513 10 rfl rfl rfl
theorem dL_law_526 : decode cL_law 526 = .ok (.pop, 1) := dc87 bqL_law_513 13 rfl rfl
theorem dL_law_527 : decode cL_law 527 = .ok (.goto 832, 3) := dc167 bqL_law_513 14 rfl rfl rfl
theorem dL_law_530 : decode cL_law 530 = .ok (.aload_n 1, 1) := dc43 bqL_law_513 17 rfl rfl
theorem dL_law_531 : decode cL_law 531 = .ok (.aload_n 0, 1) := dc42 bqL_law_513 18 rfl rfl
theorem dL_law_532 : decode cL_law 532 = .ok (.iload_n 3, 1) := dc29 bqL_law_513 19 rfl rfl
theorem dL_law_533 : decode cL_law 533 = .ok (.iconst 1, 1) := dc4 bqL_law_513 20 rfl rfl
theorem dL_law_534 : decode cL_law 534 = .ok (.iadd, 1) := dc96 bqL_law_513 21 rfl rfl
theorem dL_law_535 : decode cL_law 535 = .ok (.iaload, 1) := dc46 bqL_law_513 22 rfl rfl
theorem dL_law_536 : decode cL_law 536 = .ok (.aload_n 0, 1) := dc42 bqL_law_513 23 rfl rfl
