theorem dX8_told_22 : decode cX8_told 22 = .ok (.ldiv, 1) := dc109 bqX8_told_0 22 rfl rfl
theorem dX8_told_23 : decode cX8_told 23 = .ok (.lreturn, 1) := dc173 bqX8_told_0 23 rfl rfl
set_option maxRecDepth 20000 in
theorem gX8_findCourt_X8_starts : GoodIn wsX8_findCourt (wsV RX8 177 RX8 yX8_starts wsX8_starts) := hs_gC (hs_gV (hs_inG 5 32 rfl rfl) (hs_inG 5 34 rfl rfl) (hs_inG 0 35 rfl rfl) (hs_inG 1 8 rfl rfl) inC_X8_starts)
set_option maxRecDepth 20000 in
theorem gX8_findCourt_X8_justTo : GoodIn wsX8_findCourt (wsV RX8 226 RX8 yX8_justTo wsX8_justTo) := hs_gC (hs_gV (hs_inG 5 138 rfl rfl) (hs_inG 5 140 rfl rfl) (hs_inG 0 46 rfl rfl) (hs_inG 1 8 rfl rfl) inC_X8_justTo)
set_option maxRecDepth 20000 in
theorem gX8_findCourt_X8_power : GoodIn wsX8_findCourt (va_wsS RX8 213 yX8_power wsX8_power) := hs_gC (hs_gS (hs_inG 5 9 rfl rfl) (hs_inG 5 10 rfl rfl) (hs_inG 1 8 rfl rfl) inC_X8_power)
set_option maxRecDepth 20000 in
theorem gX8_findCourt_X8_bitsOf : GoodIn wsX8_findCourt (va_wsS RX8 232 yX8_bitsOf wsX8_bitsOf) := hs_gC (hs_gS (hs_inG 5 152 rfl rfl) (hs_inG 5 153 rfl rfl) (hs_inG 1 8 rfl rfl) inC_X8_bitsOf)
theorem bqX8_findCourt_0 : hs_bs cX8_findCourt 0 [42, 182, 0, 177, 42, 28, 182, 0, 226, 62, 42, 9, 181, 0, 249, 42, 9, 181, 0, 253, 42, 16, 10, 42] := hs_bs_of _ _ _ (by decide +kernel)
theorem dX8_findCourt_0 : decode cX8_findCourt 0 = .ok (.aload_n 0, 1) := dc42 bqX8_findCourt_0 0 rfl rfl
theorem dX8_findCourt_1 : decode cX8_findCourt 1 = .ok (.invokevirtual 177, 3) := dc182 bqX8_findCourt_0 1 rfl rfl rfl
theorem dX8_findCourt_4 : decode cX8_findCourt 4 = .ok (.aload_n 0, 1) := dc42 bqX8_findCourt_0 4 rfl rfl
theorem dX8_findCourt_5 : decode cX8_findCourt 5 = .ok (.iload_n 2, 1) := dc28 bqX8_findCourt_0 5 rfl rfl
theorem dX8_findCourt_6 : decode cX8_findCourt 6 = .ok (.invokevirtual 226, 3) := dc182 bqX8_findCourt_0 6 rfl rfl rfl
theorem dX8_findCourt_9 : decode cX8_findCourt 9 = .ok (.istore_n 3, 1) := dc62 bqX8_findCourt_0 9 rfl rfl
theorem dX8_findCourt_10 : decode cX8_findCourt 10 = .ok (.aload_n 0, 1) := dc42 bqX8_findCourt_0 10 rfl rfl
theorem dX8_findCourt_11 : decode cX8_findCourt 11 = .ok (.lconst 0, 1) := dc9 bqX8_findCourt_0 11 rfl rfl
theorem dX8_findCourt_12 : decode cX8_findCourt 12 = .ok (.putfield 249, 3) := dc181 bqX8_findCourt_0 12 rfl rfl rfl
theorem dX8_findCourt_15 : decode cX8_findCourt 15 = .ok (.aload_n 0, 1) := dc42 bqX8_findCourt_0 15 rfl rfl
theorem dX8_findCourt_16 : decode cX8_findCourt 16 = .ok (.lconst 0, 1) := dc9 bqX8_findCourt_0 16 rfl rfl
theorem dX8_findCourt_17 : decode cX8_findCourt 17 = .ok (.putfield 253, 3) := dc181 bqX8_findCourt_0 17 rfl rfl rfl
theorem dX8_findCourt_20 : decode cX8_findCourt 20 = .ok (.aload_n 0, 1) := dc42 bqX8_findCourt_0 20 rfl rfl
theorem dX8_findCourt_21 : decode cX8_findCourt 21 = .ok (.bipush 10, 2) := dc16 bqX8_findCourt_0 21 rfl rfl rfl
theorem dX8_findCourt_23 : decode cX8_findCourt 23 = .ok (.aload_n 0, 1) := dc42 bqX8_findCourt_0 23 rfl rfl
theorem bqX8_findCourt_24 : hs_bs cX8_findCourt 24 [180, 0, 63, 184, 0, 213, 133, 181, 1, 0, 3, 54, 4, 21, 4, 4, 42, 180, 0, 63, 120, 162, 0, 106] := hs_bs_of _ _ _ (by decide +kernel)
theorem dX8_findCourt_24 : decode cX8_findCourt 24 = .ok (.getfield 63, 3) := dc180 bqX8_findCourt_24 0 rfl rfl rfl
theorem dX8_findCourt_27 : decode cX8_findCourt 27 = .ok (.invokestatic 213, 3) := dc184 bqX8_findCourt_24 3 rfl rfl rfl
theorem dX8_findCourt_30 : decode cX8_findCourt 30 = .ok (.i2l, 1) := dc133 bqX8_findCourt_24 6 rfl rfl
theorem dX8_findCourt_31 : decode cX8_findCourt 31 = .ok (.putfield 256, 3) := dc181 bqX8_findCourt_24 7 rfl rfl rfl
theorem dX8_findCourt_34 : decode cX8_findCourt 34 = .ok (.iconst 0, 1) := dc3 bqX8_findCourt_24 10 rfl rfl
theorem dX8_findCourt_35 : decode cX8_findCourt 35 = .ok (.istore 4, 2) := dc54 bqX8_findCourt_24 11 rfl rfl
theorem dX8_findCourt_37 : decode cX8_findCourt 37 = .ok (.iload 4, 2) := dc21 bqX8_findCourt_24 13 rfl rfl
theorem dX8_findCourt_39 : decode cX8_findCourt 39 = .ok (.iconst 1, 1) := dc4 bqX8_findCourt_24 15 rfl rfl
theorem dX8_findCourt_40 : decode cX8_findCourt 40 = .ok (.aload_n 0, 1) := dc42 bqX8_findCourt_24 16 rfl rfl
theorem dX8_findCourt_41 : decode cX8_findCourt 41 = .ok (.getfield 63, 3) := dc180 bqX8_findCourt_24 17 rfl rfl rfl
theorem dX8_findCourt_44 : decode cX8_findCourt 44 = .ok (.ishl, 1) := dc120 bqX8_findCourt_24 20 rfl rfl
theorem dX8_findCourt_45 : decode cX8_findCourt 45 = .ok (.if_icmp .ge 106, 3) := dc162 bqX8_findCourt_24 21 rfl rfl rfl
theorem bqX8_findCourt_48 : hs_bs cX8_findCourt 48 [10, 55, 5, 3, 54, 7, 21, 7, 42, 180, 0, 63, 162, 0, 35, 22, 5, 21, 4, 21, 7, 122, 4, 126] := hs_bs_of _ _ _ (by decide +kernel)
theorem dX8_findCourt_48 : decode cX8_findCourt 48 = .ok (.lconst 1, 1) := dc10 bqX8_findCourt_48 0 rfl rfl
theorem dX8_findCourt_49 : decode cX8_findCourt 49 = .ok (.lstore 5, 2) := dc55 bqX8_findCourt_48 1 rfl rfl
theorem dX8_findCourt_51 : decode cX8_findCourt 51 = .ok (.iconst 0, 1) := dc3 bqX8_findCourt_48 3 rfl rfl
theorem dX8_findCourt_52 : decode cX8_findCourt 52 = .ok (.istore 7, 2) := dc54 bqX8_findCourt_48 4 rfl rfl
theorem dX8_findCourt_54 : decode cX8_findCourt 54 = .ok (.iload 7, 2) := dc21 bqX8_findCourt_48 6 rfl rfl
theorem dX8_findCourt_56 : decode cX8_findCourt 56 = .ok (.aload_n 0, 1) := dc42 bqX8_findCourt_48 8 rfl rfl
theorem dX8_findCourt_57 : decode cX8_findCourt 57 = .ok (.getfield 63, 3) := dc180 bqX8_findCourt_48 9 rfl rfl rfl
theorem dX8_findCourt_60 : decode cX8_findCourt 60 = .ok (.if_icmp .ge 35, 3) := dc162 bqX8_findCourt_48 12 rfl rfl rfl
theorem dX8_findCourt_63 : decode cX8_findCourt 63 = .ok (.lload 5, 2) := dc22 bqX8_findCourt_48 15 rfl rfl
theorem dX8_findCourt_65 : decode cX8_findCourt 65 = .ok (.iload 4, 2) := dc21 bqX8_findCourt_48 17 rfl rfl
theorem dX8_findCourt_67 : decode cX8_findCourt 67 = .ok (.iload 7, 2) := dc21 bqX8_findCourt_48 19 rfl rfl
theorem dX8_findCourt_69 : decode cX8_findCourt 69 = .ok (.ishr, 1) := dc122 bqX8_findCourt_48 21 rfl rfl
theorem dX8_findCourt_70 : decode cX8_findCourt 70 = .ok (.iconst 1, 1) := dc4 bqX8_findCourt_48 22 rfl rfl
theorem dX8_findCourt_71 : decode cX8_findCourt 71 = .ok (.iand, 1) := dc126 bqX8_findCourt_48 23 rfl rfl
theorem bqX8_findCourt_72 : hs_bs cX8_findCourt 72 [4, 160, 0, 8, 27, 133, 167, 0, 8, 16, 10, 27, 100, 133, 105, 55, 5, 132, 7, 1, 167, 255, 218, 29] := hs_bs_of _ _ _ (by decide +kernel)
theorem dX8_findCourt_72 : decode cX8_findCourt 72 = .ok (.iconst 1, 1) := dc4 bqX8_findCourt_72 0 rfl rfl
theorem dX8_findCourt_73 : decode cX8_findCourt 73 = .ok (.if_icmp .ne 8, 3) := dc160 bqX8_findCourt_72 1 rfl rfl rfl
theorem dX8_findCourt_76 : decode cX8_findCourt 76 = .ok (.iload_n 1, 1) := dc27 bqX8_findCourt_72 4 rfl rfl
theorem dX8_findCourt_77 : decode cX8_findCourt 77 = .ok (.i2l, 1) := dc133 bqX8_findCourt_72 5 rfl rfl
theorem dX8_findCourt_78 : decode cX8_findCourt 78 = .ok (.goto 8, 3) := dc167 bqX8_findCourt_72 6 rfl rfl rfl
theorem dX8_findCourt_81 : decode cX8_findCourt 81 = .ok (.bipush 10, 2) := dc16 bqX8_findCourt_72 9 rfl rfl rfl
theorem dX8_findCourt_83 : decode cX8_findCourt 83 = .ok (.iload_n 1, 1) := dc27 bqX8_findCourt_72 11 rfl rfl
theorem dX8_findCourt_84 : decode cX8_findCourt 84 = .ok (.isub, 1) := dc100 bqX8_findCourt_72 12 rfl rfl
theorem dX8_findCourt_85 : decode cX8_findCourt 85 = .ok (.i2l, 1) := dc133 bqX8_findCourt_72 13 rfl rfl
theorem dX8_findCourt_86 : decode cX8_findCourt 86 = .ok (.lmul, 1) := dc105 bqX8_findCourt_72 14 rfl rfl
theorem dX8_findCourt_87 : decode cX8_findCourt 87 = .ok (.lstore 5, 2) := dc55 bqX8_findCourt_72 15 rfl rfl
theorem dX8_findCourt_89 : decode cX8_findCourt 89 = .ok (.iinc 7 1, 3) := dc132 bqX8_findCourt_72 17 rfl rfl rfl
theorem dX8_findCourt_92 : decode cX8_findCourt 92 = .ok (.goto (-38), 3) := dc167 bqX8_findCourt_72 20 rfl rfl rfl
theorem dX8_findCourt_95 : decode cX8_findCourt 95 = .ok (.iload_n 3, 1) := dc29 bqX8_findCourt_72 23 rfl rfl
theorem bqX8_findCourt_96 : hs_bs cX8_findCourt 96 [21, 4, 130, 184, 0, 232, 54, 7, 42, 89, 180, 0, 249, 5, 21, 7, 104, 42, 180, 0, 63, 164, 0, 8] := hs_bs_of _ _ _ (by decide +kernel)
theorem dX8_findCourt_96 : decode cX8_findCourt 96 = .ok (.iload 4, 2) := dc21 bqX8_findCourt_96 0 rfl rfl
theorem dX8_findCourt_98 : decode cX8_findCourt 98 = .ok (.ixor, 1) := dc130 bqX8_findCourt_96 2 rfl rfl
theorem dX8_findCourt_99 : decode cX8_findCourt 99 = .ok (.invokestatic 232, 3) := dc184 bqX8_findCourt_96 3 rfl rfl rfl
theorem dX8_findCourt_102 : decode cX8_findCourt 102 = .ok (.istore 7, 2) := dc54 bqX8_findCourt_96 6 rfl rfl
theorem dX8_findCourt_104 : decode cX8_findCourt 104 = .ok (.aload_n 0, 1) := dc42 bqX8_findCourt_96 8 rfl rfl
theorem dX8_findCourt_105 : decode cX8_findCourt 105 = .ok (.dup, 1) := dc89 bqX8_findCourt_96 9 rfl rfl
theorem dX8_findCourt_106 : decode cX8_findCourt 106 = .ok (.getfield 249, 3) := dc180 bqX8_findCourt_96 10 rfl rfl rfl
theorem dX8_findCourt_109 : decode cX8_findCourt 109 = .ok (.iconst 2, 1) := dc5 bqX8_findCourt_96 13 rfl rfl
theorem dX8_findCourt_110 : decode cX8_findCourt 110 = .ok (.iload 7, 2) := dc21 bqX8_findCourt_96 14 rfl rfl
theorem dX8_findCourt_112 : decode cX8_findCourt 112 = .ok (.imul, 1) := dc104 bqX8_findCourt_96 16 rfl rfl
theorem dX8_findCourt_113 : decode cX8_findCourt 113 = .ok (.aload_n 0, 1) := dc42 bqX8_findCourt_96 17 rfl rfl
theorem dX8_findCourt_114 : decode cX8_findCourt 114 = .ok (.getfield 63, 3) := dc180 bqX8_findCourt_96 18 rfl rfl rfl
theorem dX8_findCourt_117 : decode cX8_findCourt 117 = .ok (.if_icmp .le 8, 3) := dc164 bqX8_findCourt_96 21 rfl rfl rfl
theorem bqX8_findCourt_120 : hs_bs cX8_findCourt 120 [22, 5, 167, 0, 4, 9, 97, 181, 0, 249, 42, 89, 180, 0, 253, 22, 5, 21, 7, 133, 105, 97] := hs_bs_of _ _ _ (by decide +kernel)
theorem dX8_findCourt_120 : decode cX8_findCourt 120 = .ok (.lload 5, 2) := dc22 bqX8_findCourt_120 0 rfl rfl
theorem dX8_findCourt_122 : decode cX8_findCourt 122 = .ok (.goto 4, 3) := dc167 bqX8_findCourt_120 2 rfl rfl rfl
theorem dX8_findCourt_125 : decode cX8_findCourt 125 = .ok (.lconst 0, 1) := dc9 bqX8_findCourt_120 5 rfl rfl
theorem dX8_findCourt_126 : decode cX8_findCourt 126 = .ok (.ladd, 1) := dc97 bqX8_findCourt_120 6 rfl rfl
theorem dX8_findCourt_127 : decode cX8_findCourt 127 = .ok (.putfield 249, 3) := dc181 bqX8_findCourt_120 7 rfl rfl rfl
theorem dX8_findCourt_130 : decode cX8_findCourt 130 = .ok (.aload_n 0, 1) := dc42 bqX8_findCourt_120 10 rfl rfl
theorem dX8_findCourt_131 : decode cX8_findCourt 131 = .ok (.dup, 1) := dc89 bqX8_findCourt_120 11 rfl rfl
theorem dX8_findCourt_132 : decode cX8_findCourt 132 = .ok (.getfield 253, 3) := dc180 bqX8_findCourt_120 12 rfl rfl rfl
theorem dX8_findCourt_135 : decode cX8_findCourt 135 = .ok (.lload 5, 2) := dc22 bqX8_findCourt_120 15 rfl rfl
theorem dX8_findCourt_137 : decode cX8_findCourt 137 = .ok (.iload 7, 2) := dc21 bqX8_findCourt_120 17 rfl rfl
theorem dX8_findCourt_139 : decode cX8_findCourt 139 = .ok (.i2l, 1) := dc133 bqX8_findCourt_120 19 rfl rfl
theorem dX8_findCourt_140 : decode cX8_findCourt 140 = .ok (.lmul, 1) := dc105 bqX8_findCourt_120 20 rfl rfl
theorem dX8_findCourt_141 : decode cX8_findCourt 141 = .ok (.ladd, 1) := dc97 bqX8_findCourt_120 21 rfl rfl
theorem bqX8_findCourt_142 : hs_bs cX8_findCourt 142 [181, 0, 253, 132, 4, 1, 167, 255, 145, 177] := hs_bs_of _ _ _ (by decide +kernel)
theorem dX8_findCourt_142 : decode cX8_findCourt 142 = .ok (.putfield 253, 3) := dc181 bqX8_findCourt_142 0 rfl rfl rfl
theorem dX8_findCourt_145 : decode cX8_findCourt 145 = .ok (.iinc 4 1, 3) := dc132 bqX8_findCourt_142 3 rfl rfl rfl
theorem dX8_findCourt_148 : decode cX8_findCourt 148 = .ok (.goto (-111), 3) := dc167 bqX8_findCourt_142 6 rfl rfl rfl
theorem dX8_findCourt_151 : decode cX8_findCourt 151 = .ok (.return_, 1) := dc177 bqX8_findCourt_142 9 rfl rfl
set_option maxRecDepth 20000 in
theorem gX8_luck_X8_in : GoodIn wsX8_luck (va_wsS RX8 71 yX8_in wsX8_in) := hs_gC (hs_gS (hs_inG 4 182 rfl rfl) (hs_inG 4 183 rfl rfl) (hs_inG 1 8 rfl rfl) inC_X8_in)
set_option maxRecDepth 20000 in
theorem gX8_luck_X8_isCut : GoodIn wsX8_luck (wsV RX8 223 RX8 yX8_isCut wsX8_isCut) := hs_gC (hs_gV (hs_inG 5 112 rfl rfl) (hs_inG 5 114 rfl rfl) (hs_inG 0 42 rfl rfl) (hs_inG 1 8 rfl rfl) inC_X8_isCut)
set_option maxRecDepth 20000 in
theorem gX8_luck_X8_isPart : GoodIn wsX8_luck (va_wsS RX8 229 yX8_isPart wsX8_isPart) := hs_gC (hs_gS (hs_inG 5 149 rfl rfl) (hs_inG 5 150 rfl rfl) (hs_inG 1 8 rfl rfl) inC_X8_isPart)
set_option maxRecDepth 20000 in
theorem gX8_luck_X8_findCourt : GoodIn wsX8_luck (wsV RX8 263 RX8 yX8_findCourt wsX8_findCourt) := hs_gC (hs_gV (hs_inG 5 202 rfl rfl) (hs_inG 5 204 rfl rfl) (hs_inG 0 50 rfl rfl) (hs_inG 1 8 rfl rfl) inC_X8_findCourt)
set_option maxRecDepth 20000 in
theorem gX8_luck_X8_told : GoodIn wsX8_luck (va_wsS RX8 267 yX8_told wsX8_told) := hs_gC (hs_gS (hs_inG 5 206 rfl rfl) (hs_inG 5 207 rfl rfl) (hs_inG 1 8 rfl rfl) inC_X8_told)
theorem bqX8_luck_0 : hs_bs cX8_luck 0 [27, 133, 9, 20, 1, 3, 184, 0, 71, 153, 0, 18, 42, 28, 182, 0, 223, 153, 0, 10, 29, 184, 0, 229] := hs_bs_of _ _ _ (by decide +kernel)
theorem dX8_luck_0 : decode cX8_luck 0 = .ok (.iload_n 1, 1) := dc27 bqX8_luck_0 0 rfl rfl
theorem dX8_luck_1 : decode cX8_luck 1 = .ok (.i2l, 1) := dc133 bqX8_luck_0 1 rfl rfl
theorem dX8_luck_2 : decode cX8_luck 2 = .ok (.lconst 0, 1) := dc9 bqX8_luck_0 2 rfl rfl
theorem dX8_luck_3 : decode cX8_luck 3 = .ok (.ldc2_w 259, 3) := dc20 bqX8_luck_0 3 rfl rfl rfl
theorem dX8_luck_6 : decode cX8_luck 6 = .ok (.invokestatic 71, 3) := dc184 bqX8_luck_0 6 rfl rfl rfl
theorem dX8_luck_9 : decode cX8_luck 9 = .ok (.ifCond .eq 18, 3) := dc153 bqX8_luck_0 9 rfl rfl rfl
theorem dX8_luck_12 : decode cX8_luck 12 = .ok (.aload_n 0, 1) := dc42 bqX8_luck_0 12 rfl rfl
theorem dX8_luck_13 : decode cX8_luck 13 = .ok (.iload_n 2, 1) := dc28 bqX8_luck_0 13 rfl rfl
theorem dX8_luck_14 : decode cX8_luck 14 = .ok (.invokevirtual 223, 3) := dc182 bqX8_luck_0 14 rfl rfl rfl
theorem dX8_luck_17 : decode cX8_luck 17 = .ok (.ifCond .eq 10, 3) := dc153 bqX8_luck_0 17 rfl rfl rfl
theorem dX8_luck_20 : decode cX8_luck 20 = .ok (.iload_n 3, 1) := dc29 bqX8_luck_0 20 rfl rfl
theorem dX8_luck_21 : decode cX8_luck 21 = .ok (.invokestatic 229, 3) := dc184 bqX8_luck_0 21 rfl rfl rfl
theorem bqX8_luck_24 : hs_bs cX8_luck 24 [154, 0, 7, 20, 1, 5, 173, 42, 27, 28, 182, 1, 7, 42, 180, 0, 249, 42, 180, 1, 0, 29] := hs_bs_of _ _ _ (by decide +kernel)
theorem dX8_luck_24 : decode cX8_luck 24 = .ok (.ifCond .ne 7, 3) := dc154 bqX8_luck_24 0 rfl rfl rfl
theorem dX8_luck_27 : decode cX8_luck 27 = .ok (.ldc2_w 261, 3) := dc20 bqX8_luck_24 3 rfl rfl rfl
theorem dX8_luck_30 : decode cX8_luck 30 = .ok (.lreturn, 1) := dc173 bqX8_luck_24 6 rfl rfl
theorem dX8_luck_31 : decode cX8_luck 31 = .ok (.aload_n 0, 1) := dc42 bqX8_luck_24 7 rfl rfl
theorem dX8_luck_32 : decode cX8_luck 32 = .ok (.iload_n 1, 1) := dc27 bqX8_luck_24 8 rfl rfl
theorem dX8_luck_33 : decode cX8_luck 33 = .ok (.iload_n 2, 1) := dc28 bqX8_luck_24 9 rfl rfl
theorem dX8_luck_34 : decode cX8_luck 34 = .ok (.invokevirtual 263, 3) := dc182 bqX8_luck_24 10 rfl rfl rfl
theorem dX8_luck_37 : decode cX8_luck 37 = .ok (.aload_n 0, 1) := dc42 bqX8_luck_24 13 rfl rfl
theorem dX8_luck_38 : decode cX8_luck 38 = .ok (.getfield 249, 3) := dc180 bqX8_luck_24 14 rfl rfl rfl
theorem dX8_luck_41 : decode cX8_luck 41 = .ok (.aload_n 0, 1) := dc42 bqX8_luck_24 17 rfl rfl
theorem dX8_luck_42 : decode cX8_luck 42 = .ok (.getfield 256, 3) := dc180 bqX8_luck_24 18 rfl rfl rfl
theorem dX8_luck_45 : decode cX8_luck 45 = .ok (.iload_n 3, 1) := dc29 bqX8_luck_24 21 rfl rfl
theorem bqX8_luck_46 : hs_bs cX8_luck 46 [184, 1, 11, 173] := hs_bs_of _ _ _ (by decide +kernel)
theorem dX8_luck_46 : decode cX8_luck 46 = .ok (.invokestatic 267, 3) := dc184 bqX8_luck_46 0 rfl rfl rfl
theorem dX8_luck_49 : decode cX8_luck 49 = .ok (.lreturn, 1) := dc173 bqX8_luck_46 3 rfl rfl
set_option maxRecDepth 20000 in
theorem gX8_mean_X8_in : GoodIn wsX8_mean (va_wsS RX8 71 yX8_in wsX8_in) := hs_gC (hs_gS (hs_inG 4 182 rfl rfl) (hs_inG 4 183 rfl rfl) (hs_inG 1 8 rfl rfl) inC_X8_in)
set_option maxRecDepth 20000 in
theorem gX8_mean_X8_isCut : GoodIn wsX8_mean (wsV RX8 223 RX8 yX8_isCut wsX8_isCut) := hs_gC (hs_gV (hs_inG 5 112 rfl rfl) (hs_inG 5 114 rfl rfl) (hs_inG 0 42 rfl rfl) (hs_inG 1 8 rfl rfl) inC_X8_isCut)
set_option maxRecDepth 20000 in
theorem gX8_mean_X8_isPart : GoodIn wsX8_mean (va_wsS RX8 229 yX8_isPart wsX8_isPart) := hs_gC (hs_gS (hs_inG 5 149 rfl rfl) (hs_inG 5 150 rfl rfl) (hs_inG 1 8 rfl rfl) inC_X8_isPart)
set_option maxRecDepth 20000 in
theorem gX8_mean_X8_findCourt : GoodIn wsX8_mean (wsV RX8 263 RX8 yX8_findCourt wsX8_findCourt) := hs_gC (hs_gV (hs_inG 5 202 rfl rfl) (hs_inG 5 204 rfl rfl) (hs_inG 0 50 rfl rfl) (hs_inG 1 8 rfl rfl) inC_X8_findCourt)
set_option maxRecDepth 20000 in
theorem gX8_mean_X8_told : GoodIn wsX8_mean (va_wsS RX8 267 yX8_told wsX8_told) := hs_gC (hs_gS (hs_inG 5 206 rfl rfl) (hs_inG 5 207 rfl rfl) (hs_inG 1 8 rfl rfl) inC_X8_told)
theorem bqX8_mean_0 : hs_bs cX8_mean 0 [27, 133, 9, 20, 1, 3, 184, 0, 71, 153, 0, 18, 42, 28, 182, 0, 223, 153, 0, 10, 29, 184, 0, 229] := hs_bs_of _ _ _ (by decide +kernel)
theorem dX8_mean_0 : decode cX8_mean 0 = .ok (.iload_n 1, 1) := dc27 bqX8_mean_0 0 rfl rfl
theorem dX8_mean_1 : decode cX8_mean 1 = .ok (.i2l, 1) := dc133 bqX8_mean_0 1 rfl rfl
theorem dX8_mean_2 : decode cX8_mean 2 = .ok (.lconst 0, 1) := dc9 bqX8_mean_0 2 rfl rfl
theorem dX8_mean_3 : decode cX8_mean 3 = .ok (.ldc2_w 259, 3) := dc20 bqX8_mean_0 3 rfl rfl rfl
theorem dX8_mean_6 : decode cX8_mean 6 = .ok (.invokestatic 71, 3) := dc184 bqX8_mean_0 6 rfl rfl rfl
theorem dX8_mean_9 : decode cX8_mean 9 = .ok (.ifCond .eq 18, 3) := dc153 bqX8_mean_0 9 rfl rfl rfl
theorem dX8_mean_12 : decode cX8_mean 12 = .ok (.aload_n 0, 1) := dc42 bqX8_mean_0 12 rfl rfl
theorem dX8_mean_13 : decode cX8_mean 13 = .ok (.iload_n 2, 1) := dc28 bqX8_mean_0 13 rfl rfl
theorem dX8_mean_14 : decode cX8_mean 14 = .ok (.invokevirtual 223, 3) := dc182 bqX8_mean_0 14 rfl rfl rfl
theorem dX8_mean_17 : decode cX8_mean 17 = .ok (.ifCond .eq 10, 3) := dc153 bqX8_mean_0 17 rfl rfl rfl
theorem dX8_mean_20 : decode cX8_mean 20 = .ok (.iload_n 3, 1) := dc29 bqX8_mean_0 20 rfl rfl
theorem dX8_mean_21 : decode cX8_mean 21 = .ok (.invokestatic 229, 3) := dc184 bqX8_mean_0 21 rfl rfl rfl
theorem bqX8_mean_24 : hs_bs cX8_mean 24 [154, 0, 7, 20, 1, 5, 173, 42, 27, 28, 182, 1, 7, 42, 180, 0, 253, 42, 180, 1, 0, 29] := hs_bs_of _ _ _ (by decide +kernel)
theorem dX8_mean_24 : decode cX8_mean 24 = .ok (.ifCond .ne 7, 3) := dc154 bqX8_mean_24 0 rfl rfl rfl
theorem dX8_mean_27 : decode cX8_mean 27 = .ok (.ldc2_w 261, 3) := dc20 bqX8_mean_24 3 rfl rfl rfl
theorem dX8_mean_30 : decode cX8_mean 30 = .ok (.lreturn, 1) := dc173 bqX8_mean_24 6 rfl rfl
theorem dX8_mean_31 : decode cX8_mean 31 = .ok (.aload_n 0, 1) := dc42 bqX8_mean_24 7 rfl rfl
theorem dX8_mean_32 : decode cX8_mean 32 = .ok (.iload_n 1, 1) := dc27 bqX8_mean_24 8 rfl rfl
theorem dX8_mean_33 : decode cX8_mean 33 = .ok (.iload_n 2, 1) := dc28 bqX8_mean_24 9 rfl rfl
theorem dX8_mean_34 : decode cX8_mean 34 = .ok (.invokevirtual 263, 3) := dc182 bqX8_mean_24 10 rfl rfl rfl
theorem dX8_mean_37 : decode cX8_mean 37 = .ok (.aload_n 0, 1) := dc42 bqX8_mean_24 13 rfl rfl
theorem dX8_mean_38 : decode cX8_mean 38 = .ok (.getfield 253, 3) := dc180 bqX8_mean_24 14 rfl rfl rfl
theorem dX8_mean_41 : decode cX8_mean 41 = .ok (.aload_n 0, 1) := dc42 bqX8_mean_24 17 rfl rfl
theorem dX8_mean_42 : decode cX8_mean 42 = .ok (.getfield 256, 3) := dc180 bqX8_mean_24 18 rfl rfl rfl
theorem dX8_mean_45 : decode cX8_mean 45 = .ok (.iload_n 3, 1) := dc29 bqX8_mean_24 21 rfl rfl
theorem bqX8_mean_46 : hs_bs cX8_mean 46 [184, 1, 11, 173] := hs_bs_of _ _ _ (by decide +kernel)
theorem dX8_mean_46 : decode cX8_mean 46 = .ok (.invokestatic 267, 3) := dc184 bqX8_mean_46 0 rfl rfl rfl
theorem dX8_mean_49 : decode cX8_mean 49 = .ok (.lreturn, 1) := dc173 bqX8_mean_46 3 rfl rfl
set_option maxRecDepth 20000 in
theorem gX8_see_X8_isPerson : GoodIn wsX8_see (wsV RX8 187 RX8 yX8_isPerson wsX8_isPerson) := hs_gC (hs_gV (hs_inG 5 52 rfl rfl) (hs_inG 5 54 rfl rfl) (hs_inG 0 38 rfl rfl) (hs_inG 1 8 rfl rfl) inC_X8_isPerson)
set_option maxRecDepth 20000 in
theorem gX8_see_X8_isCut : GoodIn wsX8_see (wsV RX8 223 RX8 yX8_isCut wsX8_isCut) := hs_gC (hs_gV (hs_inG 5 112 rfl rfl) (hs_inG 5 114 rfl rfl) (hs_inG 0 42 rfl rfl) (hs_inG 1 8 rfl rfl) inC_X8_isCut)
set_option maxRecDepth 20000 in
theorem gX8_see_X8_in : GoodIn wsX8_see (va_wsS RX8 71 yX8_in wsX8_in) := hs_gC (hs_gS (hs_inG 4 182 rfl rfl) (hs_inG 4 183 rfl rfl) (hs_inG 1 8 rfl rfl) inC_X8_in)
theorem bqX8_see_0 : hs_bs cX8_see 0 [42, 27, 182, 0, 187, 153, 0, 23, 42, 28, 182, 0, 223, 153, 0, 15, 29, 133, 9, 20, 0, 197] := hs_bs_of _ _ _ (by decide +kernel)
theorem dX8_see_0 : decode cX8_see 0 = .ok (.aload_n 0, 1) := dc42 bqX8_see_0 0 rfl rfl
theorem dX8_see_1 : decode cX8_see 1 = .ok (.iload_n 1, 1) := dc27 bqX8_see_0 1 rfl rfl
theorem dX8_see_2 : decode cX8_see 2 = .ok (.invokevirtual 187, 3) := dc182 bqX8_see_0 2 rfl rfl rfl
theorem dX8_see_5 : decode cX8_see 5 = .ok (.ifCond .eq 23, 3) := dc153 bqX8_see_0 5 rfl rfl rfl
theorem dX8_see_8 : decode cX8_see 8 = .ok (.aload_n 0, 1) := dc42 bqX8_see_0 8 rfl rfl
theorem dX8_see_9 : decode cX8_see 9 = .ok (.iload_n 2, 1) := dc28 bqX8_see_0 9 rfl rfl
theorem dX8_see_10 : decode cX8_see 10 = .ok (.invokevirtual 223, 3) := dc182 bqX8_see_0 10 rfl rfl rfl
theorem dX8_see_13 : decode cX8_see 13 = .ok (.ifCond .eq 15, 3) := dc153 bqX8_see_0 13 rfl rfl rfl
theorem dX8_see_16 : decode cX8_see 16 = .ok (.iload_n 3, 1) := dc29 bqX8_see_0 16 rfl rfl
theorem dX8_see_17 : decode cX8_see 17 = .ok (.i2l, 1) := dc133 bqX8_see_0 17 rfl rfl
theorem dX8_see_18 : decode cX8_see 18 = .ok (.lconst 0, 1) := dc9 bqX8_see_0 18 rfl rfl
theorem dX8_see_19 : decode cX8_see 19 = .ok (.ldc2_w 197, 3) := dc20 bqX8_see_0 19 rfl rfl rfl
theorem bqX8_see_22 : hs_bs cX8_see 22 [184, 0, 71, 154, 0, 5, 2, 172, 42, 180, 0, 7, 16, 25, 46, 16, 6, 160, 0, 6, 16, 253, 172] := hs_bs_of _ _ _ (by decide +kernel)
theorem dX8_see_22 : decode cX8_see 22 = .ok (.invokestatic 71, 3) := dc184 bqX8_see_22 0 rfl rfl rfl
theorem dX8_see_25 : decode cX8_see 25 = .ok (.ifCond .ne 5, 3) := dc154 bqX8_see_22 3 rfl rfl rfl
theorem dX8_see_28 : decode cX8_see 28 = .ok (.iconst (-1), 1) := dc2 bqX8_see_22 6 rfl rfl
theorem dX8_see_29 : decode cX8_see 29 = .ok (.ireturn, 1) := dc172 bqX8_see_22 7 rfl rfl
theorem dX8_see_30 : decode cX8_see 30 = .ok (.aload_n 0, 1) := dc42 bqX8_see_22 8 rfl rfl
theorem dX8_see_31 : decode cX8_see 31 = .ok (.getfield 7, 3) := dc180 bqX8_see_22 9 rfl rfl rfl
theorem dX8_see_34 : decode cX8_see 34 = .ok (.bipush 25, 2) := dc16 bqX8_see_22 12 rfl rfl rfl
theorem dX8_see_36 : decode cX8_see 36 = .ok (.iaload, 1) := dc46 bqX8_see_22 14 rfl rfl
theorem dX8_see_37 : decode cX8_see 37 = .ok (.bipush 6, 2) := dc16 bqX8_see_22 15 rfl rfl rfl
theorem dX8_see_39 : decode cX8_see 39 = .ok (.if_icmp .ne 6, 3) := dc160 bqX8_see_22 17 rfl rfl rfl
theorem dX8_see_42 : decode cX8_see 42 = .ok (.bipush (-3), 2) := dc16 bqX8_see_22 20 rfl rfl rfl
theorem dX8_see_44 : decode cX8_see 44 = .ok (.ireturn, 1) := dc172 bqX8_see_22 22 rfl rfl
theorem bqX8_see_45 : hs_bs cX8_see 45 [16, 26, 6, 42, 180, 0, 7, 16, 25, 46, 104, 96, 54, 4, 42, 180, 0, 7, 21, 4, 27, 79, 42] := hs_bs_of _ _ _ (by decide +kernel)
theorem dX8_see_45 : decode cX8_see 45 = .ok (.bipush 26, 2) := dc16 bqX8_see_45 0 rfl rfl rfl
theorem dX8_see_47 : decode cX8_see 47 = .ok (.iconst 3, 1) := dc6 bqX8_see_45 2 rfl rfl
theorem dX8_see_48 : decode cX8_see 48 = .ok (.aload_n 0, 1) := dc42 bqX8_see_45 3 rfl rfl
theorem dX8_see_49 : decode cX8_see 49 = .ok (.getfield 7, 3) := dc180 bqX8_see_45 4 rfl rfl rfl
theorem dX8_see_52 : decode cX8_see 52 = .ok (.bipush 25, 2) := dc16 bqX8_see_45 7 rfl rfl rfl
theorem dX8_see_54 : decode cX8_see 54 = .ok (.iaload, 1) := dc46 bqX8_see_45 9 rfl rfl
theorem dX8_see_55 : decode cX8_see 55 = .ok (.imul, 1) := dc104 bqX8_see_45 10 rfl rfl
theorem dX8_see_56 : decode cX8_see 56 = .ok (.iadd, 1) := dc96 bqX8_see_45 11 rfl rfl
theorem dX8_see_57 : decode cX8_see 57 = .ok (.istore 4, 2) := dc54 bqX8_see_45 12 rfl rfl
theorem dX8_see_59 : decode cX8_see 59 = .ok (.aload_n 0, 1) := dc42 bqX8_see_45 14 rfl rfl
theorem dX8_see_60 : decode cX8_see 60 = .ok (.getfield 7, 3) := dc180 bqX8_see_45 15 rfl rfl rfl
theorem dX8_see_63 : decode cX8_see 63 = .ok (.iload 4, 2) := dc21 bqX8_see_45 18 rfl rfl
theorem dX8_see_65 : decode cX8_see 65 = .ok (.iload_n 1, 1) := dc27 bqX8_see_45 20 rfl rfl
theorem dX8_see_66 : decode cX8_see 66 = .ok (.iastore, 1) := dc79 bqX8_see_45 21 rfl rfl
theorem dX8_see_67 : decode cX8_see 67 = .ok (.aload_n 0, 1) := dc42 bqX8_see_45 22 rfl rfl
theorem bqX8_see_68 : hs_bs cX8_see 68 [180, 0, 7, 21, 4, 4, 96, 28, 79, 42, 180, 0, 7, 21, 4, 5, 96, 29, 79, 42, 180, 0, 7] := hs_bs_of _ _ _ (by decide +kernel)
theorem dX8_see_68 : decode cX8_see 68 = .ok (.getfield 7, 3) := dc180 bqX8_see_68 0 rfl rfl rfl
theorem dX8_see_71 : decode cX8_see 71 = .ok (.iload 4, 2) := dc21 bqX8_see_68 3 rfl rfl
theorem dX8_see_73 : decode cX8_see 73 = .ok (.iconst 1, 1) := dc4 bqX8_see_68 5 rfl rfl
theorem dX8_see_74 : decode cX8_see 74 = .ok (.iadd, 1) := dc96 bqX8_see_68 6 rfl rfl
theorem dX8_see_75 : decode cX8_see 75 = .ok (.iload_n 2, 1) := dc28 bqX8_see_68 7 rfl rfl
theorem dX8_see_76 : decode cX8_see 76 = .ok (.iastore, 1) := dc79 bqX8_see_68 8 rfl rfl
theorem dX8_see_77 : decode cX8_see 77 = .ok (.aload_n 0, 1) := dc42 bqX8_see_68 9 rfl rfl
theorem dX8_see_78 : decode cX8_see 78 = .ok (.getfield 7, 3) := dc180 bqX8_see_68 10 rfl rfl rfl
theorem dX8_see_81 : decode cX8_see 81 = .ok (.iload 4, 2) := dc21 bqX8_see_68 13 rfl rfl
theorem dX8_see_83 : decode cX8_see 83 = .ok (.iconst 2, 1) := dc5 bqX8_see_68 15 rfl rfl
theorem dX8_see_84 : decode cX8_see 84 = .ok (.iadd, 1) := dc96 bqX8_see_68 16 rfl rfl
theorem dX8_see_85 : decode cX8_see 85 = .ok (.iload_n 3, 1) := dc29 bqX8_see_68 17 rfl rfl
theorem dX8_see_86 : decode cX8_see 86 = .ok (.iastore, 1) := dc79 bqX8_see_68 18 rfl rfl
theorem dX8_see_87 : decode cX8_see 87 = .ok (.aload_n 0, 1) := dc42 bqX8_see_68 19 rfl rfl
theorem dX8_see_88 : decode cX8_see 88 = .ok (.getfield 7, 3) := dc180 bqX8_see_68 20 rfl rfl rfl
theorem bqX8_see_91 : hs_bs cX8_see 91 [16, 25, 92, 46, 4, 96, 79, 42, 180, 0, 7, 16, 25, 46, 172] := hs_bs_of _ _ _ (by decide +kernel)
theorem dX8_see_91 : decode cX8_see 91 = .ok (.bipush 25, 2) := dc16 bqX8_see_91 0 rfl rfl rfl
theorem dX8_see_93 : decode cX8_see 93 = .ok (.dup2, 1) := dc92 bqX8_see_91 2 rfl rfl
theorem dX8_see_94 : decode cX8_see 94 = .ok (.iaload, 1) := dc46 bqX8_see_91 3 rfl rfl
theorem dX8_see_95 : decode cX8_see 95 = .ok (.iconst 1, 1) := dc4 bqX8_see_91 4 rfl rfl
theorem dX8_see_96 : decode cX8_see 96 = .ok (.iadd, 1) := dc96 bqX8_see_91 5 rfl rfl
theorem dX8_see_97 : decode cX8_see 97 = .ok (.iastore, 1) := dc79 bqX8_see_91 6 rfl rfl
theorem dX8_see_98 : decode cX8_see 98 = .ok (.aload_n 0, 1) := dc42 bqX8_see_91 7 rfl rfl
theorem dX8_see_99 : decode cX8_see 99 = .ok (.getfield 7, 3) := dc180 bqX8_see_91 8 rfl rfl rfl
theorem dX8_see_102 : decode cX8_see 102 = .ok (.bipush 25, 2) := dc16 bqX8_see_91 11 rfl rfl rfl
theorem dX8_see_104 : decode cX8_see 104 = .ok (.iaload, 1) := dc46 bqX8_see_91 13 rfl rfl
theorem dX8_see_105 : decode cX8_see 105 = .ok (.ireturn, 1) := dc172 bqX8_see_91 14 rfl rfl
set_option maxRecDepth 20000 in
theorem gX8_forget_X8_in : GoodIn wsX8_forget (va_wsS RX8 71 yX8_in wsX8_in) := hs_gC (hs_gS (hs_inG 4 182 rfl rfl) (hs_inG 4 183 rfl rfl) (hs_inG 1 8 rfl rfl) inC_X8_in)
set_option maxRecDepth 20000 in
theorem gX8_forget_X8_becomes : GoodIn wsX8_forget (wsV RX8 192 RX8 yX8_becomes wsX8_becomes) := hs_gC (hs_gV (hs_inG 5 65 rfl rfl) (hs_inG 5 67 rfl rfl) (hs_inG 0 39 rfl rfl) (hs_inG 1 8 rfl rfl) inC_X8_becomes)
theorem bqX8_forget_0 : hs_bs cX8_forget 0 [27, 133, 9, 42, 180, 0, 7, 16, 25, 46, 133, 184, 0, 71, 153, 0, 13, 42, 16, 25, 27, 182, 0, 192] := hs_bs_of _ _ _ (by decide +kernel)
theorem dX8_forget_0 : decode cX8_forget 0 = .ok (.iload_n 1, 1) := dc27 bqX8_forget_0 0 rfl rfl
theorem dX8_forget_1 : decode cX8_forget 1 = .ok (.i2l, 1) := dc133 bqX8_forget_0 1 rfl rfl
theorem dX8_forget_2 : decode cX8_forget 2 = .ok (.lconst 0, 1) := dc9 bqX8_forget_0 2 rfl rfl
theorem dX8_forget_3 : decode cX8_forget 3 = .ok (.aload_n 0, 1) := dc42 bqX8_forget_0 3 rfl rfl
theorem dX8_forget_4 : decode cX8_forget 4 = .ok (.getfield 7, 3) := dc180 bqX8_forget_0 4 rfl rfl rfl
theorem dX8_forget_7 : decode cX8_forget 7 = .ok (.bipush 25, 2) := dc16 bqX8_forget_0 7 rfl rfl rfl
theorem dX8_forget_9 : decode cX8_forget 9 = .ok (.iaload, 1) := dc46 bqX8_forget_0 9 rfl rfl
theorem dX8_forget_10 : decode cX8_forget 10 = .ok (.i2l, 1) := dc133 bqX8_forget_0 10 rfl rfl
theorem dX8_forget_11 : decode cX8_forget 11 = .ok (.invokestatic 71, 3) := dc184 bqX8_forget_0 11 rfl rfl rfl
theorem dX8_forget_14 : decode cX8_forget 14 = .ok (.ifCond .eq 13, 3) := dc153 bqX8_forget_0 14 rfl rfl rfl
theorem dX8_forget_17 : decode cX8_forget 17 = .ok (.aload_n 0, 1) := dc42 bqX8_forget_0 17 rfl rfl
theorem dX8_forget_18 : decode cX8_forget 18 = .ok (.bipush 25, 2) := dc16 bqX8_forget_0 18 rfl rfl rfl
theorem dX8_forget_20 : decode cX8_forget 20 = .ok (.iload_n 1, 1) := dc27 bqX8_forget_0 20 rfl rfl
theorem dX8_forget_21 : decode cX8_forget 21 = .ok (.invokevirtual 192, 3) := dc182 bqX8_forget_0 21 rfl rfl rfl
theorem bqX8_forget_24 : hs_bs cX8_forget 24 [167, 0, 4, 2, 172] := hs_bs_of _ _ _ (by decide +kernel)
theorem dX8_forget_24 : decode cX8_forget 24 = .ok (.goto 4, 3) := dc167 bqX8_forget_24 0 rfl rfl rfl
theorem dX8_forget_27 : decode cX8_forget 27 = .ok (.iconst (-1), 1) := dc2 bqX8_forget_24 3 rfl rfl
theorem dX8_forget_28 : decode cX8_forget 28 = .ok (.ireturn, 1) := dc172 bqX8_forget_24 4 rfl rfl
set_option maxRecDepth 20000 in
theorem gX8_isSo_X8_findOf : GoodIn wsX8_isSo (wsV RX8 170 RX8 yX8_findOf wsX8_findOf) := hs_gC (hs_gV (hs_inG 5 116 rfl rfl) (hs_inG 5 118 rfl rfl) (hs_inG 0 43 rfl rfl) (hs_inG 1 8 rfl rfl) inC_X8_findOf)
theorem bqX8_isSo_0 : hs_bs cX8_isSo 0 [4, 60, 3, 61, 28, 42, 180, 0, 13, 16, 25, 46, 162, 0, 72, 16, 26, 6, 28, 104, 96, 62, 27] := hs_bs_of _ _ _ (by decide +kernel)
theorem dX8_isSo_0 : decode cX8_isSo 0 = .ok (.iconst 1, 1) := dc4 bqX8_isSo_0 0 rfl rfl
theorem dX8_isSo_1 : decode cX8_isSo 1 = .ok (.istore_n 1, 1) := dc60 bqX8_isSo_0 1 rfl rfl
theorem dX8_isSo_2 : decode cX8_isSo 2 = .ok (.iconst 0, 1) := dc3 bqX8_isSo_0 2 rfl rfl
theorem dX8_isSo_3 : decode cX8_isSo 3 = .ok (.istore_n 2, 1) := dc61 bqX8_isSo_0 3 rfl rfl
theorem dX8_isSo_4 : decode cX8_isSo 4 = .ok (.iload_n 2, 1) := dc28 bqX8_isSo_0 4 rfl rfl
theorem dX8_isSo_5 : decode cX8_isSo 5 = .ok (.aload_n 0, 1) := dc42 bqX8_isSo_0 5 rfl rfl
theorem dX8_isSo_6 : decode cX8_isSo 6 = .ok (.getfield 13, 3) := dc180 bqX8_isSo_0 6 rfl rfl rfl
theorem dX8_isSo_9 : decode cX8_isSo 9 = .ok (.bipush 25, 2) := dc16 bqX8_isSo_0 9 rfl rfl rfl
theorem dX8_isSo_11 : decode cX8_isSo 11 = .ok (.iaload, 1) := dc46 bqX8_isSo_0 11 rfl rfl
theorem dX8_isSo_12 : decode cX8_isSo 12 = .ok (.if_icmp .ge 72, 3) := dc162 bqX8_isSo_0 12 rfl rfl rfl
theorem dX8_isSo_15 : decode cX8_isSo 15 = .ok (.bipush 26, 2) := dc16 bqX8_isSo_0 15 rfl rfl rfl
theorem dX8_isSo_17 : decode cX8_isSo 17 = .ok (.iconst 3, 1) := dc6 bqX8_isSo_0 17 rfl rfl
theorem dX8_isSo_18 : decode cX8_isSo 18 = .ok (.iload_n 2, 1) := dc28 bqX8_isSo_0 18 rfl rfl
theorem dX8_isSo_19 : decode cX8_isSo 19 = .ok (.imul, 1) := dc104 bqX8_isSo_0 19 rfl rfl
theorem dX8_isSo_20 : decode cX8_isSo 20 = .ok (.iadd, 1) := dc96 bqX8_isSo_0 20 rfl rfl
theorem dX8_isSo_21 : decode cX8_isSo 21 = .ok (.istore_n 3, 1) := dc62 bqX8_isSo_0 21 rfl rfl
theorem dX8_isSo_22 : decode cX8_isSo 22 = .ok (.iload_n 1, 1) := dc27 bqX8_isSo_0 22 rfl rfl
theorem bqX8_isSo_23 : hs_bs cX8_isSo 23 [153, 0, 53, 42, 180, 0, 13, 29, 4, 96, 46, 42, 180, 0, 13, 3, 46, 162, 0, 36, 42, 42] := hs_bs_of _ _ _ (by decide +kernel)
theorem dX8_isSo_23 : decode cX8_isSo 23 = .ok (.ifCond .eq 53, 3) := dc153 bqX8_isSo_23 0 rfl rfl rfl
theorem dX8_isSo_26 : decode cX8_isSo 26 = .ok (.aload_n 0, 1) := dc42 bqX8_isSo_23 3 rfl rfl
theorem dX8_isSo_27 : decode cX8_isSo 27 = .ok (.getfield 13, 3) := dc180 bqX8_isSo_23 4 rfl rfl rfl
theorem dX8_isSo_30 : decode cX8_isSo 30 = .ok (.iload_n 3, 1) := dc29 bqX8_isSo_23 7 rfl rfl
theorem dX8_isSo_31 : decode cX8_isSo 31 = .ok (.iconst 1, 1) := dc4 bqX8_isSo_23 8 rfl rfl
theorem dX8_isSo_32 : decode cX8_isSo 32 = .ok (.iadd, 1) := dc96 bqX8_isSo_23 9 rfl rfl
theorem dX8_isSo_33 : decode cX8_isSo 33 = .ok (.iaload, 1) := dc46 bqX8_isSo_23 10 rfl rfl
theorem dX8_isSo_34 : decode cX8_isSo 34 = .ok (.aload_n 0, 1) := dc42 bqX8_isSo_23 11 rfl rfl
theorem dX8_isSo_35 : decode cX8_isSo 35 = .ok (.getfield 13, 3) := dc180 bqX8_isSo_23 12 rfl rfl rfl
theorem dX8_isSo_38 : decode cX8_isSo 38 = .ok (.iconst 0, 1) := dc3 bqX8_isSo_23 15 rfl rfl
theorem dX8_isSo_39 : decode cX8_isSo 39 = .ok (.iaload, 1) := dc46 bqX8_isSo_23 16 rfl rfl
theorem dX8_isSo_40 : decode cX8_isSo 40 = .ok (.if_icmp .ge 36, 3) := dc162 bqX8_isSo_23 17 rfl rfl rfl
theorem dX8_isSo_43 : decode cX8_isSo 43 = .ok (.aload_n 0, 1) := dc42 bqX8_isSo_23 20 rfl rfl
theorem dX8_isSo_44 : decode cX8_isSo 44 = .ok (.aload_n 0, 1) := dc42 bqX8_isSo_23 21 rfl rfl
theorem bqX8_isSo_45 : hs_bs cX8_isSo 45 [180, 0, 13, 29, 46, 42, 180, 0, 13, 29, 4, 96, 46, 182, 0, 170, 42, 180, 0, 13, 29, 5, 96, 46] := hs_bs_of _ _ _ (by decide +kernel)
theorem dX8_isSo_45 : decode cX8_isSo 45 = .ok (.getfield 13, 3) := dc180 bqX8_isSo_45 0 rfl rfl rfl
theorem dX8_isSo_48 : decode cX8_isSo 48 = .ok (.iload_n 3, 1) := dc29 bqX8_isSo_45 3 rfl rfl
theorem dX8_isSo_49 : decode cX8_isSo 49 = .ok (.iaload, 1) := dc46 bqX8_isSo_45 4 rfl rfl
theorem dX8_isSo_50 : decode cX8_isSo 50 = .ok (.aload_n 0, 1) := dc42 bqX8_isSo_45 5 rfl rfl
theorem dX8_isSo_51 : decode cX8_isSo 51 = .ok (.getfield 13, 3) := dc180 bqX8_isSo_45 6 rfl rfl rfl
theorem dX8_isSo_54 : decode cX8_isSo 54 = .ok (.iload_n 3, 1) := dc29 bqX8_isSo_45 9 rfl rfl
theorem dX8_isSo_55 : decode cX8_isSo 55 = .ok (.iconst 1, 1) := dc4 bqX8_isSo_45 10 rfl rfl
theorem dX8_isSo_56 : decode cX8_isSo 56 = .ok (.iadd, 1) := dc96 bqX8_isSo_45 11 rfl rfl
theorem dX8_isSo_57 : decode cX8_isSo 57 = .ok (.iaload, 1) := dc46 bqX8_isSo_45 12 rfl rfl
theorem dX8_isSo_58 : decode cX8_isSo 58 = .ok (.invokevirtual 170, 3) := dc182 bqX8_isSo_45 13 rfl rfl rfl
theorem dX8_isSo_61 : decode cX8_isSo 61 = .ok (.aload_n 0, 1) := dc42 bqX8_isSo_45 16 rfl rfl
theorem dX8_isSo_62 : decode cX8_isSo 62 = .ok (.getfield 13, 3) := dc180 bqX8_isSo_45 17 rfl rfl rfl
theorem dX8_isSo_65 : decode cX8_isSo 65 = .ok (.iload_n 3, 1) := dc29 bqX8_isSo_45 20 rfl rfl
theorem dX8_isSo_66 : decode cX8_isSo 66 = .ok (.iconst 2, 1) := dc5 bqX8_isSo_45 21 rfl rfl
theorem dX8_isSo_67 : decode cX8_isSo 67 = .ok (.iadd, 1) := dc96 bqX8_isSo_45 22 rfl rfl
theorem dX8_isSo_68 : decode cX8_isSo 68 = .ok (.iaload, 1) := dc46 bqX8_isSo_45 23 rfl rfl
theorem bqX8_isSo_69 : hs_bs cX8_isSo 69 [160, 0, 7, 4, 167, 0, 4, 3, 60, 132, 2, 1, 167, 255, 179, 27, 172] := hs_bs_of _ _ _ (by decide +kernel)
theorem dX8_isSo_69 : decode cX8_isSo 69 = .ok (.if_icmp .ne 7, 3) := dc160 bqX8_isSo_69 0 rfl rfl rfl
theorem dX8_isSo_72 : decode cX8_isSo 72 = .ok (.iconst 1, 1) := dc4 bqX8_isSo_69 3 rfl rfl
theorem dX8_isSo_73 : decode cX8_isSo 73 = .ok (.goto 4, 3) := dc167 bqX8_isSo_69 4 rfl rfl rfl
theorem dX8_isSo_76 : decode cX8_isSo 76 = .ok (.iconst 0, 1) := dc3 bqX8_isSo_69 7 rfl rfl
theorem dX8_isSo_77 : decode cX8_isSo 77 = .ok (.istore_n 1, 1) := dc60 bqX8_isSo_69 8 rfl rfl
theorem dX8_isSo_78 : decode cX8_isSo 78 = .ok (.iinc 2 1, 3) := dc132 bqX8_isSo_69 9 rfl rfl rfl
theorem dX8_isSo_81 : decode cX8_isSo 81 = .ok (.goto (-77), 3) := dc167 bqX8_isSo_69 12 rfl rfl rfl
theorem dX8_isSo_84 : decode cX8_isSo 84 = .ok (.iload_n 1, 1) := dc27 bqX8_isSo_69 15 rfl rfl
theorem dX8_isSo_85 : decode cX8_isSo 85 = .ok (.ireturn, 1) := dc172 bqX8_isSo_69 16 rfl rfl
set_option maxRecDepth 20000 in
theorem gX8_fits_X8_isCell : GoodIn wsX8_fits (wsV RX8 183 RX8 yX8_isCell wsX8_isCell) := hs_gC (hs_gV (hs_inG 5 44 rfl rfl) (hs_inG 5 46 rfl rfl) (hs_inG 0 37 rfl rfl) (hs_inG 1 8 rfl rfl) inC_X8_isCell)
set_option maxRecDepth 20000 in
theorem gX8_fits_X8_starts : GoodIn wsX8_fits (wsV RX8 177 RX8 yX8_starts wsX8_starts) := hs_gC (hs_gV (hs_inG 5 32 rfl rfl) (hs_inG 5 34 rfl rfl) (hs_inG 0 35 rfl rfl) (hs_inG 1 8 rfl rfl) inC_X8_starts)
set_option maxRecDepth 20000 in
theorem gX8_fits_X8_isSo : GoodIn wsX8_fits (wsV RX8 271 RX8 yX8_isSo wsX8_isSo) := hs_gC (hs_gV (hs_inG 5 228 rfl rfl) (hs_inG 5 230 rfl rfl) (hs_inG 0 51 rfl rfl) (hs_inG 1 8 rfl rfl) inC_X8_isSo)
set_option maxRecDepth 20000 in
theorem gX8_fits_X8_flag : GoodIn wsX8_fits (va_wsS RX8 173 yX8_flag wsX8_flag) := hs_gC (hs_gS (hs_inG 5 142 rfl rfl) (hs_inG 5 143 rfl rfl) (hs_inG 1 8 rfl rfl) inC_X8_flag)
theorem bqX8_fits_0 : hs_bs cX8_fits 0 [42, 27, 182, 0, 183, 154, 0, 5, 2, 172, 3, 61, 42, 182, 0, 177, 3, 62, 29, 16, 9, 163, 0, 30] := hs_bs_of _ _ _ (by decide +kernel)
theorem dX8_fits_0 : decode cX8_fits 0 = .ok (.aload_n 0, 1) := dc42 bqX8_fits_0 0 rfl rfl
theorem dX8_fits_1 : decode cX8_fits 1 = .ok (.iload_n 1, 1) := dc27 bqX8_fits_0 1 rfl rfl
theorem dX8_fits_2 : decode cX8_fits 2 = .ok (.invokevirtual 183, 3) := dc182 bqX8_fits_0 2 rfl rfl rfl
theorem dX8_fits_5 : decode cX8_fits 5 = .ok (.ifCond .ne 5, 3) := dc154 bqX8_fits_0 5 rfl rfl rfl
theorem dX8_fits_8 : decode cX8_fits 8 = .ok (.iconst (-1), 1) := dc2 bqX8_fits_0 8 rfl rfl
theorem dX8_fits_9 : decode cX8_fits 9 = .ok (.ireturn, 1) := dc172 bqX8_fits_0 9 rfl rfl
theorem dX8_fits_10 : decode cX8_fits 10 = .ok (.iconst 0, 1) := dc3 bqX8_fits_0 10 rfl rfl
theorem dX8_fits_11 : decode cX8_fits 11 = .ok (.istore_n 2, 1) := dc61 bqX8_fits_0 11 rfl rfl
theorem dX8_fits_12 : decode cX8_fits 12 = .ok (.aload_n 0, 1) := dc42 bqX8_fits_0 12 rfl rfl
theorem dX8_fits_13 : decode cX8_fits 13 = .ok (.invokevirtual 177, 3) := dc182 bqX8_fits_0 13 rfl rfl rfl
theorem dX8_fits_16 : decode cX8_fits 16 = .ok (.iconst 0, 1) := dc3 bqX8_fits_0 16 rfl rfl
theorem dX8_fits_17 : decode cX8_fits 17 = .ok (.istore_n 3, 1) := dc62 bqX8_fits_0 17 rfl rfl
theorem dX8_fits_18 : decode cX8_fits 18 = .ok (.iload_n 3, 1) := dc29 bqX8_fits_0 18 rfl rfl
theorem dX8_fits_19 : decode cX8_fits 19 = .ok (.bipush 9, 2) := dc16 bqX8_fits_0 19 rfl rfl rfl
theorem dX8_fits_21 : decode cX8_fits 21 = .ok (.if_icmp .gt 30, 3) := dc163 bqX8_fits_0 21 rfl rfl rfl
theorem bqX8_fits_24 : hs_bs cX8_fits 24 [42, 180, 0, 13, 4, 27, 96, 29, 79, 28, 42, 182, 1, 15, 184, 0, 173, 29, 120, 128, 61, 132, 3, 1] := hs_bs_of _ _ _ (by decide +kernel)
theorem dX8_fits_24 : decode cX8_fits 24 = .ok (.aload_n 0, 1) := dc42 bqX8_fits_24 0 rfl rfl
theorem dX8_fits_25 : decode cX8_fits 25 = .ok (.getfield 13, 3) := dc180 bqX8_fits_24 1 rfl rfl rfl
theorem dX8_fits_28 : decode cX8_fits 28 = .ok (.iconst 1, 1) := dc4 bqX8_fits_24 4 rfl rfl
theorem dX8_fits_29 : decode cX8_fits 29 = .ok (.iload_n 1, 1) := dc27 bqX8_fits_24 5 rfl rfl
theorem dX8_fits_30 : decode cX8_fits 30 = .ok (.iadd, 1) := dc96 bqX8_fits_24 6 rfl rfl
theorem dX8_fits_31 : decode cX8_fits 31 = .ok (.iload_n 3, 1) := dc29 bqX8_fits_24 7 rfl rfl
theorem dX8_fits_32 : decode cX8_fits 32 = .ok (.iastore, 1) := dc79 bqX8_fits_24 8 rfl rfl
theorem dX8_fits_33 : decode cX8_fits 33 = .ok (.iload_n 2, 1) := dc28 bqX8_fits_24 9 rfl rfl
theorem dX8_fits_34 : decode cX8_fits 34 = .ok (.aload_n 0, 1) := dc42 bqX8_fits_24 10 rfl rfl
theorem dX8_fits_35 : decode cX8_fits 35 = .ok (.invokevirtual 271, 3) := dc182 bqX8_fits_24 11 rfl rfl rfl
theorem dX8_fits_38 : decode cX8_fits 38 = .ok (.invokestatic 173, 3) := dc184 bqX8_fits_24 14 rfl rfl rfl
theorem dX8_fits_41 : decode cX8_fits 41 = .ok (.iload_n 3, 1) := dc29 bqX8_fits_24 17 rfl rfl
theorem dX8_fits_42 : decode cX8_fits 42 = .ok (.ishl, 1) := dc120 bqX8_fits_24 18 rfl rfl
theorem dX8_fits_43 : decode cX8_fits 43 = .ok (.ior, 1) := dc128 bqX8_fits_24 19 rfl rfl
theorem dX8_fits_44 : decode cX8_fits 44 = .ok (.istore_n 2, 1) := dc61 bqX8_fits_24 20 rfl rfl
theorem dX8_fits_45 : decode cX8_fits 45 = .ok (.iinc 3 1, 3) := dc132 bqX8_fits_24 21 rfl rfl rfl
theorem bqX8_fits_48 : hs_bs cX8_fits 48 [167, 255, 226, 28, 172] := hs_bs_of _ _ _ (by decide +kernel)
theorem dX8_fits_48 : decode cX8_fits 48 = .ok (.goto (-30), 3) := dc167 bqX8_fits_48 0 rfl rfl rfl
theorem dX8_fits_51 : decode cX8_fits 51 = .ok (.iload_n 2, 1) := dc28 bqX8_fits_48 3 rfl rfl
theorem dX8_fits_52 : decode cX8_fits 52 = .ok (.ireturn, 1) := dc172 bqX8_fits_48 4 rfl rfl
set_option maxRecDepth 20000 in
theorem gX8_kinds_X8_isPerson : GoodIn wsX8_kinds (wsV RX8 187 RX8 yX8_isPerson wsX8_isPerson) := hs_gC (hs_gV (hs_inG 5 52 rfl rfl) (hs_inG 5 54 rfl rfl) (hs_inG 0 38 rfl rfl) (hs_inG 1 8 rfl rfl) inC_X8_isPerson)
set_option maxRecDepth 20000 in
theorem gX8_kinds_X8_starts : GoodIn wsX8_kinds (wsV RX8 177 RX8 yX8_starts wsX8_starts) := hs_gC (hs_gV (hs_inG 5 32 rfl rfl) (hs_inG 5 34 rfl rfl) (hs_inG 0 35 rfl rfl) (hs_inG 1 8 rfl rfl) inC_X8_starts)
set_option maxRecDepth 20000 in
theorem gX8_kinds_X8_isSo : GoodIn wsX8_kinds (wsV RX8 271 RX8 yX8_isSo wsX8_isSo) := hs_gC (hs_gV (hs_inG 5 228 rfl rfl) (hs_inG 5 230 rfl rfl) (hs_inG 0 51 rfl rfl) (hs_inG 1 8 rfl rfl) inC_X8_isSo)
set_option maxRecDepth 20000 in
theorem gX8_kinds_X8_flag : GoodIn wsX8_kinds (va_wsS RX8 173 yX8_flag wsX8_flag) := hs_gC (hs_gS (hs_inG 5 142 rfl rfl) (hs_inG 5 143 rfl rfl) (hs_inG 1 8 rfl rfl) inC_X8_flag)
theorem bqX8_kinds_0 : hs_bs cX8_kinds 0 [42, 27, 182, 0, 187, 154, 0, 5, 2, 172, 3, 61, 42, 182, 0, 177, 3, 62, 29, 7, 162, 0, 31, 42] := hs_bs_of _ _ _ (by decide +kernel)
theorem dX8_kinds_0 : decode cX8_kinds 0 = .ok (.aload_n 0, 1) := dc42 bqX8_kinds_0 0 rfl rfl
theorem dX8_kinds_1 : decode cX8_kinds 1 = .ok (.iload_n 1, 1) := dc27 bqX8_kinds_0 1 rfl rfl
theorem dX8_kinds_2 : decode cX8_kinds 2 = .ok (.invokevirtual 187, 3) := dc182 bqX8_kinds_0 2 rfl rfl rfl
theorem dX8_kinds_5 : decode cX8_kinds 5 = .ok (.ifCond .ne 5, 3) := dc154 bqX8_kinds_0 5 rfl rfl rfl
theorem dX8_kinds_8 : decode cX8_kinds 8 = .ok (.iconst (-1), 1) := dc2 bqX8_kinds_0 8 rfl rfl
theorem dX8_kinds_9 : decode cX8_kinds 9 = .ok (.ireturn, 1) := dc172 bqX8_kinds_0 9 rfl rfl
theorem dX8_kinds_10 : decode cX8_kinds 10 = .ok (.iconst 0, 1) := dc3 bqX8_kinds_0 10 rfl rfl
theorem dX8_kinds_11 : decode cX8_kinds 11 = .ok (.istore_n 2, 1) := dc61 bqX8_kinds_0 11 rfl rfl
theorem dX8_kinds_12 : decode cX8_kinds 12 = .ok (.aload_n 0, 1) := dc42 bqX8_kinds_0 12 rfl rfl
theorem dX8_kinds_13 : decode cX8_kinds 13 = .ok (.invokevirtual 177, 3) := dc182 bqX8_kinds_0 13 rfl rfl rfl
theorem dX8_kinds_16 : decode cX8_kinds 16 = .ok (.iconst 0, 1) := dc3 bqX8_kinds_0 16 rfl rfl
theorem dX8_kinds_17 : decode cX8_kinds 17 = .ok (.istore_n 3, 1) := dc62 bqX8_kinds_0 17 rfl rfl
theorem dX8_kinds_18 : decode cX8_kinds 18 = .ok (.iload_n 3, 1) := dc29 bqX8_kinds_0 18 rfl rfl
theorem dX8_kinds_19 : decode cX8_kinds 19 = .ok (.iconst 4, 1) := dc7 bqX8_kinds_0 19 rfl rfl
theorem dX8_kinds_20 : decode cX8_kinds 20 = .ok (.if_icmp .ge 31, 3) := dc162 bqX8_kinds_0 20 rfl rfl rfl
theorem dX8_kinds_23 : decode cX8_kinds 23 = .ok (.aload_n 0, 1) := dc42 bqX8_kinds_0 23 rfl rfl
theorem bqX8_kinds_24 : hs_bs cX8_kinds 24 [180, 0, 13, 16, 9, 27, 96, 29, 79, 28, 42, 182, 1, 15, 184, 0, 173, 29, 120, 128, 61, 132, 3, 1] := hs_bs_of _ _ _ (by decide +kernel)
theorem dX8_kinds_24 : decode cX8_kinds 24 = .ok (.getfield 13, 3) := dc180 bqX8_kinds_24 0 rfl rfl rfl
theorem dX8_kinds_27 : decode cX8_kinds 27 = .ok (.bipush 9, 2) := dc16 bqX8_kinds_24 3 rfl rfl rfl
theorem dX8_kinds_29 : decode cX8_kinds 29 = .ok (.iload_n 1, 1) := dc27 bqX8_kinds_24 5 rfl rfl
theorem dX8_kinds_30 : decode cX8_kinds 30 = .ok (.iadd, 1) := dc96 bqX8_kinds_24 6 rfl rfl
theorem dX8_kinds_31 : decode cX8_kinds 31 = .ok (.iload_n 3, 1) := dc29 bqX8_kinds_24 7 rfl rfl
theorem dX8_kinds_32 : decode cX8_kinds 32 = .ok (.iastore, 1) := dc79 bqX8_kinds_24 8 rfl rfl
theorem dX8_kinds_33 : decode cX8_kinds 33 = .ok (.iload_n 2, 1) := dc28 bqX8_kinds_24 9 rfl rfl
theorem dX8_kinds_34 : decode cX8_kinds 34 = .ok (.aload_n 0, 1) := dc42 bqX8_kinds_24 10 rfl rfl
theorem dX8_kinds_35 : decode cX8_kinds 35 = .ok (.invokevirtual 271, 3) := dc182 bqX8_kinds_24 11 rfl rfl rfl
theorem dX8_kinds_38 : decode cX8_kinds 38 = .ok (.invokestatic 173, 3) := dc184 bqX8_kinds_24 14 rfl rfl rfl
theorem dX8_kinds_41 : decode cX8_kinds 41 = .ok (.iload_n 3, 1) := dc29 bqX8_kinds_24 17 rfl rfl
theorem dX8_kinds_42 : decode cX8_kinds 42 = .ok (.ishl, 1) := dc120 bqX8_kinds_24 18 rfl rfl
theorem dX8_kinds_43 : decode cX8_kinds 43 = .ok (.ior, 1) := dc128 bqX8_kinds_24 19 rfl rfl
theorem dX8_kinds_44 : decode cX8_kinds 44 = .ok (.istore_n 2, 1) := dc61 bqX8_kinds_24 20 rfl rfl
theorem dX8_kinds_45 : decode cX8_kinds 45 = .ok (.iinc 3 1, 3) := dc132 bqX8_kinds_24 21 rfl rfl rfl
theorem bqX8_kinds_48 : hs_bs cX8_kinds 48 [167, 255, 226, 28, 172] := hs_bs_of _ _ _ (by decide +kernel)
theorem dX8_kinds_48 : decode cX8_kinds 48 = .ok (.goto (-30), 3) := dc167 bqX8_kinds_48 0 rfl rfl rfl
theorem dX8_kinds_51 : decode cX8_kinds 51 = .ok (.iload_n 2, 1) := dc28 bqX8_kinds_48 3 rfl rfl
theorem dX8_kinds_52 : decode cX8_kinds 52 = .ok (.ireturn, 1) := dc172 bqX8_kinds_48 4 rfl rfl
set_option maxRecDepth 20000 in
theorem gX8_drift_X8_in : GoodIn wsX8_drift (va_wsS RX8 71 yX8_in wsX8_in) := hs_gC (hs_gS (hs_inG 4 182 rfl rfl) (hs_inG 4 183 rfl rfl) (hs_inG 1 8 rfl rfl) inC_X8_in)
set_option maxRecDepth 20000 in
theorem gX8_drift_X8_isPart : GoodIn wsX8_drift (va_wsS RX8 229 yX8_isPart wsX8_isPart) := hs_gC (hs_gS (hs_inG 5 149 rfl rfl) (hs_inG 5 150 rfl rfl) (hs_inG 1 8 rfl rfl) inC_X8_isPart)
set_option maxRecDepth 20000 in
theorem gX8_drift_X8_starts : GoodIn wsX8_drift (wsV RX8 177 RX8 yX8_starts wsX8_starts) := hs_gC (hs_gV (hs_inG 5 32 rfl rfl) (hs_inG 5 34 rfl rfl) (hs_inG 0 35 rfl rfl) (hs_inG 1 8 rfl rfl) inC_X8_starts)
set_option maxRecDepth 20000 in
theorem gX8_drift_X8_justTo : GoodIn wsX8_drift (wsV RX8 226 RX8 yX8_justTo wsX8_justTo) := hs_gC (hs_gV (hs_inG 5 138 rfl rfl) (hs_inG 5 140 rfl rfl) (hs_inG 0 46 rfl rfl) (hs_inG 1 8 rfl rfl) inC_X8_justTo)
set_option maxRecDepth 20000 in
theorem gX8_drift_X8_bitsOf : GoodIn wsX8_drift (va_wsS RX8 232 yX8_bitsOf wsX8_bitsOf) := hs_gC (hs_gS (hs_inG 5 152 rfl rfl) (hs_inG 5 153 rfl rfl) (hs_inG 1 8 rfl rfl) inC_X8_bitsOf)
set_option maxRecDepth 20000 in
theorem gX8_drift_X8_allWeights : GoodIn wsX8_drift (wsV RX8 180 RX8 yX8_allWeights wsX8_allWeights) := hs_gC (hs_gV (hs_inG 5 36 rfl rfl) (hs_inG 5 38 rfl rfl) (hs_inG 0 36 rfl rfl) (hs_inG 1 8 rfl rfl) inC_X8_allWeights)
theorem bqX8_drift_0 : hs_bs cX8_drift 0 [28, 133, 10, 20, 1, 19, 184, 0, 71, 153, 0, 10, 29, 184, 0, 229, 154, 0, 5, 2, 172, 27, 54, 4] := hs_bs_of _ _ _ (by decide +kernel)
theorem dX8_drift_0 : decode cX8_drift 0 = .ok (.iload_n 2, 1) := dc28 bqX8_drift_0 0 rfl rfl
theorem dX8_drift_1 : decode cX8_drift 1 = .ok (.i2l, 1) := dc133 bqX8_drift_0 1 rfl rfl
theorem dX8_drift_2 : decode cX8_drift 2 = .ok (.lconst 1, 1) := dc10 bqX8_drift_0 2 rfl rfl
theorem dX8_drift_3 : decode cX8_drift 3 = .ok (.ldc2_w 275, 3) := dc20 bqX8_drift_0 3 rfl rfl rfl
theorem dX8_drift_6 : decode cX8_drift 6 = .ok (.invokestatic 71, 3) := dc184 bqX8_drift_0 6 rfl rfl rfl
theorem dX8_drift_9 : decode cX8_drift 9 = .ok (.ifCond .eq 10, 3) := dc153 bqX8_drift_0 9 rfl rfl rfl
theorem dX8_drift_12 : decode cX8_drift 12 = .ok (.iload_n 3, 1) := dc29 bqX8_drift_0 12 rfl rfl
theorem dX8_drift_13 : decode cX8_drift 13 = .ok (.invokestatic 229, 3) := dc184 bqX8_drift_0 13 rfl rfl rfl
theorem dX8_drift_16 : decode cX8_drift 16 = .ok (.ifCond .ne 5, 3) := dc154 bqX8_drift_0 16 rfl rfl rfl
theorem dX8_drift_19 : decode cX8_drift 19 = .ok (.iconst (-1), 1) := dc2 bqX8_drift_0 19 rfl rfl
theorem dX8_drift_20 : decode cX8_drift 20 = .ok (.ireturn, 1) := dc172 bqX8_drift_0 20 rfl rfl
theorem dX8_drift_21 : decode cX8_drift 21 = .ok (.iload_n 1, 1) := dc27 bqX8_drift_0 21 rfl rfl
theorem dX8_drift_22 : decode cX8_drift 22 = .ok (.istore 4, 2) := dc54 bqX8_drift_0 22 rfl rfl
theorem bqX8_drift_24 : hs_bs cX8_drift 24 [3, 54, 5, 42, 182, 0, 177, 3, 54, 6, 21, 6, 28, 162, 0, 90, 21, 4, 19, 1, 21, 104] := hs_bs_of _ _ _ (by decide +kernel)
theorem dX8_drift_24 : decode cX8_drift 24 = .ok (.iconst 0, 1) := dc3 bqX8_drift_24 0 rfl rfl
theorem dX8_drift_25 : decode cX8_drift 25 = .ok (.istore 5, 2) := dc54 bqX8_drift_24 1 rfl rfl
theorem dX8_drift_27 : decode cX8_drift 27 = .ok (.aload_n 0, 1) := dc42 bqX8_drift_24 3 rfl rfl
theorem dX8_drift_28 : decode cX8_drift 28 = .ok (.invokevirtual 177, 3) := dc182 bqX8_drift_24 4 rfl rfl rfl
theorem dX8_drift_31 : decode cX8_drift 31 = .ok (.iconst 0, 1) := dc3 bqX8_drift_24 7 rfl rfl
theorem dX8_drift_32 : decode cX8_drift 32 = .ok (.istore 6, 2) := dc54 bqX8_drift_24 8 rfl rfl
theorem dX8_drift_34 : decode cX8_drift 34 = .ok (.iload 6, 2) := dc21 bqX8_drift_24 10 rfl rfl
theorem dX8_drift_36 : decode cX8_drift 36 = .ok (.iload_n 2, 1) := dc28 bqX8_drift_24 12 rfl rfl
theorem dX8_drift_37 : decode cX8_drift 37 = .ok (.if_icmp .ge 90, 3) := dc162 bqX8_drift_24 13 rfl rfl rfl
theorem dX8_drift_40 : decode cX8_drift 40 = .ok (.iload 4, 2) := dc21 bqX8_drift_24 16 rfl rfl
theorem dX8_drift_42 : decode cX8_drift 42 = .ok (.ldc_w 277, 3) := dc19 bqX8_drift_24 18 rfl rfl rfl
theorem dX8_drift_45 : decode cX8_drift 45 = .ok (.imul, 1) := dc104 bqX8_drift_24 21 rfl rfl
theorem bqX8_drift_46 : hs_bs cX8_drift 46 [17, 48, 57, 96, 54, 4, 21, 4, 16, 16, 122, 17, 127, 255, 126, 54, 7, 42, 180, 0, 13, 4, 21, 7] := hs_bs_of _ _ _ (by decide +kernel)
theorem dX8_drift_46 : decode cX8_drift 46 = .ok (.sipush 12345, 3) := dc17 bqX8_drift_46 0 rfl rfl rfl
theorem dX8_drift_49 : decode cX8_drift 49 = .ok (.iadd, 1) := dc96 bqX8_drift_46 3 rfl rfl
theorem dX8_drift_50 : decode cX8_drift 50 = .ok (.istore 4, 2) := dc54 bqX8_drift_46 4 rfl rfl
theorem dX8_drift_52 : decode cX8_drift 52 = .ok (.iload 4, 2) := dc21 bqX8_drift_46 6 rfl rfl
theorem dX8_drift_54 : decode cX8_drift 54 = .ok (.bipush 16, 2) := dc16 bqX8_drift_46 8 rfl rfl rfl
theorem dX8_drift_56 : decode cX8_drift 56 = .ok (.ishr, 1) := dc122 bqX8_drift_46 10 rfl rfl
theorem dX8_drift_57 : decode cX8_drift 57 = .ok (.sipush 32767, 3) := dc17 bqX8_drift_46 11 rfl rfl rfl
theorem dX8_drift_60 : decode cX8_drift 60 = .ok (.iand, 1) := dc126 bqX8_drift_46 14 rfl rfl
theorem dX8_drift_61 : decode cX8_drift 61 = .ok (.istore 7, 2) := dc54 bqX8_drift_46 15 rfl rfl
theorem dX8_drift_63 : decode cX8_drift 63 = .ok (.aload_n 0, 1) := dc42 bqX8_drift_46 17 rfl rfl
theorem dX8_drift_64 : decode cX8_drift 64 = .ok (.getfield 13, 3) := dc180 bqX8_drift_46 18 rfl rfl rfl
theorem dX8_drift_67 : decode cX8_drift 67 = .ok (.iconst 1, 1) := dc4 bqX8_drift_46 21 rfl rfl
theorem dX8_drift_68 : decode cX8_drift 68 = .ok (.iload 7, 2) := dc21 bqX8_drift_46 22 rfl rfl
theorem bqX8_drift_70 : hs_bs cX8_drift 70 [42, 180, 0, 13, 3, 46, 112, 96, 21, 7, 16, 8, 108, 16, 10, 112, 79, 4, 54, 8, 21, 8, 42] := hs_bs_of _ _ _ (by decide +kernel)
theorem dX8_drift_70 : decode cX8_drift 70 = .ok (.aload_n 0, 1) := dc42 bqX8_drift_70 0 rfl rfl
theorem dX8_drift_71 : decode cX8_drift 71 = .ok (.getfield 13, 3) := dc180 bqX8_drift_70 1 rfl rfl rfl
theorem dX8_drift_74 : decode cX8_drift 74 = .ok (.iconst 0, 1) := dc3 bqX8_drift_70 4 rfl rfl
theorem dX8_drift_75 : decode cX8_drift 75 = .ok (.iaload, 1) := dc46 bqX8_drift_70 5 rfl rfl
theorem dX8_drift_76 : decode cX8_drift 76 = .ok (.irem, 1) := dc112 bqX8_drift_70 6 rfl rfl
theorem dX8_drift_77 : decode cX8_drift 77 = .ok (.iadd, 1) := dc96 bqX8_drift_70 7 rfl rfl
theorem dX8_drift_78 : decode cX8_drift 78 = .ok (.iload 7, 2) := dc21 bqX8_drift_70 8 rfl rfl
theorem dX8_drift_80 : decode cX8_drift 80 = .ok (.bipush 8, 2) := dc16 bqX8_drift_70 10 rfl rfl rfl
theorem dX8_drift_82 : decode cX8_drift 82 = .ok (.idiv, 1) := dc108 bqX8_drift_70 12 rfl rfl
theorem dX8_drift_83 : decode cX8_drift 83 = .ok (.bipush 10, 2) := dc16 bqX8_drift_70 13 rfl rfl rfl
theorem dX8_drift_85 : decode cX8_drift 85 = .ok (.irem, 1) := dc112 bqX8_drift_70 15 rfl rfl
theorem dX8_drift_86 : decode cX8_drift 86 = .ok (.iastore, 1) := dc79 bqX8_drift_70 16 rfl rfl
theorem dX8_drift_87 : decode cX8_drift 87 = .ok (.iconst 1, 1) := dc4 bqX8_drift_70 17 rfl rfl
theorem dX8_drift_88 : decode cX8_drift 88 = .ok (.istore 8, 2) := dc54 bqX8_drift_70 18 rfl rfl
theorem dX8_drift_90 : decode cX8_drift 90 = .ok (.iload 8, 2) := dc21 bqX8_drift_70 20 rfl rfl
theorem dX8_drift_92 : decode cX8_drift 92 = .ok (.aload_n 0, 1) := dc42 bqX8_drift_70 22 rfl rfl
theorem bqX8_drift_93 : hs_bs cX8_drift 93 [180, 0, 13, 3, 46, 162, 0, 23, 21, 5, 42, 21, 8, 182, 0, 226, 184, 0, 232, 96, 54, 5] := hs_bs_of _ _ _ (by decide +kernel)
theorem dX8_drift_93 : decode cX8_drift 93 = .ok (.getfield 13, 3) := dc180 bqX8_drift_93 0 rfl rfl rfl
theorem dX8_drift_96 : decode cX8_drift 96 = .ok (.iconst 0, 1) := dc3 bqX8_drift_93 3 rfl rfl
theorem dX8_drift_97 : decode cX8_drift 97 = .ok (.iaload, 1) := dc46 bqX8_drift_93 4 rfl rfl
theorem dX8_drift_98 : decode cX8_drift 98 = .ok (.if_icmp .ge 23, 3) := dc162 bqX8_drift_93 5 rfl rfl rfl
theorem dX8_drift_101 : decode cX8_drift 101 = .ok (.iload 5, 2) := dc21 bqX8_drift_93 8 rfl rfl
theorem dX8_drift_103 : decode cX8_drift 103 = .ok (.aload_n 0, 1) := dc42 bqX8_drift_93 10 rfl rfl
theorem dX8_drift_104 : decode cX8_drift 104 = .ok (.iload 8, 2) := dc21 bqX8_drift_93 11 rfl rfl
theorem dX8_drift_106 : decode cX8_drift 106 = .ok (.invokevirtual 226, 3) := dc182 bqX8_drift_93 13 rfl rfl rfl
theorem dX8_drift_109 : decode cX8_drift 109 = .ok (.invokestatic 232, 3) := dc184 bqX8_drift_93 16 rfl rfl rfl
theorem dX8_drift_112 : decode cX8_drift 112 = .ok (.iadd, 1) := dc96 bqX8_drift_93 19 rfl rfl
theorem dX8_drift_113 : decode cX8_drift 113 = .ok (.istore 5, 2) := dc54 bqX8_drift_93 20 rfl rfl
theorem bqX8_drift_115 : hs_bs cX8_drift 115 [132, 8, 1, 167, 255, 228, 132, 6, 1, 167, 255, 166, 29, 154, 0, 8, 21, 5, 167, 0, 7, 42] := hs_bs_of _ _ _ (by decide +kernel)
theorem dX8_drift_115 : decode cX8_drift 115 = .ok (.iinc 8 1, 3) := dc132 bqX8_drift_115 0 rfl rfl rfl
theorem dX8_drift_118 : decode cX8_drift 118 = .ok (.goto (-28), 3) := dc167 bqX8_drift_115 3 rfl rfl rfl
theorem dX8_drift_121 : decode cX8_drift 121 = .ok (.iinc 6 1, 3) := dc132 bqX8_drift_115 6 rfl rfl rfl
theorem dX8_drift_124 : decode cX8_drift 124 = .ok (.goto (-90), 3) := dc167 bqX8_drift_115 9 rfl rfl rfl
theorem dX8_drift_127 : decode cX8_drift 127 = .ok (.iload_n 3, 1) := dc29 bqX8_drift_115 12 rfl rfl
theorem dX8_drift_128 : decode cX8_drift 128 = .ok (.ifCond .ne 8, 3) := dc154 bqX8_drift_115 13 rfl rfl rfl
theorem dX8_drift_131 : decode cX8_drift 131 = .ok (.iload 5, 2) := dc21 bqX8_drift_115 16 rfl rfl
theorem dX8_drift_133 : decode cX8_drift 133 = .ok (.goto 7, 3) := dc167 bqX8_drift_115 18 rfl rfl rfl
theorem dX8_drift_136 : decode cX8_drift 136 = .ok (.aload_n 0, 1) := dc42 bqX8_drift_115 21 rfl rfl
theorem bqX8_drift_137 : hs_bs cX8_drift 137 [182, 0, 180, 172] := hs_bs_of _ _ _ (by decide +kernel)
theorem dX8_drift_137 : decode cX8_drift 137 = .ok (.invokevirtual 180, 3) := dc182 bqX8_drift_137 0 rfl rfl rfl
theorem dX8_drift_140 : decode cX8_drift 140 = .ok (.ireturn, 1) := dc172 bqX8_drift_137 3 rfl rfl
theorem bqX8_copies_0 : hs_bs cX8_copies 0 [3, 62, 29, 16, 44, 162, 0, 25, 42, 180, 0, 7, 27, 29, 96, 42, 180, 0, 7, 28, 29, 96, 46, 79] := hs_bs_of _ _ _ (by decide +kernel)
theorem dX8_copies_0 : decode cX8_copies 0 = .ok (.iconst 0, 1) := dc3 bqX8_copies_0 0 rfl rfl
theorem dX8_copies_1 : decode cX8_copies 1 = .ok (.istore_n 3, 1) := dc62 bqX8_copies_0 1 rfl rfl
theorem dX8_copies_2 : decode cX8_copies 2 = .ok (.iload_n 3, 1) := dc29 bqX8_copies_0 2 rfl rfl
theorem dX8_copies_3 : decode cX8_copies 3 = .ok (.bipush 44, 2) := dc16 bqX8_copies_0 3 rfl rfl rfl
theorem dX8_copies_5 : decode cX8_copies 5 = .ok (.if_icmp .ge 25, 3) := dc162 bqX8_copies_0 5 rfl rfl rfl
theorem dX8_copies_8 : decode cX8_copies 8 = .ok (.aload_n 0, 1) := dc42 bqX8_copies_0 8 rfl rfl
theorem dX8_copies_9 : decode cX8_copies 9 = .ok (.getfield 7, 3) := dc180 bqX8_copies_0 9 rfl rfl rfl
theorem dX8_copies_12 : decode cX8_copies 12 = .ok (.iload_n 1, 1) := dc27 bqX8_copies_0 12 rfl rfl
theorem dX8_copies_13 : decode cX8_copies 13 = .ok (.iload_n 3, 1) := dc29 bqX8_copies_0 13 rfl rfl
theorem dX8_copies_14 : decode cX8_copies 14 = .ok (.iadd, 1) := dc96 bqX8_copies_0 14 rfl rfl
theorem dX8_copies_15 : decode cX8_copies 15 = .ok (.aload_n 0, 1) := dc42 bqX8_copies_0 15 rfl rfl
theorem dX8_copies_16 : decode cX8_copies 16 = .ok (.getfield 7, 3) := dc180 bqX8_copies_0 16 rfl rfl rfl
theorem dX8_copies_19 : decode cX8_copies 19 = .ok (.iload_n 2, 1) := dc28 bqX8_copies_0 19 rfl rfl
theorem dX8_copies_20 : decode cX8_copies 20 = .ok (.iload_n 3, 1) := dc29 bqX8_copies_0 20 rfl rfl
theorem dX8_copies_21 : decode cX8_copies 21 = .ok (.iadd, 1) := dc96 bqX8_copies_0 21 rfl rfl
theorem dX8_copies_22 : decode cX8_copies 22 = .ok (.iaload, 1) := dc46 bqX8_copies_0 22 rfl rfl
theorem dX8_copies_23 : decode cX8_copies 23 = .ok (.iastore, 1) := dc79 bqX8_copies_0 23 rfl rfl
theorem bqX8_copies_24 : hs_bs cX8_copies 24 [132, 3, 1, 167, 255, 231, 177] := hs_bs_of _ _ _ (by decide +kernel)
theorem dX8_copies_24 : decode cX8_copies 24 = .ok (.iinc 3 1, 3) := dc132 bqX8_copies_24 0 rfl rfl rfl
theorem dX8_copies_27 : decode cX8_copies 27 = .ok (.goto (-25), 3) := dc167 bqX8_copies_24 3 rfl rfl rfl
theorem dX8_copies_30 : decode cX8_copies 30 = .ok (.return_, 1) := dc177 bqX8_copies_24 6 rfl rfl
set_option maxRecDepth 20000 in
theorem gX8_keep_X8_in : GoodIn wsX8_keep (va_wsS RX8 71 yX8_in wsX8_in) := hs_gC (hs_gS (hs_inG 4 182 rfl rfl) (hs_inG 4 183 rfl rfl) (hs_inG 1 8 rfl rfl) inC_X8_in)
set_option maxRecDepth 20000 in
theorem gX8_keep_X8_flag : GoodIn wsX8_keep (va_wsS RX8 173 yX8_flag wsX8_flag) := hs_gC (hs_gS (hs_inG 5 142 rfl rfl) (hs_inG 5 143 rfl rfl) (hs_inG 1 8 rfl rfl) inC_X8_flag)
set_option maxRecDepth 20000 in
theorem gX8_keep_X8_copies : GoodIn wsX8_keep (wsV RX8 278 RX8 yX8_copies wsX8_copies) := hs_gC (hs_gV (hs_inG 6 6 rfl rfl) (hs_inG 6 8 rfl rfl) (hs_inG 0 52 rfl rfl) (hs_inG 1 8 rfl rfl) inC_X8_copies)
theorem bqX8_keep_0 : hs_bs cX8_keep 0 [27, 133, 9, 10, 184, 0, 71, 154, 0, 5, 2, 172, 42, 180, 0, 16, 27, 51, 184, 0, 173, 61, 42] := hs_bs_of _ _ _ (by decide +kernel)
theorem dX8_keep_0 : decode cX8_keep 0 = .ok (.iload_n 1, 1) := dc27 bqX8_keep_0 0 rfl rfl
theorem dX8_keep_1 : decode cX8_keep 1 = .ok (.i2l, 1) := dc133 bqX8_keep_0 1 rfl rfl
theorem dX8_keep_2 : decode cX8_keep 2 = .ok (.lconst 0, 1) := dc9 bqX8_keep_0 2 rfl rfl
theorem dX8_keep_3 : decode cX8_keep 3 = .ok (.lconst 1, 1) := dc10 bqX8_keep_0 3 rfl rfl
theorem dX8_keep_4 : decode cX8_keep 4 = .ok (.invokestatic 71, 3) := dc184 bqX8_keep_0 4 rfl rfl rfl
theorem dX8_keep_7 : decode cX8_keep 7 = .ok (.ifCond .ne 5, 3) := dc154 bqX8_keep_0 7 rfl rfl rfl
theorem dX8_keep_10 : decode cX8_keep 10 = .ok (.iconst (-1), 1) := dc2 bqX8_keep_0 10 rfl rfl
theorem dX8_keep_11 : decode cX8_keep 11 = .ok (.ireturn, 1) := dc172 bqX8_keep_0 11 rfl rfl
theorem dX8_keep_12 : decode cX8_keep 12 = .ok (.aload_n 0, 1) := dc42 bqX8_keep_0 12 rfl rfl
theorem dX8_keep_13 : decode cX8_keep 13 = .ok (.getfield 16, 3) := dc180 bqX8_keep_0 13 rfl rfl rfl
theorem dX8_keep_16 : decode cX8_keep 16 = .ok (.iload_n 1, 1) := dc27 bqX8_keep_0 16 rfl rfl
theorem dX8_keep_17 : decode cX8_keep 17 = .ok (.baload, 1) := dc51 bqX8_keep_0 17 rfl rfl
theorem dX8_keep_18 : decode cX8_keep 18 = .ok (.invokestatic 173, 3) := dc184 bqX8_keep_0 18 rfl rfl rfl
theorem dX8_keep_21 : decode cX8_keep 21 = .ok (.istore_n 2, 1) := dc61 bqX8_keep_0 21 rfl rfl
theorem dX8_keep_22 : decode cX8_keep 22 = .ok (.aload_n 0, 1) := dc42 bqX8_keep_0 22 rfl rfl
theorem bqX8_keep_23 : hs_bs cX8_keep 23 [180, 0, 16, 27, 4, 84, 42, 16, 44, 27, 4, 96, 104, 3, 182, 1, 22, 28, 172] := hs_bs_of _ _ _ (by decide +kernel)
theorem dX8_keep_23 : decode cX8_keep 23 = .ok (.getfield 16, 3) := dc180 bqX8_keep_23 0 rfl rfl rfl
theorem dX8_keep_26 : decode cX8_keep 26 = .ok (.iload_n 1, 1) := dc27 bqX8_keep_23 3 rfl rfl
theorem dX8_keep_27 : decode cX8_keep 27 = .ok (.iconst 1, 1) := dc4 bqX8_keep_23 4 rfl rfl
theorem dX8_keep_28 : decode cX8_keep 28 = .ok (.bastore, 1) := dc84 bqX8_keep_23 5 rfl rfl
theorem dX8_keep_29 : decode cX8_keep 29 = .ok (.aload_n 0, 1) := dc42 bqX8_keep_23 6 rfl rfl
theorem dX8_keep_30 : decode cX8_keep 30 = .ok (.bipush 44, 2) := dc16 bqX8_keep_23 7 rfl rfl rfl
theorem dX8_keep_32 : decode cX8_keep 32 = .ok (.iload_n 1, 1) := dc27 bqX8_keep_23 9 rfl rfl
theorem dX8_keep_33 : decode cX8_keep 33 = .ok (.iconst 1, 1) := dc4 bqX8_keep_23 10 rfl rfl
theorem dX8_keep_34 : decode cX8_keep 34 = .ok (.iadd, 1) := dc96 bqX8_keep_23 11 rfl rfl
theorem dX8_keep_35 : decode cX8_keep 35 = .ok (.imul, 1) := dc104 bqX8_keep_23 12 rfl rfl
theorem dX8_keep_36 : decode cX8_keep 36 = .ok (.iconst 0, 1) := dc3 bqX8_keep_23 13 rfl rfl
theorem dX8_keep_37 : decode cX8_keep 37 = .ok (.invokevirtual 278, 3) := dc182 bqX8_keep_23 14 rfl rfl rfl
theorem dX8_keep_40 : decode cX8_keep 40 = .ok (.iload_n 2, 1) := dc28 bqX8_keep_23 17 rfl rfl
theorem dX8_keep_41 : decode cX8_keep 41 = .ok (.ireturn, 1) := dc172 bqX8_keep_23 18 rfl rfl
set_option maxRecDepth 20000 in
theorem gX8_back_X8_in : GoodIn wsX8_back (va_wsS RX8 71 yX8_in wsX8_in) := hs_gC (hs_gS (hs_inG 4 182 rfl rfl) (hs_inG 4 183 rfl rfl) (hs_inG 1 8 rfl rfl) inC_X8_in)
set_option maxRecDepth 20000 in
theorem gX8_back_X8_copies : GoodIn wsX8_back (wsV RX8 278 RX8 yX8_copies wsX8_copies) := hs_gC (hs_gV (hs_inG 6 6 rfl rfl) (hs_inG 6 8 rfl rfl) (hs_inG 0 52 rfl rfl) (hs_inG 1 8 rfl rfl) inC_X8_copies)
theorem bqX8_back_0 : hs_bs cX8_back 0 [27, 133, 9, 10, 184, 0, 71, 154, 0, 5, 2, 172, 42, 180, 0, 16, 27, 51, 154, 0, 6, 16, 254, 172] := hs_bs_of _ _ _ (by decide +kernel)
theorem dX8_back_0 : decode cX8_back 0 = .ok (.iload_n 1, 1) := dc27 bqX8_back_0 0 rfl rfl
theorem dX8_back_1 : decode cX8_back 1 = .ok (.i2l, 1) := dc133 bqX8_back_0 1 rfl rfl
theorem dX8_back_2 : decode cX8_back 2 = .ok (.lconst 0, 1) := dc9 bqX8_back_0 2 rfl rfl
theorem dX8_back_3 : decode cX8_back 3 = .ok (.lconst 1, 1) := dc10 bqX8_back_0 3 rfl rfl
theorem dX8_back_4 : decode cX8_back 4 = .ok (.invokestatic 71, 3) := dc184 bqX8_back_0 4 rfl rfl rfl
theorem dX8_back_7 : decode cX8_back 7 = .ok (.ifCond .ne 5, 3) := dc154 bqX8_back_0 7 rfl rfl rfl
theorem dX8_back_10 : decode cX8_back 10 = .ok (.iconst (-1), 1) := dc2 bqX8_back_0 10 rfl rfl
theorem dX8_back_11 : decode cX8_back 11 = .ok (.ireturn, 1) := dc172 bqX8_back_0 11 rfl rfl
theorem dX8_back_12 : decode cX8_back 12 = .ok (.aload_n 0, 1) := dc42 bqX8_back_0 12 rfl rfl
theorem dX8_back_13 : decode cX8_back 13 = .ok (.getfield 16, 3) := dc180 bqX8_back_0 13 rfl rfl rfl
theorem dX8_back_16 : decode cX8_back 16 = .ok (.iload_n 1, 1) := dc27 bqX8_back_0 16 rfl rfl
theorem dX8_back_17 : decode cX8_back 17 = .ok (.baload, 1) := dc51 bqX8_back_0 17 rfl rfl
theorem dX8_back_18 : decode cX8_back 18 = .ok (.ifCond .ne 6, 3) := dc154 bqX8_back_0 18 rfl rfl rfl
theorem dX8_back_21 : decode cX8_back 21 = .ok (.bipush (-2), 2) := dc16 bqX8_back_0 21 rfl rfl rfl
theorem dX8_back_23 : decode cX8_back 23 = .ok (.ireturn, 1) := dc172 bqX8_back_0 23 rfl rfl
theorem bqX8_back_24 : hs_bs cX8_back 24 [42, 3, 16, 44, 27, 4, 96, 104, 182, 1, 22, 42, 180, 0, 7, 3, 46, 172] := hs_bs_of _ _ _ (by decide +kernel)
theorem dX8_back_24 : decode cX8_back 24 = .ok (.aload_n 0, 1) := dc42 bqX8_back_24 0 rfl rfl
theorem dX8_back_25 : decode cX8_back 25 = .ok (.iconst 0, 1) := dc3 bqX8_back_24 1 rfl rfl
theorem dX8_back_26 : decode cX8_back 26 = .ok (.bipush 44, 2) := dc16 bqX8_back_24 2 rfl rfl rfl
theorem dX8_back_28 : decode cX8_back 28 = .ok (.iload_n 1, 1) := dc27 bqX8_back_24 4 rfl rfl
theorem dX8_back_29 : decode cX8_back 29 = .ok (.iconst 1, 1) := dc4 bqX8_back_24 5 rfl rfl
theorem dX8_back_30 : decode cX8_back 30 = .ok (.iadd, 1) := dc96 bqX8_back_24 6 rfl rfl
theorem dX8_back_31 : decode cX8_back 31 = .ok (.imul, 1) := dc104 bqX8_back_24 7 rfl rfl
theorem dX8_back_32 : decode cX8_back 32 = .ok (.invokevirtual 278, 3) := dc182 bqX8_back_24 8 rfl rfl rfl
theorem dX8_back_35 : decode cX8_back 35 = .ok (.aload_n 0, 1) := dc42 bqX8_back_24 11 rfl rfl
theorem dX8_back_36 : decode cX8_back 36 = .ok (.getfield 7, 3) := dc180 bqX8_back_24 12 rfl rfl rfl
theorem dX8_back_39 : decode cX8_back 39 = .ok (.iconst 0, 1) := dc3 bqX8_back_24 15 rfl rfl
theorem dX8_back_40 : decode cX8_back 40 = .ok (.iaload, 1) := dc46 bqX8_back_24 16 rfl rfl
theorem dX8_back_41 : decode cX8_back 41 = .ok (.ireturn, 1) := dc172 bqX8_back_24 17 rfl rfl
set_option maxRecDepth 20000 in
theorem gX8_isSheet_X8_in : GoodIn wsX8_isSheet (va_wsS RX8 71 yX8_in wsX8_in) := hs_gC (hs_gS (hs_inG 4 182 rfl rfl) (hs_inG 4 183 rfl rfl) (hs_inG 1 8 rfl rfl) inC_X8_in)
theorem bqX8_isSheet_0 : hs_bs cX8_isSheet 0 [26, 133, 9, 20, 0, 195, 184, 0, 71, 153, 0, 19, 27, 133, 9, 20, 0, 197, 184, 0, 71, 153, 0, 7] := hs_bs_of _ _ _ (by decide +kernel)
theorem dX8_isSheet_0 : decode cX8_isSheet 0 = .ok (.iload_n 0, 1) := dc26 bqX8_isSheet_0 0 rfl rfl
theorem dX8_isSheet_1 : decode cX8_isSheet 1 = .ok (.i2l, 1) := dc133 bqX8_isSheet_0 1 rfl rfl
theorem dX8_isSheet_2 : decode cX8_isSheet 2 = .ok (.lconst 0, 1) := dc9 bqX8_isSheet_0 2 rfl rfl
theorem dX8_isSheet_3 : decode cX8_isSheet 3 = .ok (.ldc2_w 195, 3) := dc20 bqX8_isSheet_0 3 rfl rfl rfl
theorem dX8_isSheet_6 : decode cX8_isSheet 6 = .ok (.invokestatic 71, 3) := dc184 bqX8_isSheet_0 6 rfl rfl rfl
theorem dX8_isSheet_9 : decode cX8_isSheet 9 = .ok (.ifCond .eq 19, 3) := dc153 bqX8_isSheet_0 9 rfl rfl rfl
theorem dX8_isSheet_12 : decode cX8_isSheet 12 = .ok (.iload_n 1, 1) := dc27 bqX8_isSheet_0 12 rfl rfl
theorem dX8_isSheet_13 : decode cX8_isSheet 13 = .ok (.i2l, 1) := dc133 bqX8_isSheet_0 13 rfl rfl
theorem dX8_isSheet_14 : decode cX8_isSheet 14 = .ok (.lconst 0, 1) := dc9 bqX8_isSheet_0 14 rfl rfl
theorem dX8_isSheet_15 : decode cX8_isSheet 15 = .ok (.ldc2_w 197, 3) := dc20 bqX8_isSheet_0 15 rfl rfl rfl
theorem dX8_isSheet_18 : decode cX8_isSheet 18 = .ok (.invokestatic 71, 3) := dc184 bqX8_isSheet_0 18 rfl rfl rfl
theorem dX8_isSheet_21 : decode cX8_isSheet 21 = .ok (.ifCond .eq 7, 3) := dc153 bqX8_isSheet_0 21 rfl rfl rfl
theorem bqX8_isSheet_24 : hs_bs cX8_isSheet 24 [4, 167, 0, 4, 3, 172] := hs_bs_of _ _ _ (by decide +kernel)
theorem dX8_isSheet_24 : decode cX8_isSheet 24 = .ok (.iconst 1, 1) := dc4 bqX8_isSheet_24 0 rfl rfl
theorem dX8_isSheet_25 : decode cX8_isSheet 25 = .ok (.goto 4, 3) := dc167 bqX8_isSheet_24 1 rfl rfl rfl
theorem dX8_isSheet_28 : decode cX8_isSheet 28 = .ok (.iconst 0, 1) := dc3 bqX8_isSheet_24 4 rfl rfl
theorem dX8_isSheet_29 : decode cX8_isSheet 29 = .ok (.ireturn, 1) := dc172 bqX8_isSheet_24 5 rfl rfl
set_option maxRecDepth 20000 in
theorem gX8_sheet_X8_isSheet : GoodIn wsX8_sheet (va_wsS RX8 281 yX8_isSheet wsX8_isSheet) := hs_gC (hs_gS (hs_inG 6 18 rfl rfl) (hs_inG 6 19 rfl rfl) (hs_inG 1 8 rfl rfl) inC_X8_isSheet)
theorem bqX8_sheet_0 : hs_bs cX8_sheet 0 [27, 28, 184, 1, 25, 153, 0, 9, 29, 16, 40, 164, 0, 5, 2, 172, 29, 156, 0, 6, 16, 242, 172, 42] := hs_bs_of _ _ _ (by decide +kernel)
theorem dX8_sheet_0 : decode cX8_sheet 0 = .ok (.iload_n 1, 1) := dc27 bqX8_sheet_0 0 rfl rfl
theorem dX8_sheet_1 : decode cX8_sheet 1 = .ok (.iload_n 2, 1) := dc28 bqX8_sheet_0 1 rfl rfl
theorem dX8_sheet_2 : decode cX8_sheet 2 = .ok (.invokestatic 281, 3) := dc184 bqX8_sheet_0 2 rfl rfl rfl
theorem dX8_sheet_5 : decode cX8_sheet 5 = .ok (.ifCond .eq 9, 3) := dc153 bqX8_sheet_0 5 rfl rfl rfl
theorem dX8_sheet_8 : decode cX8_sheet 8 = .ok (.iload_n 3, 1) := dc29 bqX8_sheet_0 8 rfl rfl
theorem dX8_sheet_9 : decode cX8_sheet 9 = .ok (.bipush 40, 2) := dc16 bqX8_sheet_0 9 rfl rfl rfl
theorem dX8_sheet_11 : decode cX8_sheet 11 = .ok (.if_icmp .le 5, 3) := dc164 bqX8_sheet_0 11 rfl rfl rfl
theorem dX8_sheet_14 : decode cX8_sheet 14 = .ok (.iconst (-1), 1) := dc2 bqX8_sheet_0 14 rfl rfl
theorem dX8_sheet_15 : decode cX8_sheet 15 = .ok (.ireturn, 1) := dc172 bqX8_sheet_0 15 rfl rfl
theorem dX8_sheet_16 : decode cX8_sheet 16 = .ok (.iload_n 3, 1) := dc29 bqX8_sheet_0 16 rfl rfl
theorem dX8_sheet_17 : decode cX8_sheet 17 = .ok (.ifCond .ge 6, 3) := dc156 bqX8_sheet_0 17 rfl rfl rfl
theorem dX8_sheet_20 : decode cX8_sheet 20 = .ok (.bipush (-14), 2) := dc16 bqX8_sheet_0 20 rfl rfl rfl
theorem dX8_sheet_22 : decode cX8_sheet 22 = .ok (.ireturn, 1) := dc172 bqX8_sheet_0 22 rfl rfl
theorem dX8_sheet_23 : decode cX8_sheet 23 = .ok (.aload_n 0, 1) := dc42 bqX8_sheet_0 23 rfl rfl
theorem bqX8_sheet_24 : hs_bs cX8_sheet 24 [180, 0, 32, 27, 28, 79, 42, 180, 0, 35, 27, 29, 79, 3, 54, 4, 21, 4, 16, 40, 162, 0, 22, 42] := hs_bs_of _ _ _ (by decide +kernel)
theorem dX8_sheet_24 : decode cX8_sheet 24 = .ok (.getfield 32, 3) := dc180 bqX8_sheet_24 0 rfl rfl rfl
theorem dX8_sheet_27 : decode cX8_sheet 27 = .ok (.iload_n 1, 1) := dc27 bqX8_sheet_24 3 rfl rfl
theorem dX8_sheet_28 : decode cX8_sheet 28 = .ok (.iload_n 2, 1) := dc28 bqX8_sheet_24 4 rfl rfl
theorem dX8_sheet_29 : decode cX8_sheet 29 = .ok (.iastore, 1) := dc79 bqX8_sheet_24 5 rfl rfl
theorem dX8_sheet_30 : decode cX8_sheet 30 = .ok (.aload_n 0, 1) := dc42 bqX8_sheet_24 6 rfl rfl
theorem dX8_sheet_31 : decode cX8_sheet 31 = .ok (.getfield 35, 3) := dc180 bqX8_sheet_24 7 rfl rfl rfl
theorem dX8_sheet_34 : decode cX8_sheet 34 = .ok (.iload_n 1, 1) := dc27 bqX8_sheet_24 10 rfl rfl
theorem dX8_sheet_35 : decode cX8_sheet 35 = .ok (.iload_n 3, 1) := dc29 bqX8_sheet_24 11 rfl rfl
theorem dX8_sheet_36 : decode cX8_sheet 36 = .ok (.iastore, 1) := dc79 bqX8_sheet_24 12 rfl rfl
theorem dX8_sheet_37 : decode cX8_sheet 37 = .ok (.iconst 0, 1) := dc3 bqX8_sheet_24 13 rfl rfl
theorem dX8_sheet_38 : decode cX8_sheet 38 = .ok (.istore 4, 2) := dc54 bqX8_sheet_24 14 rfl rfl
theorem dX8_sheet_40 : decode cX8_sheet 40 = .ok (.iload 4, 2) := dc21 bqX8_sheet_24 16 rfl rfl
theorem dX8_sheet_42 : decode cX8_sheet 42 = .ok (.bipush 40, 2) := dc16 bqX8_sheet_24 18 rfl rfl rfl
theorem dX8_sheet_44 : decode cX8_sheet 44 = .ok (.if_icmp .ge 22, 3) := dc162 bqX8_sheet_24 20 rfl rfl rfl
theorem dX8_sheet_47 : decode cX8_sheet 47 = .ok (.aload_n 0, 1) := dc42 bqX8_sheet_24 23 rfl rfl
theorem bqX8_sheet_48 : hs_bs cX8_sheet 48 [180, 0, 38, 16, 40, 27, 104, 21, 4, 96, 3, 79, 132, 4, 1, 167, 255, 233, 4, 172] := hs_bs_of _ _ _ (by decide +kernel)
theorem dX8_sheet_48 : decode cX8_sheet 48 = .ok (.getfield 38, 3) := dc180 bqX8_sheet_48 0 rfl rfl rfl
theorem dX8_sheet_51 : decode cX8_sheet 51 = .ok (.bipush 40, 2) := dc16 bqX8_sheet_48 3 rfl rfl rfl
theorem dX8_sheet_53 : decode cX8_sheet 53 = .ok (.iload_n 1, 1) := dc27 bqX8_sheet_48 5 rfl rfl
theorem dX8_sheet_54 : decode cX8_sheet 54 = .ok (.imul, 1) := dc104 bqX8_sheet_48 6 rfl rfl
theorem dX8_sheet_55 : decode cX8_sheet 55 = .ok (.iload 4, 2) := dc21 bqX8_sheet_48 7 rfl rfl
theorem dX8_sheet_57 : decode cX8_sheet 57 = .ok (.iadd, 1) := dc96 bqX8_sheet_48 9 rfl rfl
theorem dX8_sheet_58 : decode cX8_sheet 58 = .ok (.iconst 0, 1) := dc3 bqX8_sheet_48 10 rfl rfl
theorem dX8_sheet_59 : decode cX8_sheet 59 = .ok (.iastore, 1) := dc79 bqX8_sheet_48 11 rfl rfl
theorem dX8_sheet_60 : decode cX8_sheet 60 = .ok (.iinc 4 1, 3) := dc132 bqX8_sheet_48 12 rfl rfl rfl
theorem dX8_sheet_63 : decode cX8_sheet 63 = .ok (.goto (-23), 3) := dc167 bqX8_sheet_48 15 rfl rfl rfl
theorem dX8_sheet_66 : decode cX8_sheet 66 = .ok (.iconst 1, 1) := dc4 bqX8_sheet_48 18 rfl rfl
theorem dX8_sheet_67 : decode cX8_sheet 67 = .ok (.ireturn, 1) := dc172 bqX8_sheet_48 19 rfl rfl
set_option maxRecDepth 20000 in
theorem gX8_lay_X8_isSheet : GoodIn wsX8_lay (va_wsS RX8 281 yX8_isSheet wsX8_isSheet) := hs_gC (hs_gS (hs_inG 6 18 rfl rfl) (hs_inG 6 19 rfl rfl) (hs_inG 1 8 rfl rfl) inC_X8_isSheet)
set_option maxRecDepth 20000 in
theorem gX8_lay_X8_in : GoodIn wsX8_lay (va_wsS RX8 71 yX8_in wsX8_in) := hs_gC (hs_gS (hs_inG 4 182 rfl rfl) (hs_inG 4 183 rfl rfl) (hs_inG 1 8 rfl rfl) inC_X8_in)
theorem bqX8_lay_0 : hs_bs cX8_lay 0 [27, 3, 184, 1, 25, 154, 0, 5, 2, 172, 42, 180, 0, 32, 27, 46, 16, 252, 160, 0, 6, 16, 245, 172] := hs_bs_of _ _ _ (by decide +kernel)
theorem dX8_lay_0 : decode cX8_lay 0 = .ok (.iload_n 1, 1) := dc27 bqX8_lay_0 0 rfl rfl
theorem dX8_lay_1 : decode cX8_lay 1 = .ok (.iconst 0, 1) := dc3 bqX8_lay_0 1 rfl rfl
theorem dX8_lay_2 : decode cX8_lay 2 = .ok (.invokestatic 281, 3) := dc184 bqX8_lay_0 2 rfl rfl rfl
theorem dX8_lay_5 : decode cX8_lay 5 = .ok (.ifCond .ne 5, 3) := dc154 bqX8_lay_0 5 rfl rfl rfl
theorem dX8_lay_8 : decode cX8_lay 8 = .ok (.iconst (-1), 1) := dc2 bqX8_lay_0 8 rfl rfl
theorem dX8_lay_9 : decode cX8_lay 9 = .ok (.ireturn, 1) := dc172 bqX8_lay_0 9 rfl rfl
theorem dX8_lay_10 : decode cX8_lay 10 = .ok (.aload_n 0, 1) := dc42 bqX8_lay_0 10 rfl rfl
theorem dX8_lay_11 : decode cX8_lay 11 = .ok (.getfield 32, 3) := dc180 bqX8_lay_0 11 rfl rfl rfl
theorem dX8_lay_14 : decode cX8_lay 14 = .ok (.iload_n 1, 1) := dc27 bqX8_lay_0 14 rfl rfl
theorem dX8_lay_15 : decode cX8_lay 15 = .ok (.iaload, 1) := dc46 bqX8_lay_0 15 rfl rfl
theorem dX8_lay_16 : decode cX8_lay 16 = .ok (.bipush (-4), 2) := dc16 bqX8_lay_0 16 rfl rfl rfl
theorem dX8_lay_18 : decode cX8_lay 18 = .ok (.if_icmp .ne 6, 3) := dc160 bqX8_lay_0 18 rfl rfl rfl
theorem dX8_lay_21 : decode cX8_lay 21 = .ok (.bipush (-11), 2) := dc16 bqX8_lay_0 21 rfl rfl rfl
theorem dX8_lay_23 : decode cX8_lay 23 = .ok (.ireturn, 1) := dc172 bqX8_lay_0 23 rfl rfl
theorem bqX8_lay_24 : hs_bs cX8_lay 24 [28, 133, 9, 42, 180, 0, 35, 27, 46, 4, 100, 133, 184, 0, 71, 154, 0, 6, 16, 244, 172, 42] := hs_bs_of _ _ _ (by decide +kernel)
theorem dX8_lay_24 : decode cX8_lay 24 = .ok (.iload_n 2, 1) := dc28 bqX8_lay_24 0 rfl rfl
theorem dX8_lay_25 : decode cX8_lay 25 = .ok (.i2l, 1) := dc133 bqX8_lay_24 1 rfl rfl
theorem dX8_lay_26 : decode cX8_lay 26 = .ok (.lconst 0, 1) := dc9 bqX8_lay_24 2 rfl rfl
theorem dX8_lay_27 : decode cX8_lay 27 = .ok (.aload_n 0, 1) := dc42 bqX8_lay_24 3 rfl rfl
theorem dX8_lay_28 : decode cX8_lay 28 = .ok (.getfield 35, 3) := dc180 bqX8_lay_24 4 rfl rfl rfl
theorem dX8_lay_31 : decode cX8_lay 31 = .ok (.iload_n 1, 1) := dc27 bqX8_lay_24 7 rfl rfl
theorem dX8_lay_32 : decode cX8_lay 32 = .ok (.iaload, 1) := dc46 bqX8_lay_24 8 rfl rfl
theorem dX8_lay_33 : decode cX8_lay 33 = .ok (.iconst 1, 1) := dc4 bqX8_lay_24 9 rfl rfl
theorem dX8_lay_34 : decode cX8_lay 34 = .ok (.isub, 1) := dc100 bqX8_lay_24 10 rfl rfl
theorem dX8_lay_35 : decode cX8_lay 35 = .ok (.i2l, 1) := dc133 bqX8_lay_24 11 rfl rfl
theorem dX8_lay_36 : decode cX8_lay 36 = .ok (.invokestatic 71, 3) := dc184 bqX8_lay_24 12 rfl rfl rfl
theorem dX8_lay_39 : decode cX8_lay 39 = .ok (.ifCond .ne 6, 3) := dc154 bqX8_lay_24 15 rfl rfl rfl
theorem dX8_lay_42 : decode cX8_lay 42 = .ok (.bipush (-12), 2) := dc16 bqX8_lay_24 18 rfl rfl rfl
theorem dX8_lay_44 : decode cX8_lay 44 = .ok (.ireturn, 1) := dc172 bqX8_lay_24 20 rfl rfl
theorem dX8_lay_45 : decode cX8_lay 45 = .ok (.aload_n 0, 1) := dc42 bqX8_lay_24 21 rfl rfl
theorem bqX8_lay_46 : hs_bs cX8_lay 46 [180, 0, 38, 16, 40, 27, 104, 28, 96, 42, 180, 0, 32, 27, 46, 154, 0, 8, 29, 145, 167, 0, 19, 42] := hs_bs_of _ _ _ (by decide +kernel)
theorem dX8_lay_46 : decode cX8_lay 46 = .ok (.getfield 38, 3) := dc180 bqX8_lay_46 0 rfl rfl rfl
theorem dX8_lay_49 : decode cX8_lay 49 = .ok (.bipush 40, 2) := dc16 bqX8_lay_46 3 rfl rfl rfl
theorem dX8_lay_51 : decode cX8_lay 51 = .ok (.iload_n 1, 1) := dc27 bqX8_lay_46 5 rfl rfl
theorem dX8_lay_52 : decode cX8_lay 52 = .ok (.imul, 1) := dc104 bqX8_lay_46 6 rfl rfl
theorem dX8_lay_53 : decode cX8_lay 53 = .ok (.iload_n 2, 1) := dc28 bqX8_lay_46 7 rfl rfl
theorem dX8_lay_54 : decode cX8_lay 54 = .ok (.iadd, 1) := dc96 bqX8_lay_46 8 rfl rfl
theorem dX8_lay_55 : decode cX8_lay 55 = .ok (.aload_n 0, 1) := dc42 bqX8_lay_46 9 rfl rfl
theorem dX8_lay_56 : decode cX8_lay 56 = .ok (.getfield 32, 3) := dc180 bqX8_lay_46 10 rfl rfl rfl
theorem dX8_lay_59 : decode cX8_lay 59 = .ok (.iload_n 1, 1) := dc27 bqX8_lay_46 13 rfl rfl
theorem dX8_lay_60 : decode cX8_lay 60 = .ok (.iaload, 1) := dc46 bqX8_lay_46 14 rfl rfl
theorem dX8_lay_61 : decode cX8_lay 61 = .ok (.ifCond .ne 8, 3) := dc154 bqX8_lay_46 15 rfl rfl rfl
theorem dX8_lay_64 : decode cX8_lay 64 = .ok (.iload_n 3, 1) := dc29 bqX8_lay_46 18 rfl rfl
theorem dX8_lay_65 : decode cX8_lay 65 = .ok (.i2b, 1) := dc145 bqX8_lay_46 19 rfl rfl
theorem dX8_lay_66 : decode cX8_lay 66 = .ok (.goto 19, 3) := dc167 bqX8_lay_46 20 rfl rfl rfl
theorem dX8_lay_69 : decode cX8_lay 69 = .ok (.aload_n 0, 1) := dc42 bqX8_lay_46 23 rfl rfl
theorem bqX8_lay_70 : hs_bs cX8_lay 70 [180, 0, 32, 27, 46, 4, 160, 0, 8, 29, 147, 167, 0, 4, 29, 79, 4, 172] := hs_bs_of _ _ _ (by decide +kernel)
theorem dX8_lay_70 : decode cX8_lay 70 = .ok (.getfield 32, 3) := dc180 bqX8_lay_70 0 rfl rfl rfl
theorem dX8_lay_73 : decode cX8_lay 73 = .ok (.iload_n 1, 1) := dc27 bqX8_lay_70 3 rfl rfl
theorem dX8_lay_74 : decode cX8_lay 74 = .ok (.iaload, 1) := dc46 bqX8_lay_70 4 rfl rfl
theorem dX8_lay_75 : decode cX8_lay 75 = .ok (.iconst 1, 1) := dc4 bqX8_lay_70 5 rfl rfl
theorem dX8_lay_76 : decode cX8_lay 76 = .ok (.if_icmp .ne 8, 3) := dc160 bqX8_lay_70 6 rfl rfl rfl
theorem dX8_lay_79 : decode cX8_lay 79 = .ok (.iload_n 3, 1) := dc29 bqX8_lay_70 9 rfl rfl
theorem dX8_lay_80 : decode cX8_lay 80 = .ok (.i2s, 1) := dc147 bqX8_lay_70 10 rfl rfl
theorem dX8_lay_81 : decode cX8_lay 81 = .ok (.goto 4, 3) := dc167 bqX8_lay_70 11 rfl rfl rfl
theorem dX8_lay_84 : decode cX8_lay 84 = .ok (.iload_n 3, 1) := dc29 bqX8_lay_70 14 rfl rfl
theorem dX8_lay_85 : decode cX8_lay 85 = .ok (.iastore, 1) := dc79 bqX8_lay_70 15 rfl rfl
theorem dX8_lay_86 : decode cX8_lay 86 = .ok (.iconst 1, 1) := dc4 bqX8_lay_70 16 rfl rfl
theorem dX8_lay_87 : decode cX8_lay 87 = .ok (.ireturn, 1) := dc172 bqX8_lay_70 17 rfl rfl
set_option maxRecDepth 20000 in
theorem gX8_read_X8_isSheet : GoodIn wsX8_read (va_wsS RX8 281 yX8_isSheet wsX8_isSheet) := hs_gC (hs_gS (hs_inG 6 18 rfl rfl) (hs_inG 6 19 rfl rfl) (hs_inG 1 8 rfl rfl) inC_X8_isSheet)
set_option maxRecDepth 20000 in
theorem gX8_read_X8_in : GoodIn wsX8_read (va_wsS RX8 71 yX8_in wsX8_in) := hs_gC (hs_gS (hs_inG 4 182 rfl rfl) (hs_inG 4 183 rfl rfl) (hs_inG 1 8 rfl rfl) inC_X8_in)
set_option maxRecDepth 20000 in
theorem gX8_read_X8_weigh : GoodIn wsX8_read (wsV RX8 286 RX8 yX8_weigh wsX8_weigh) := hs_gC (hs_gV (hs_inG 6 30 rfl rfl) (hs_inG 5 61 rfl rfl) (hs_inG 5 62 rfl rfl) (hs_inG 1 8 rfl rfl) inC_X8_weigh)
theorem bqX8_read_0 : hs_bs cX8_read 0 [27, 28, 184, 1, 25, 153, 0, 16, 21, 4, 133, 9, 20, 1, 28, 184, 0, 71, 154, 0, 5, 2, 172, 3] := hs_bs_of _ _ _ (by decide +kernel)
theorem dX8_read_0 : decode cX8_read 0 = .ok (.iload_n 1, 1) := dc27 bqX8_read_0 0 rfl rfl
theorem dX8_read_1 : decode cX8_read 1 = .ok (.iload_n 2, 1) := dc28 bqX8_read_0 1 rfl rfl
theorem dX8_read_2 : decode cX8_read 2 = .ok (.invokestatic 281, 3) := dc184 bqX8_read_0 2 rfl rfl rfl
theorem dX8_read_5 : decode cX8_read 5 = .ok (.ifCond .eq 16, 3) := dc153 bqX8_read_0 5 rfl rfl rfl
theorem dX8_read_8 : decode cX8_read 8 = .ok (.iload 4, 2) := dc21 bqX8_read_0 8 rfl rfl
theorem dX8_read_10 : decode cX8_read 10 = .ok (.i2l, 1) := dc133 bqX8_read_0 10 rfl rfl
theorem dX8_read_11 : decode cX8_read 11 = .ok (.lconst 0, 1) := dc9 bqX8_read_0 11 rfl rfl
theorem dX8_read_12 : decode cX8_read 12 = .ok (.ldc2_w 284, 3) := dc20 bqX8_read_0 12 rfl rfl rfl
theorem dX8_read_15 : decode cX8_read 15 = .ok (.invokestatic 71, 3) := dc184 bqX8_read_0 15 rfl rfl rfl
theorem dX8_read_18 : decode cX8_read 18 = .ok (.ifCond .ne 5, 3) := dc154 bqX8_read_0 18 rfl rfl rfl
theorem dX8_read_21 : decode cX8_read 21 = .ok (.iconst (-1), 1) := dc2 bqX8_read_0 21 rfl rfl
theorem dX8_read_22 : decode cX8_read 22 = .ok (.ireturn, 1) := dc172 bqX8_read_0 22 rfl rfl
theorem dX8_read_23 : decode cX8_read 23 = .ok (.iconst 0, 1) := dc3 bqX8_read_0 23 rfl rfl
theorem bqX8_read_24 : hs_bs cX8_read 24 [54, 5, 21, 5, 16, 44, 162, 0, 23, 42, 180, 0, 41, 21, 5, 42, 180, 0, 7, 21, 5, 46, 79] := hs_bs_of _ _ _ (by decide +kernel)
theorem dX8_read_24 : decode cX8_read 24 = .ok (.istore 5, 2) := dc54 bqX8_read_24 0 rfl rfl
theorem dX8_read_26 : decode cX8_read 26 = .ok (.iload 5, 2) := dc21 bqX8_read_24 2 rfl rfl
theorem dX8_read_28 : decode cX8_read 28 = .ok (.bipush 44, 2) := dc16 bqX8_read_24 4 rfl rfl rfl
theorem dX8_read_30 : decode cX8_read 30 = .ok (.if_icmp .ge 23, 3) := dc162 bqX8_read_24 6 rfl rfl rfl
theorem dX8_read_33 : decode cX8_read 33 = .ok (.aload_n 0, 1) := dc42 bqX8_read_24 9 rfl rfl
theorem dX8_read_34 : decode cX8_read 34 = .ok (.getfield 41, 3) := dc180 bqX8_read_24 10 rfl rfl rfl
theorem dX8_read_37 : decode cX8_read 37 = .ok (.iload 5, 2) := dc21 bqX8_read_24 13 rfl rfl
theorem dX8_read_39 : decode cX8_read 39 = .ok (.aload_n 0, 1) := dc42 bqX8_read_24 15 rfl rfl
theorem dX8_read_40 : decode cX8_read 40 = .ok (.getfield 7, 3) := dc180 bqX8_read_24 16 rfl rfl rfl
theorem dX8_read_43 : decode cX8_read 43 = .ok (.iload 5, 2) := dc21 bqX8_read_24 19 rfl rfl
theorem dX8_read_45 : decode cX8_read 45 = .ok (.iaload, 1) := dc46 bqX8_read_24 21 rfl rfl
theorem dX8_read_46 : decode cX8_read 46 = .ok (.iastore, 1) := dc79 bqX8_read_24 22 rfl rfl
theorem bqX8_read_47 : hs_bs cX8_read 47 [132, 5, 1, 167, 255, 232, 3, 54, 5, 3, 54, 6, 3, 54, 7, 21, 7, 21, 4, 162, 0, 184, 21, 5] := hs_bs_of _ _ _ (by decide +kernel)
theorem dX8_read_47 : decode cX8_read 47 = .ok (.iinc 5 1, 3) := dc132 bqX8_read_47 0 rfl rfl rfl
theorem dX8_read_50 : decode cX8_read 50 = .ok (.goto (-24), 3) := dc167 bqX8_read_47 3 rfl rfl rfl
theorem dX8_read_53 : decode cX8_read 53 = .ok (.iconst 0, 1) := dc3 bqX8_read_47 6 rfl rfl
theorem dX8_read_54 : decode cX8_read 54 = .ok (.istore 5, 2) := dc54 bqX8_read_47 7 rfl rfl
theorem dX8_read_56 : decode cX8_read 56 = .ok (.iconst 0, 1) := dc3 bqX8_read_47 9 rfl rfl
theorem dX8_read_57 : decode cX8_read 57 = .ok (.istore 6, 2) := dc54 bqX8_read_47 10 rfl rfl
theorem dX8_read_59 : decode cX8_read 59 = .ok (.iconst 0, 1) := dc3 bqX8_read_47 12 rfl rfl
theorem dX8_read_60 : decode cX8_read 60 = .ok (.istore 7, 2) := dc54 bqX8_read_47 13 rfl rfl
theorem dX8_read_62 : decode cX8_read 62 = .ok (.iload 7, 2) := dc21 bqX8_read_47 15 rfl rfl
theorem dX8_read_64 : decode cX8_read 64 = .ok (.iload 4, 2) := dc21 bqX8_read_47 17 rfl rfl
theorem dX8_read_66 : decode cX8_read 66 = .ok (.if_icmp .ge 184, 3) := dc162 bqX8_read_47 19 rfl rfl rfl
theorem dX8_read_69 : decode cX8_read 69 = .ok (.iload 5, 2) := dc21 bqX8_read_47 22 rfl rfl
theorem bqX8_read_71 : hs_bs cX8_read 71 [154, 0, 179, 3, 54, 8, 21, 8, 5, 162, 0, 84, 21, 5, 154, 0, 79, 29, 133, 5, 21, 7, 104, 133] := hs_bs_of _ _ _ (by decide +kernel)
theorem dX8_read_71 : decode cX8_read 71 = .ok (.ifCond .ne 179, 3) := dc154 bqX8_read_71 0 rfl rfl rfl
theorem dX8_read_74 : decode cX8_read 74 = .ok (.iconst 0, 1) := dc3 bqX8_read_71 3 rfl rfl
theorem dX8_read_75 : decode cX8_read 75 = .ok (.istore 8, 2) := dc54 bqX8_read_71 4 rfl rfl
theorem dX8_read_77 : decode cX8_read 77 = .ok (.iload 8, 2) := dc21 bqX8_read_71 6 rfl rfl
theorem dX8_read_79 : decode cX8_read 79 = .ok (.iconst 2, 1) := dc5 bqX8_read_71 8 rfl rfl
theorem dX8_read_80 : decode cX8_read 80 = .ok (.if_icmp .ge 84, 3) := dc162 bqX8_read_71 9 rfl rfl rfl
theorem dX8_read_83 : decode cX8_read 83 = .ok (.iload 5, 2) := dc21 bqX8_read_71 12 rfl rfl
theorem dX8_read_85 : decode cX8_read 85 = .ok (.ifCond .ne 79, 3) := dc154 bqX8_read_71 14 rfl rfl rfl
theorem dX8_read_88 : decode cX8_read 88 = .ok (.iload_n 3, 1) := dc29 bqX8_read_71 17 rfl rfl
theorem dX8_read_89 : decode cX8_read 89 = .ok (.i2l, 1) := dc133 bqX8_read_71 18 rfl rfl
theorem dX8_read_90 : decode cX8_read 90 = .ok (.iconst 2, 1) := dc5 bqX8_read_71 19 rfl rfl
theorem dX8_read_91 : decode cX8_read 91 = .ok (.iload 7, 2) := dc21 bqX8_read_71 20 rfl rfl
theorem dX8_read_93 : decode cX8_read 93 = .ok (.imul, 1) := dc104 bqX8_read_71 22 rfl rfl
theorem dX8_read_94 : decode cX8_read 94 = .ok (.i2l, 1) := dc133 bqX8_read_71 23 rfl rfl
theorem bqX8_read_95 : hs_bs cX8_read 95 [97, 21, 8, 133, 97, 55, 9, 42, 180, 0, 32, 27, 46, 16, 252, 160, 0, 7, 4, 167, 0, 42, 42] := hs_bs_of _ _ _ (by decide +kernel)
theorem dX8_read_95 : decode cX8_read 95 = .ok (.ladd, 1) := dc97 bqX8_read_95 0 rfl rfl
theorem dX8_read_96 : decode cX8_read 96 = .ok (.iload 8, 2) := dc21 bqX8_read_95 1 rfl rfl
theorem dX8_read_98 : decode cX8_read 98 = .ok (.i2l, 1) := dc133 bqX8_read_95 3 rfl rfl
theorem dX8_read_99 : decode cX8_read 99 = .ok (.ladd, 1) := dc97 bqX8_read_95 4 rfl rfl
theorem dX8_read_100 : decode cX8_read 100 = .ok (.lstore 9, 2) := dc55 bqX8_read_95 5 rfl rfl
theorem dX8_read_102 : decode cX8_read 102 = .ok (.aload_n 0, 1) := dc42 bqX8_read_95 7 rfl rfl
theorem dX8_read_103 : decode cX8_read 103 = .ok (.getfield 32, 3) := dc180 bqX8_read_95 8 rfl rfl rfl
theorem dX8_read_106 : decode cX8_read 106 = .ok (.iload_n 1, 1) := dc27 bqX8_read_95 11 rfl rfl
theorem dX8_read_107 : decode cX8_read 107 = .ok (.iaload, 1) := dc46 bqX8_read_95 12 rfl rfl
theorem dX8_read_108 : decode cX8_read 108 = .ok (.bipush (-4), 2) := dc16 bqX8_read_95 13 rfl rfl rfl
theorem dX8_read_110 : decode cX8_read 110 = .ok (.if_icmp .ne 7, 3) := dc160 bqX8_read_95 15 rfl rfl rfl
theorem dX8_read_113 : decode cX8_read 113 = .ok (.iconst 1, 1) := dc4 bqX8_read_95 18 rfl rfl
theorem dX8_read_114 : decode cX8_read 114 = .ok (.goto 42, 3) := dc167 bqX8_read_95 19 rfl rfl rfl
theorem dX8_read_117 : decode cX8_read 117 = .ok (.aload_n 0, 1) := dc42 bqX8_read_95 22 rfl rfl
theorem bqX8_read_118 : hs_bs cX8_read 118 [180, 0, 32, 27, 46, 28, 159, 0, 7, 6, 167, 0, 28, 22, 9, 9, 148, 155, 0, 16, 22, 9, 42] := hs_bs_of _ _ _ (by decide +kernel)
theorem dX8_read_118 : decode cX8_read 118 = .ok (.getfield 32, 3) := dc180 bqX8_read_118 0 rfl rfl rfl
theorem dX8_read_121 : decode cX8_read 121 = .ok (.iload_n 1, 1) := dc27 bqX8_read_118 3 rfl rfl
theorem dX8_read_122 : decode cX8_read 122 = .ok (.iaload, 1) := dc46 bqX8_read_118 4 rfl rfl
theorem dX8_read_123 : decode cX8_read 123 = .ok (.iload_n 2, 1) := dc28 bqX8_read_118 5 rfl rfl
theorem dX8_read_124 : decode cX8_read 124 = .ok (.if_icmp .eq 7, 3) := dc159 bqX8_read_118 6 rfl rfl rfl
theorem dX8_read_127 : decode cX8_read 127 = .ok (.iconst 3, 1) := dc6 bqX8_read_118 9 rfl rfl
theorem dX8_read_128 : decode cX8_read 128 = .ok (.goto 28, 3) := dc167 bqX8_read_118 10 rfl rfl rfl
theorem dX8_read_131 : decode cX8_read 131 = .ok (.lload 9, 2) := dc22 bqX8_read_118 13 rfl rfl
theorem dX8_read_133 : decode cX8_read 133 = .ok (.lconst 0, 1) := dc9 bqX8_read_118 15 rfl rfl
theorem dX8_read_134 : decode cX8_read 134 = .ok (.lcmp, 1) := dc148 bqX8_read_118 16 rfl rfl
theorem dX8_read_135 : decode cX8_read 135 = .ok (.ifCond .lt 16, 3) := dc155 bqX8_read_118 17 rfl rfl rfl
theorem dX8_read_138 : decode cX8_read 138 = .ok (.lload 9, 2) := dc22 bqX8_read_118 20 rfl rfl
theorem dX8_read_140 : decode cX8_read 140 = .ok (.aload_n 0, 1) := dc42 bqX8_read_118 22 rfl rfl
theorem bqX8_read_141 : hs_bs cX8_read 141 [180, 0, 35, 27, 46, 133, 148, 155, 0, 7, 5, 167, 0, 4, 3, 54, 5, 132, 8, 1, 167, 255, 172] := hs_bs_of _ _ _ (by decide +kernel)
theorem dX8_read_141 : decode cX8_read 141 = .ok (.getfield 35, 3) := dc180 bqX8_read_141 0 rfl rfl rfl
theorem dX8_read_144 : decode cX8_read 144 = .ok (.iload_n 1, 1) := dc27 bqX8_read_141 3 rfl rfl
theorem dX8_read_145 : decode cX8_read 145 = .ok (.iaload, 1) := dc46 bqX8_read_141 4 rfl rfl
theorem dX8_read_146 : decode cX8_read 146 = .ok (.i2l, 1) := dc133 bqX8_read_141 5 rfl rfl
theorem dX8_read_147 : decode cX8_read 147 = .ok (.lcmp, 1) := dc148 bqX8_read_141 6 rfl rfl
theorem dX8_read_148 : decode cX8_read 148 = .ok (.ifCond .lt 7, 3) := dc155 bqX8_read_141 7 rfl rfl rfl
theorem dX8_read_151 : decode cX8_read 151 = .ok (.iconst 2, 1) := dc5 bqX8_read_141 10 rfl rfl
theorem dX8_read_152 : decode cX8_read 152 = .ok (.goto 4, 3) := dc167 bqX8_read_141 11 rfl rfl rfl
theorem dX8_read_155 : decode cX8_read 155 = .ok (.iconst 0, 1) := dc3 bqX8_read_141 14 rfl rfl
theorem dX8_read_156 : decode cX8_read 156 = .ok (.istore 5, 2) := dc54 bqX8_read_141 15 rfl rfl
theorem dX8_read_158 : decode cX8_read 158 = .ok (.iinc 8 1, 3) := dc132 bqX8_read_141 17 rfl rfl rfl
theorem dX8_read_161 : decode cX8_read 161 = .ok (.goto (-84), 3) := dc167 bqX8_read_141 20 rfl rfl rfl
theorem bqX8_read_164 : hs_bs cX8_read 164 [21, 5, 154, 0, 78, 16, 40, 27, 104, 29, 96, 5, 21, 7, 104, 96, 54, 8, 42, 42, 180, 0, 38] := hs_bs_of _ _ _ (by decide +kernel)
theorem dX8_read_164 : decode cX8_read 164 = .ok (.iload 5, 2) := dc21 bqX8_read_164 0 rfl rfl
theorem dX8_read_166 : decode cX8_read 166 = .ok (.ifCond .ne 78, 3) := dc154 bqX8_read_164 2 rfl rfl rfl
theorem dX8_read_169 : decode cX8_read 169 = .ok (.bipush 40, 2) := dc16 bqX8_read_164 5 rfl rfl rfl
theorem dX8_read_171 : decode cX8_read 171 = .ok (.iload_n 1, 1) := dc27 bqX8_read_164 7 rfl rfl
theorem dX8_read_172 : decode cX8_read 172 = .ok (.imul, 1) := dc104 bqX8_read_164 8 rfl rfl
theorem dX8_read_173 : decode cX8_read 173 = .ok (.iload_n 3, 1) := dc29 bqX8_read_164 9 rfl rfl
theorem dX8_read_174 : decode cX8_read 174 = .ok (.iadd, 1) := dc96 bqX8_read_164 10 rfl rfl
theorem dX8_read_175 : decode cX8_read 175 = .ok (.iconst 2, 1) := dc5 bqX8_read_164 11 rfl rfl
theorem dX8_read_176 : decode cX8_read 176 = .ok (.iload 7, 2) := dc21 bqX8_read_164 12 rfl rfl
theorem dX8_read_178 : decode cX8_read 178 = .ok (.imul, 1) := dc104 bqX8_read_164 14 rfl rfl
theorem dX8_read_179 : decode cX8_read 179 = .ok (.iadd, 1) := dc96 bqX8_read_164 15 rfl rfl
theorem dX8_read_180 : decode cX8_read 180 = .ok (.istore 8, 2) := dc54 bqX8_read_164 16 rfl rfl
theorem dX8_read_182 : decode cX8_read 182 = .ok (.aload_n 0, 1) := dc42 bqX8_read_164 18 rfl rfl
theorem dX8_read_183 : decode cX8_read 183 = .ok (.aload_n 0, 1) := dc42 bqX8_read_164 19 rfl rfl
theorem dX8_read_184 : decode cX8_read 184 = .ok (.getfield 38, 3) := dc180 bqX8_read_164 20 rfl rfl rfl
