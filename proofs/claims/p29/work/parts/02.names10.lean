theorem dX8_lighter_104 : decode cX8_lighter 104 = .ok (.getfield 7, 3) := dc180 bqX8_lighter_96 8 rfl rfl rfl
theorem dX8_lighter_107 : decode cX8_lighter 107 = .ok (.bipush 16, 2) := dc16 bqX8_lighter_96 11 rfl rfl rfl
theorem dX8_lighter_109 : decode cX8_lighter 109 = .ok (.dup2, 1) := dc92 bqX8_lighter_96 13 rfl rfl
theorem dX8_lighter_110 : decode cX8_lighter 110 = .ok (.iaload, 1) := dc46 bqX8_lighter_96 14 rfl rfl
theorem dX8_lighter_111 : decode cX8_lighter 111 = .ok (.iconst 1, 1) := dc4 bqX8_lighter_96 15 rfl rfl
theorem dX8_lighter_112 : decode cX8_lighter 112 = .ok (.iadd, 1) := dc96 bqX8_lighter_96 16 rfl rfl
theorem dX8_lighter_113 : decode cX8_lighter 113 = .ok (.iastore, 1) := dc79 bqX8_lighter_96 17 rfl rfl
theorem dX8_lighter_114 : decode cX8_lighter 114 = .ok (.aload_n 0, 1) := dc42 bqX8_lighter_96 18 rfl rfl
theorem dX8_lighter_115 : decode cX8_lighter 115 = .ok (.getfield 7, 3) := dc180 bqX8_lighter_96 19 rfl rfl rfl
theorem dX8_lighter_118 : decode cX8_lighter 118 = .ok (.bipush 16, 2) := dc16 bqX8_lighter_96 22 rfl rfl rfl
theorem bqX8_lighter_120 : hs_bs cX8_lighter 120 [46, 172] := hs_bs_of _ _ _ (by decide +kernel)
theorem dX8_lighter_120 : decode cX8_lighter 120 = .ok (.iaload, 1) := dc46 bqX8_lighter_120 0 rfl rfl
theorem dX8_lighter_121 : decode cX8_lighter 121 = .ok (.ireturn, 1) := dc172 bqX8_lighter_120 1 rfl rfl
set_option maxRecDepth 20000 in
theorem gX8_worth_X8_isPerson : GoodIn wsX8_worth (wsV RX8 187 RX8 yX8_isPerson wsX8_isPerson) := hs_gC (hs_gV (hs_inG 5 52 rfl rfl) (hs_inG 5 54 rfl rfl) (hs_inG 0 38 rfl rfl) (hs_inG 1 8 rfl rfl) inC_X8_isPerson)
set_option maxRecDepth 20000 in
theorem gX8_worth_X8_in : GoodIn wsX8_worth (va_wsS RX8 71 yX8_in wsX8_in) := hs_gC (hs_gS (hs_inG 4 182 rfl rfl) (hs_inG 4 183 rfl rfl) (hs_inG 1 8 rfl rfl) inC_X8_in)
set_option maxRecDepth 20000 in
theorem gX8_worth_X8_starts : GoodIn wsX8_worth (wsV RX8 177 RX8 yX8_starts wsX8_starts) := hs_gC (hs_gV (hs_inG 5 32 rfl rfl) (hs_inG 5 34 rfl rfl) (hs_inG 0 35 rfl rfl) (hs_inG 1 8 rfl rfl) inC_X8_starts)
set_option maxRecDepth 20000 in
theorem gX8_worth_X8_worthOfAll : GoodIn wsX8_worth (wsV RX8 155 RX8 yX8_worthOfAll wsX8_worthOfAll) := hs_gC (hs_gV (hs_inG 5 100 rfl rfl) (hs_inG 5 102 rfl rfl) (hs_inG 0 40 rfl rfl) (hs_inG 1 8 rfl rfl) inC_X8_worthOfAll)
theorem bqX8_worth_0 : hs_bs cX8_worth 0 [42, 27, 182, 0, 187, 153, 0, 23, 28, 133, 9, 4, 42, 180, 0, 7, 3, 46, 120, 4, 100, 133] := hs_bs_of _ _ _ (by decide +kernel)
theorem dX8_worth_0 : decode cX8_worth 0 = .ok (.aload_n 0, 1) := dc42 bqX8_worth_0 0 rfl rfl
theorem dX8_worth_1 : decode cX8_worth 1 = .ok (.iload_n 1, 1) := dc27 bqX8_worth_0 1 rfl rfl
theorem dX8_worth_2 : decode cX8_worth 2 = .ok (.invokevirtual 187, 3) := dc182 bqX8_worth_0 2 rfl rfl rfl
theorem dX8_worth_5 : decode cX8_worth 5 = .ok (.ifCond .eq 23, 3) := dc153 bqX8_worth_0 5 rfl rfl rfl
theorem dX8_worth_8 : decode cX8_worth 8 = .ok (.iload_n 2, 1) := dc28 bqX8_worth_0 8 rfl rfl
theorem dX8_worth_9 : decode cX8_worth 9 = .ok (.i2l, 1) := dc133 bqX8_worth_0 9 rfl rfl
theorem dX8_worth_10 : decode cX8_worth 10 = .ok (.lconst 0, 1) := dc9 bqX8_worth_0 10 rfl rfl
theorem dX8_worth_11 : decode cX8_worth 11 = .ok (.iconst 1, 1) := dc4 bqX8_worth_0 11 rfl rfl
theorem dX8_worth_12 : decode cX8_worth 12 = .ok (.aload_n 0, 1) := dc42 bqX8_worth_0 12 rfl rfl
theorem dX8_worth_13 : decode cX8_worth 13 = .ok (.getfield 7, 3) := dc180 bqX8_worth_0 13 rfl rfl rfl
theorem dX8_worth_16 : decode cX8_worth 16 = .ok (.iconst 0, 1) := dc3 bqX8_worth_0 16 rfl rfl
theorem dX8_worth_17 : decode cX8_worth 17 = .ok (.iaload, 1) := dc46 bqX8_worth_0 17 rfl rfl
theorem dX8_worth_18 : decode cX8_worth 18 = .ok (.ishl, 1) := dc120 bqX8_worth_0 18 rfl rfl
theorem dX8_worth_19 : decode cX8_worth 19 = .ok (.iconst 1, 1) := dc4 bqX8_worth_0 19 rfl rfl
theorem dX8_worth_20 : decode cX8_worth 20 = .ok (.isub, 1) := dc100 bqX8_worth_0 20 rfl rfl
theorem dX8_worth_21 : decode cX8_worth 21 = .ok (.i2l, 1) := dc133 bqX8_worth_0 21 rfl rfl
theorem bqX8_worth_22 : hs_bs cX8_worth 22 [184, 0, 71, 154, 0, 5, 2, 172, 42, 182, 0, 177, 42, 27, 28, 182, 0, 155, 172] := hs_bs_of _ _ _ (by decide +kernel)
theorem dX8_worth_22 : decode cX8_worth 22 = .ok (.invokestatic 71, 3) := dc184 bqX8_worth_22 0 rfl rfl rfl
theorem dX8_worth_25 : decode cX8_worth 25 = .ok (.ifCond .ne 5, 3) := dc154 bqX8_worth_22 3 rfl rfl rfl
theorem dX8_worth_28 : decode cX8_worth 28 = .ok (.iconst (-1), 1) := dc2 bqX8_worth_22 6 rfl rfl
theorem dX8_worth_29 : decode cX8_worth 29 = .ok (.ireturn, 1) := dc172 bqX8_worth_22 7 rfl rfl
theorem dX8_worth_30 : decode cX8_worth 30 = .ok (.aload_n 0, 1) := dc42 bqX8_worth_22 8 rfl rfl
theorem dX8_worth_31 : decode cX8_worth 31 = .ok (.invokevirtual 177, 3) := dc182 bqX8_worth_22 9 rfl rfl rfl
theorem dX8_worth_34 : decode cX8_worth 34 = .ok (.aload_n 0, 1) := dc42 bqX8_worth_22 12 rfl rfl
theorem dX8_worth_35 : decode cX8_worth 35 = .ok (.iload_n 1, 1) := dc27 bqX8_worth_22 13 rfl rfl
theorem dX8_worth_36 : decode cX8_worth 36 = .ok (.iload_n 2, 1) := dc28 bqX8_worth_22 14 rfl rfl
theorem dX8_worth_37 : decode cX8_worth 37 = .ok (.invokevirtual 155, 3) := dc182 bqX8_worth_22 15 rfl rfl rfl
theorem dX8_worth_40 : decode cX8_worth 40 = .ok (.ireturn, 1) := dc172 bqX8_worth_22 18 rfl rfl
set_option maxRecDepth 20000 in
theorem gX8_finds_X8_isPerson : GoodIn wsX8_finds (wsV RX8 187 RX8 yX8_isPerson wsX8_isPerson) := hs_gC (hs_gV (hs_inG 5 52 rfl rfl) (hs_inG 5 54 rfl rfl) (hs_inG 0 38 rfl rfl) (hs_inG 1 8 rfl rfl) inC_X8_isPerson)
set_option maxRecDepth 20000 in
theorem gX8_finds_X8_isCut : GoodIn wsX8_finds (wsV RX8 223 RX8 yX8_isCut wsX8_isCut) := hs_gC (hs_gV (hs_inG 5 112 rfl rfl) (hs_inG 5 114 rfl rfl) (hs_inG 0 42 rfl rfl) (hs_inG 1 8 rfl rfl) inC_X8_isCut)
set_option maxRecDepth 20000 in
theorem gX8_finds_X8_starts : GoodIn wsX8_finds (wsV RX8 177 RX8 yX8_starts wsX8_starts) := hs_gC (hs_gV (hs_inG 5 32 rfl rfl) (hs_inG 5 34 rfl rfl) (hs_inG 0 35 rfl rfl) (hs_inG 1 8 rfl rfl) inC_X8_starts)
set_option maxRecDepth 20000 in
theorem gX8_finds_X8_findOf : GoodIn wsX8_finds (wsV RX8 170 RX8 yX8_findOf wsX8_findOf) := hs_gC (hs_gV (hs_inG 5 116 rfl rfl) (hs_inG 5 118 rfl rfl) (hs_inG 0 43 rfl rfl) (hs_inG 1 8 rfl rfl) inC_X8_findOf)
theorem bqX8_finds_0 : hs_bs cX8_finds 0 [42, 27, 182, 0, 187, 153, 0, 11, 42, 28, 182, 0, 223, 154, 0, 5, 2, 172, 42, 182, 0, 177, 42, 27] := hs_bs_of _ _ _ (by decide +kernel)
theorem dX8_finds_0 : decode cX8_finds 0 = .ok (.aload_n 0, 1) := dc42 bqX8_finds_0 0 rfl rfl
theorem dX8_finds_1 : decode cX8_finds 1 = .ok (.iload_n 1, 1) := dc27 bqX8_finds_0 1 rfl rfl
theorem dX8_finds_2 : decode cX8_finds 2 = .ok (.invokevirtual 187, 3) := dc182 bqX8_finds_0 2 rfl rfl rfl
theorem dX8_finds_5 : decode cX8_finds 5 = .ok (.ifCond .eq 11, 3) := dc153 bqX8_finds_0 5 rfl rfl rfl
theorem dX8_finds_8 : decode cX8_finds 8 = .ok (.aload_n 0, 1) := dc42 bqX8_finds_0 8 rfl rfl
theorem dX8_finds_9 : decode cX8_finds 9 = .ok (.iload_n 2, 1) := dc28 bqX8_finds_0 9 rfl rfl
theorem dX8_finds_10 : decode cX8_finds 10 = .ok (.invokevirtual 223, 3) := dc182 bqX8_finds_0 10 rfl rfl rfl
theorem dX8_finds_13 : decode cX8_finds 13 = .ok (.ifCond .ne 5, 3) := dc154 bqX8_finds_0 13 rfl rfl rfl
theorem dX8_finds_16 : decode cX8_finds 16 = .ok (.iconst (-1), 1) := dc2 bqX8_finds_0 16 rfl rfl
theorem dX8_finds_17 : decode cX8_finds 17 = .ok (.ireturn, 1) := dc172 bqX8_finds_0 17 rfl rfl
theorem dX8_finds_18 : decode cX8_finds 18 = .ok (.aload_n 0, 1) := dc42 bqX8_finds_0 18 rfl rfl
theorem dX8_finds_19 : decode cX8_finds 19 = .ok (.invokevirtual 177, 3) := dc182 bqX8_finds_0 19 rfl rfl rfl
theorem dX8_finds_22 : decode cX8_finds 22 = .ok (.aload_n 0, 1) := dc42 bqX8_finds_0 22 rfl rfl
theorem dX8_finds_23 : decode cX8_finds 23 = .ok (.iload_n 1, 1) := dc27 bqX8_finds_0 23 rfl rfl
theorem bqX8_finds_24 : hs_bs cX8_finds 24 [28, 182, 0, 170, 172] := hs_bs_of _ _ _ (by decide +kernel)
theorem dX8_finds_24 : decode cX8_finds 24 = .ok (.iload_n 2, 1) := dc28 bqX8_finds_24 0 rfl rfl
theorem dX8_finds_25 : decode cX8_finds 25 = .ok (.invokevirtual 170, 3) := dc182 bqX8_finds_24 1 rfl rfl rfl
theorem dX8_finds_28 : decode cX8_finds 28 = .ok (.ireturn, 1) := dc172 bqX8_finds_24 4 rfl rfl
set_option maxRecDepth 20000 in
theorem gX8_just_X8_isCut : GoodIn wsX8_just (wsV RX8 223 RX8 yX8_isCut wsX8_isCut) := hs_gC (hs_gV (hs_inG 5 112 rfl rfl) (hs_inG 5 114 rfl rfl) (hs_inG 0 42 rfl rfl) (hs_inG 1 8 rfl rfl) inC_X8_isCut)
set_option maxRecDepth 20000 in
theorem gX8_just_X8_starts : GoodIn wsX8_just (wsV RX8 177 RX8 yX8_starts wsX8_starts) := hs_gC (hs_gV (hs_inG 5 32 rfl rfl) (hs_inG 5 34 rfl rfl) (hs_inG 0 35 rfl rfl) (hs_inG 1 8 rfl rfl) inC_X8_starts)
set_option maxRecDepth 20000 in
theorem gX8_just_X8_justTo : GoodIn wsX8_just (wsV RX8 226 RX8 yX8_justTo wsX8_justTo) := hs_gC (hs_gV (hs_inG 5 138 rfl rfl) (hs_inG 5 140 rfl rfl) (hs_inG 0 46 rfl rfl) (hs_inG 1 8 rfl rfl) inC_X8_justTo)
theorem bqX8_just_0 : hs_bs cX8_just 0 [42, 27, 182, 0, 223, 154, 0, 5, 2, 172, 42, 182, 0, 177, 42, 27, 182, 0, 226, 172] := hs_bs_of _ _ _ (by decide +kernel)
theorem dX8_just_0 : decode cX8_just 0 = .ok (.aload_n 0, 1) := dc42 bqX8_just_0 0 rfl rfl
theorem dX8_just_1 : decode cX8_just 1 = .ok (.iload_n 1, 1) := dc27 bqX8_just_0 1 rfl rfl
theorem dX8_just_2 : decode cX8_just 2 = .ok (.invokevirtual 223, 3) := dc182 bqX8_just_0 2 rfl rfl rfl
theorem dX8_just_5 : decode cX8_just 5 = .ok (.ifCond .ne 5, 3) := dc154 bqX8_just_0 5 rfl rfl rfl
theorem dX8_just_8 : decode cX8_just 8 = .ok (.iconst (-1), 1) := dc2 bqX8_just_0 8 rfl rfl
theorem dX8_just_9 : decode cX8_just 9 = .ok (.ireturn, 1) := dc172 bqX8_just_0 9 rfl rfl
theorem dX8_just_10 : decode cX8_just 10 = .ok (.aload_n 0, 1) := dc42 bqX8_just_0 10 rfl rfl
theorem dX8_just_11 : decode cX8_just 11 = .ok (.invokevirtual 177, 3) := dc182 bqX8_just_0 11 rfl rfl rfl
theorem dX8_just_14 : decode cX8_just 14 = .ok (.aload_n 0, 1) := dc42 bqX8_just_0 14 rfl rfl
theorem dX8_just_15 : decode cX8_just 15 = .ok (.iload_n 1, 1) := dc27 bqX8_just_0 15 rfl rfl
theorem dX8_just_16 : decode cX8_just 16 = .ok (.invokevirtual 226, 3) := dc182 bqX8_just_0 16 rfl rfl rfl
theorem dX8_just_19 : decode cX8_just 19 = .ok (.ireturn, 1) := dc172 bqX8_just_0 19 rfl rfl
set_option maxRecDepth 20000 in
theorem gX8_middle_X8_isPart : GoodIn wsX8_middle (va_wsS RX8 229 yX8_isPart wsX8_isPart) := hs_gC (hs_gS (hs_inG 5 149 rfl rfl) (hs_inG 5 150 rfl rfl) (hs_inG 1 8 rfl rfl) inC_X8_isPart)
set_option maxRecDepth 20000 in
theorem gX8_middle_X8_starts : GoodIn wsX8_middle (wsV RX8 177 RX8 yX8_starts wsX8_starts) := hs_gC (hs_gV (hs_inG 5 32 rfl rfl) (hs_inG 5 34 rfl rfl) (hs_inG 0 35 rfl rfl) (hs_inG 1 8 rfl rfl) inC_X8_starts)
set_option maxRecDepth 20000 in
theorem gX8_middle_X8_justTo : GoodIn wsX8_middle (wsV RX8 226 RX8 yX8_justTo wsX8_justTo) := hs_gC (hs_gV (hs_inG 5 138 rfl rfl) (hs_inG 5 140 rfl rfl) (hs_inG 0 46 rfl rfl) (hs_inG 1 8 rfl rfl) inC_X8_justTo)
set_option maxRecDepth 20000 in
theorem gX8_middle_X8_bitsOf : GoodIn wsX8_middle (va_wsS RX8 232 yX8_bitsOf wsX8_bitsOf) := hs_gC (hs_gS (hs_inG 5 152 rfl rfl) (hs_inG 5 153 rfl rfl) (hs_inG 1 8 rfl rfl) inC_X8_bitsOf)
theorem bqX8_middle_0 : hs_bs cX8_middle 0 [27, 184, 0, 229, 154, 0, 5, 2, 172, 42, 182, 0, 177, 2, 61, 4, 62, 4, 54, 4, 21, 4, 42] := hs_bs_of _ _ _ (by decide +kernel)
theorem dX8_middle_0 : decode cX8_middle 0 = .ok (.iload_n 1, 1) := dc27 bqX8_middle_0 0 rfl rfl
theorem dX8_middle_1 : decode cX8_middle 1 = .ok (.invokestatic 229, 3) := dc184 bqX8_middle_0 1 rfl rfl rfl
theorem dX8_middle_4 : decode cX8_middle 4 = .ok (.ifCond .ne 5, 3) := dc154 bqX8_middle_0 4 rfl rfl rfl
theorem dX8_middle_7 : decode cX8_middle 7 = .ok (.iconst (-1), 1) := dc2 bqX8_middle_0 7 rfl rfl
theorem dX8_middle_8 : decode cX8_middle 8 = .ok (.ireturn, 1) := dc172 bqX8_middle_0 8 rfl rfl
theorem dX8_middle_9 : decode cX8_middle 9 = .ok (.aload_n 0, 1) := dc42 bqX8_middle_0 9 rfl rfl
theorem dX8_middle_10 : decode cX8_middle 10 = .ok (.invokevirtual 177, 3) := dc182 bqX8_middle_0 10 rfl rfl rfl
theorem dX8_middle_13 : decode cX8_middle 13 = .ok (.iconst (-1), 1) := dc2 bqX8_middle_0 13 rfl rfl
theorem dX8_middle_14 : decode cX8_middle 14 = .ok (.istore_n 2, 1) := dc61 bqX8_middle_0 14 rfl rfl
theorem dX8_middle_15 : decode cX8_middle 15 = .ok (.iconst 1, 1) := dc4 bqX8_middle_0 15 rfl rfl
theorem dX8_middle_16 : decode cX8_middle 16 = .ok (.istore_n 3, 1) := dc62 bqX8_middle_0 16 rfl rfl
theorem dX8_middle_17 : decode cX8_middle 17 = .ok (.iconst 1, 1) := dc4 bqX8_middle_0 17 rfl rfl
theorem dX8_middle_18 : decode cX8_middle 18 = .ok (.istore 4, 2) := dc54 bqX8_middle_0 18 rfl rfl
theorem dX8_middle_20 : decode cX8_middle 20 = .ok (.iload 4, 2) := dc21 bqX8_middle_0 20 rfl rfl
theorem dX8_middle_22 : decode cX8_middle 22 = .ok (.aload_n 0, 1) := dc42 bqX8_middle_0 22 rfl rfl
theorem bqX8_middle_23 : hs_bs cX8_middle 23 [180, 0, 13, 3, 46, 162, 0, 46, 42, 21, 4, 182, 0, 226, 184, 0, 232, 54, 5, 21, 5, 28] := hs_bs_of _ _ _ (by decide +kernel)
theorem dX8_middle_23 : decode cX8_middle 23 = .ok (.getfield 13, 3) := dc180 bqX8_middle_23 0 rfl rfl rfl
theorem dX8_middle_26 : decode cX8_middle 26 = .ok (.iconst 0, 1) := dc3 bqX8_middle_23 3 rfl rfl
theorem dX8_middle_27 : decode cX8_middle 27 = .ok (.iaload, 1) := dc46 bqX8_middle_23 4 rfl rfl
theorem dX8_middle_28 : decode cX8_middle 28 = .ok (.if_icmp .ge 46, 3) := dc162 bqX8_middle_23 5 rfl rfl rfl
theorem dX8_middle_31 : decode cX8_middle 31 = .ok (.aload_n 0, 1) := dc42 bqX8_middle_23 8 rfl rfl
theorem dX8_middle_32 : decode cX8_middle 32 = .ok (.iload 4, 2) := dc21 bqX8_middle_23 9 rfl rfl
theorem dX8_middle_34 : decode cX8_middle 34 = .ok (.invokevirtual 226, 3) := dc182 bqX8_middle_23 11 rfl rfl rfl
theorem dX8_middle_37 : decode cX8_middle 37 = .ok (.invokestatic 232, 3) := dc184 bqX8_middle_23 14 rfl rfl rfl
theorem dX8_middle_40 : decode cX8_middle 40 = .ok (.istore 5, 2) := dc54 bqX8_middle_23 17 rfl rfl
theorem dX8_middle_42 : decode cX8_middle 42 = .ok (.iload 5, 2) := dc21 bqX8_middle_23 19 rfl rfl
theorem dX8_middle_44 : decode cX8_middle 44 = .ok (.iload_n 2, 1) := dc28 bqX8_middle_23 21 rfl rfl
theorem bqX8_middle_45 : hs_bs cX8_middle 45 [164, 0, 8, 21, 4, 167, 0, 4, 29, 62, 21, 5, 28, 164, 0, 8, 21, 5, 167, 0, 4, 28, 61] := hs_bs_of _ _ _ (by decide +kernel)
theorem dX8_middle_45 : decode cX8_middle 45 = .ok (.if_icmp .le 8, 3) := dc164 bqX8_middle_45 0 rfl rfl rfl
theorem dX8_middle_48 : decode cX8_middle 48 = .ok (.iload 4, 2) := dc21 bqX8_middle_45 3 rfl rfl
theorem dX8_middle_50 : decode cX8_middle 50 = .ok (.goto 4, 3) := dc167 bqX8_middle_45 5 rfl rfl rfl
theorem dX8_middle_53 : decode cX8_middle 53 = .ok (.iload_n 3, 1) := dc29 bqX8_middle_45 8 rfl rfl
theorem dX8_middle_54 : decode cX8_middle 54 = .ok (.istore_n 3, 1) := dc62 bqX8_middle_45 9 rfl rfl
theorem dX8_middle_55 : decode cX8_middle 55 = .ok (.iload 5, 2) := dc21 bqX8_middle_45 10 rfl rfl
theorem dX8_middle_57 : decode cX8_middle 57 = .ok (.iload_n 2, 1) := dc28 bqX8_middle_45 12 rfl rfl
theorem dX8_middle_58 : decode cX8_middle 58 = .ok (.if_icmp .le 8, 3) := dc164 bqX8_middle_45 13 rfl rfl rfl
theorem dX8_middle_61 : decode cX8_middle 61 = .ok (.iload 5, 2) := dc21 bqX8_middle_45 16 rfl rfl
theorem dX8_middle_63 : decode cX8_middle 63 = .ok (.goto 4, 3) := dc167 bqX8_middle_45 18 rfl rfl rfl
theorem dX8_middle_66 : decode cX8_middle 66 = .ok (.iload_n 2, 1) := dc28 bqX8_middle_45 21 rfl rfl
theorem dX8_middle_67 : decode cX8_middle 67 = .ok (.istore_n 2, 1) := dc61 bqX8_middle_45 22 rfl rfl
theorem bqX8_middle_68 : hs_bs cX8_middle 68 [132, 4, 1, 167, 255, 205, 27, 154, 0, 7, 29, 167, 0, 4, 28, 172] := hs_bs_of _ _ _ (by decide +kernel)
theorem dX8_middle_68 : decode cX8_middle 68 = .ok (.iinc 4 1, 3) := dc132 bqX8_middle_68 0 rfl rfl rfl
theorem dX8_middle_71 : decode cX8_middle 71 = .ok (.goto (-51), 3) := dc167 bqX8_middle_68 3 rfl rfl rfl
theorem dX8_middle_74 : decode cX8_middle 74 = .ok (.iload_n 1, 1) := dc27 bqX8_middle_68 6 rfl rfl
theorem dX8_middle_75 : decode cX8_middle 75 = .ok (.ifCond .ne 7, 3) := dc154 bqX8_middle_68 7 rfl rfl rfl
theorem dX8_middle_78 : decode cX8_middle 78 = .ok (.iload_n 3, 1) := dc29 bqX8_middle_68 10 rfl rfl
theorem dX8_middle_79 : decode cX8_middle 79 = .ok (.goto 4, 3) := dc167 bqX8_middle_68 11 rfl rfl rfl
theorem dX8_middle_82 : decode cX8_middle 82 = .ok (.iload_n 2, 1) := dc28 bqX8_middle_68 14 rfl rfl
theorem dX8_middle_83 : decode cX8_middle 83 = .ok (.ireturn, 1) := dc172 bqX8_middle_68 15 rfl rfl
set_option maxRecDepth 20000 in
theorem gX8_honestCut_X8_leftOf : GoodIn wsX8_honestCut (va_wsS RX8 161 yX8_leftOf wsX8_leftOf) := hs_gC (hs_gS (hs_inG 5 120 rfl rfl) (hs_inG 5 121 rfl rfl) (hs_inG 1 8 rfl rfl) inC_X8_leftOf)
set_option maxRecDepth 20000 in
theorem gX8_honestCut_X8_moreLeft : GoodIn wsX8_honestCut (wsV RX8 164 RX8 yX8_moreLeft wsX8_moreLeft) := hs_gC (hs_gV (hs_inG 5 123 rfl rfl) (hs_inG 5 125 rfl rfl) (hs_inG 0 44 rfl rfl) (hs_inG 1 8 rfl rfl) inC_X8_moreLeft)
set_option maxRecDepth 20000 in
theorem gX8_honestCut_X8_sizeOf : GoodIn wsX8_honestCut (va_wsS RX8 167 yX8_sizeOf wsX8_sizeOf) := hs_gC (hs_gS (hs_inG 5 131 rfl rfl) (hs_inG 5 132 rfl rfl) (hs_inG 1 8 rfl rfl) inC_X8_sizeOf)
theorem bqX8_honestCut_0 : hs_bs cX8_honestCut 0 [18, 235, 61, 4, 62, 4, 54, 4, 21, 4, 42, 180, 0, 13, 3, 46, 162, 0, 50, 42, 27, 21, 4] := hs_bs_of _ _ _ (by decide +kernel)
theorem dX8_honestCut_0 : decode cX8_honestCut 0 = .ok (.ldc 235, 2) := dc18 bqX8_honestCut_0 0 rfl rfl
theorem dX8_honestCut_2 : decode cX8_honestCut 2 = .ok (.istore_n 2, 1) := dc61 bqX8_honestCut_0 2 rfl rfl
theorem dX8_honestCut_3 : decode cX8_honestCut 3 = .ok (.iconst 1, 1) := dc4 bqX8_honestCut_0 3 rfl rfl
theorem dX8_honestCut_4 : decode cX8_honestCut 4 = .ok (.istore_n 3, 1) := dc62 bqX8_honestCut_0 4 rfl rfl
theorem dX8_honestCut_5 : decode cX8_honestCut 5 = .ok (.iconst 1, 1) := dc4 bqX8_honestCut_0 5 rfl rfl
theorem dX8_honestCut_6 : decode cX8_honestCut 6 = .ok (.istore 4, 2) := dc54 bqX8_honestCut_0 6 rfl rfl
theorem dX8_honestCut_8 : decode cX8_honestCut 8 = .ok (.iload 4, 2) := dc21 bqX8_honestCut_0 8 rfl rfl
theorem dX8_honestCut_10 : decode cX8_honestCut 10 = .ok (.aload_n 0, 1) := dc42 bqX8_honestCut_0 10 rfl rfl
theorem dX8_honestCut_11 : decode cX8_honestCut 11 = .ok (.getfield 13, 3) := dc180 bqX8_honestCut_0 11 rfl rfl rfl
theorem dX8_honestCut_14 : decode cX8_honestCut 14 = .ok (.iconst 0, 1) := dc3 bqX8_honestCut_0 14 rfl rfl
theorem dX8_honestCut_15 : decode cX8_honestCut 15 = .ok (.iaload, 1) := dc46 bqX8_honestCut_0 15 rfl rfl
theorem dX8_honestCut_16 : decode cX8_honestCut 16 = .ok (.if_icmp .ge 50, 3) := dc162 bqX8_honestCut_0 16 rfl rfl rfl
theorem dX8_honestCut_19 : decode cX8_honestCut 19 = .ok (.aload_n 0, 1) := dc42 bqX8_honestCut_0 19 rfl rfl
theorem dX8_honestCut_20 : decode cX8_honestCut 20 = .ok (.iload_n 1, 1) := dc27 bqX8_honestCut_0 20 rfl rfl
theorem dX8_honestCut_21 : decode cX8_honestCut 21 = .ok (.iload 4, 2) := dc21 bqX8_honestCut_0 21 rfl rfl
theorem bqX8_honestCut_23 : hs_bs cX8_honestCut 23 [184, 0, 161, 182, 0, 164, 184, 0, 167, 54, 5, 21, 5, 28, 162, 0, 8, 21, 4, 167, 0, 4, 29, 62] := hs_bs_of _ _ _ (by decide +kernel)
theorem dX8_honestCut_23 : decode cX8_honestCut 23 = .ok (.invokestatic 161, 3) := dc184 bqX8_honestCut_23 0 rfl rfl rfl
theorem dX8_honestCut_26 : decode cX8_honestCut 26 = .ok (.invokevirtual 164, 3) := dc182 bqX8_honestCut_23 3 rfl rfl rfl
theorem dX8_honestCut_29 : decode cX8_honestCut 29 = .ok (.invokestatic 167, 3) := dc184 bqX8_honestCut_23 6 rfl rfl rfl
theorem dX8_honestCut_32 : decode cX8_honestCut 32 = .ok (.istore 5, 2) := dc54 bqX8_honestCut_23 9 rfl rfl
theorem dX8_honestCut_34 : decode cX8_honestCut 34 = .ok (.iload 5, 2) := dc21 bqX8_honestCut_23 11 rfl rfl
theorem dX8_honestCut_36 : decode cX8_honestCut 36 = .ok (.iload_n 2, 1) := dc28 bqX8_honestCut_23 13 rfl rfl
theorem dX8_honestCut_37 : decode cX8_honestCut 37 = .ok (.if_icmp .ge 8, 3) := dc162 bqX8_honestCut_23 14 rfl rfl rfl
theorem dX8_honestCut_40 : decode cX8_honestCut 40 = .ok (.iload 4, 2) := dc21 bqX8_honestCut_23 17 rfl rfl
theorem dX8_honestCut_42 : decode cX8_honestCut 42 = .ok (.goto 4, 3) := dc167 bqX8_honestCut_23 19 rfl rfl rfl
theorem dX8_honestCut_45 : decode cX8_honestCut 45 = .ok (.iload_n 3, 1) := dc29 bqX8_honestCut_23 22 rfl rfl
theorem dX8_honestCut_46 : decode cX8_honestCut 46 = .ok (.istore_n 3, 1) := dc62 bqX8_honestCut_23 23 rfl rfl
theorem bqX8_honestCut_47 : hs_bs cX8_honestCut 47 [21, 5, 28, 162, 0, 8, 21, 5, 167, 0, 4, 28, 61, 132, 4, 1, 167, 255, 201, 29, 172] := hs_bs_of _ _ _ (by decide +kernel)
theorem dX8_honestCut_47 : decode cX8_honestCut 47 = .ok (.iload 5, 2) := dc21 bqX8_honestCut_47 0 rfl rfl
theorem dX8_honestCut_49 : decode cX8_honestCut 49 = .ok (.iload_n 2, 1) := dc28 bqX8_honestCut_47 2 rfl rfl
theorem dX8_honestCut_50 : decode cX8_honestCut 50 = .ok (.if_icmp .ge 8, 3) := dc162 bqX8_honestCut_47 3 rfl rfl rfl
theorem dX8_honestCut_53 : decode cX8_honestCut 53 = .ok (.iload 5, 2) := dc21 bqX8_honestCut_47 6 rfl rfl
theorem dX8_honestCut_55 : decode cX8_honestCut 55 = .ok (.goto 4, 3) := dc167 bqX8_honestCut_47 8 rfl rfl rfl
theorem dX8_honestCut_58 : decode cX8_honestCut 58 = .ok (.iload_n 2, 1) := dc28 bqX8_honestCut_47 11 rfl rfl
theorem dX8_honestCut_59 : decode cX8_honestCut 59 = .ok (.istore_n 2, 1) := dc61 bqX8_honestCut_47 12 rfl rfl
theorem dX8_honestCut_60 : decode cX8_honestCut 60 = .ok (.iinc 4 1, 3) := dc132 bqX8_honestCut_47 13 rfl rfl rfl
theorem dX8_honestCut_63 : decode cX8_honestCut 63 = .ok (.goto (-55), 3) := dc167 bqX8_honestCut_47 16 rfl rfl rfl
theorem dX8_honestCut_66 : decode cX8_honestCut 66 = .ok (.iload_n 3, 1) := dc29 bqX8_honestCut_47 19 rfl rfl
theorem dX8_honestCut_67 : decode cX8_honestCut 67 = .ok (.ireturn, 1) := dc172 bqX8_honestCut_47 20 rfl rfl
set_option maxRecDepth 20000 in
theorem gX8_honest_X8_isPerson : GoodIn wsX8_honest (wsV RX8 187 RX8 yX8_isPerson wsX8_isPerson) := hs_gC (hs_gV (hs_inG 5 52 rfl rfl) (hs_inG 5 54 rfl rfl) (hs_inG 0 38 rfl rfl) (hs_inG 1 8 rfl rfl) inC_X8_isPerson)
set_option maxRecDepth 20000 in
theorem gX8_honest_X8_starts : GoodIn wsX8_honest (wsV RX8 177 RX8 yX8_starts wsX8_starts) := hs_gC (hs_gV (hs_inG 5 32 rfl rfl) (hs_inG 5 34 rfl rfl) (hs_inG 0 35 rfl rfl) (hs_inG 1 8 rfl rfl) inC_X8_starts)
set_option maxRecDepth 20000 in
theorem gX8_honest_X8_honestCut : GoodIn wsX8_honest (wsV RX8 236 RX8 yX8_honestCut wsX8_honestCut) := hs_gC (hs_gV (hs_inG 5 159 rfl rfl) (hs_inG 5 161 rfl rfl) (hs_inG 0 47 rfl rfl) (hs_inG 1 8 rfl rfl) inC_X8_honestCut)
theorem bqX8_honest_0 : hs_bs cX8_honest 0 [42, 27, 182, 0, 187, 154, 0, 5, 2, 172, 42, 182, 0, 177, 42, 27, 182, 0, 236, 172] := hs_bs_of _ _ _ (by decide +kernel)
theorem dX8_honest_0 : decode cX8_honest 0 = .ok (.aload_n 0, 1) := dc42 bqX8_honest_0 0 rfl rfl
theorem dX8_honest_1 : decode cX8_honest 1 = .ok (.iload_n 1, 1) := dc27 bqX8_honest_0 1 rfl rfl
theorem dX8_honest_2 : decode cX8_honest 2 = .ok (.invokevirtual 187, 3) := dc182 bqX8_honest_0 2 rfl rfl rfl
theorem dX8_honest_5 : decode cX8_honest 5 = .ok (.ifCond .ne 5, 3) := dc154 bqX8_honest_0 5 rfl rfl rfl
theorem dX8_honest_8 : decode cX8_honest 8 = .ok (.iconst (-1), 1) := dc2 bqX8_honest_0 8 rfl rfl
theorem dX8_honest_9 : decode cX8_honest 9 = .ok (.ireturn, 1) := dc172 bqX8_honest_0 9 rfl rfl
theorem dX8_honest_10 : decode cX8_honest 10 = .ok (.aload_n 0, 1) := dc42 bqX8_honest_0 10 rfl rfl
theorem dX8_honest_11 : decode cX8_honest 11 = .ok (.invokevirtual 177, 3) := dc182 bqX8_honest_0 11 rfl rfl rfl
theorem dX8_honest_14 : decode cX8_honest 14 = .ok (.aload_n 0, 1) := dc42 bqX8_honest_0 14 rfl rfl
theorem dX8_honest_15 : decode cX8_honest 15 = .ok (.iload_n 1, 1) := dc27 bqX8_honest_0 15 rfl rfl
theorem dX8_honest_16 : decode cX8_honest 16 = .ok (.invokevirtual 236, 3) := dc182 bqX8_honest_0 16 rfl rfl rfl
theorem dX8_honest_19 : decode cX8_honest 19 = .ok (.ireturn, 1) := dc172 bqX8_honest_0 19 rfl rfl
set_option maxRecDepth 20000 in
theorem gX8_takenBy_X8_leftOf : GoodIn wsX8_takenBy (va_wsS RX8 161 yX8_leftOf wsX8_leftOf) := hs_gC (hs_gS (hs_inG 5 120 rfl rfl) (hs_inG 5 121 rfl rfl) (hs_inG 1 8 rfl rfl) inC_X8_leftOf)
set_option maxRecDepth 20000 in
theorem gX8_takenBy_X8_moreLeft : GoodIn wsX8_takenBy (wsV RX8 164 RX8 yX8_moreLeft wsX8_moreLeft) := hs_gC (hs_gV (hs_inG 5 123 rfl rfl) (hs_inG 5 125 rfl rfl) (hs_inG 0 44 rfl rfl) (hs_inG 1 8 rfl rfl) inC_X8_moreLeft)
set_option maxRecDepth 20000 in
theorem gX8_takenBy_X8_every : GoodIn wsX8_takenBy (wsV RX8 158 RX8 yX8_every wsX8_every) := hs_gC (hs_gV (hs_inG 5 127 rfl rfl) (hs_inG 5 129 rfl rfl) (hs_inG 0 45 rfl rfl) (hs_inG 1 8 rfl rfl) inC_X8_every)
theorem bqX8_takenBy_0 : hs_bs cX8_takenBy 0 [42, 27, 28, 184, 0, 161, 182, 0, 164, 155, 0, 10, 28, 184, 0, 161, 167, 0, 14, 42, 182, 0, 158, 28] := hs_bs_of _ _ _ (by decide +kernel)
theorem dX8_takenBy_0 : decode cX8_takenBy 0 = .ok (.aload_n 0, 1) := dc42 bqX8_takenBy_0 0 rfl rfl
theorem dX8_takenBy_1 : decode cX8_takenBy 1 = .ok (.iload_n 1, 1) := dc27 bqX8_takenBy_0 1 rfl rfl
theorem dX8_takenBy_2 : decode cX8_takenBy 2 = .ok (.iload_n 2, 1) := dc28 bqX8_takenBy_0 2 rfl rfl
theorem dX8_takenBy_3 : decode cX8_takenBy 3 = .ok (.invokestatic 161, 3) := dc184 bqX8_takenBy_0 3 rfl rfl rfl
theorem dX8_takenBy_6 : decode cX8_takenBy 6 = .ok (.invokevirtual 164, 3) := dc182 bqX8_takenBy_0 6 rfl rfl rfl
theorem dX8_takenBy_9 : decode cX8_takenBy 9 = .ok (.ifCond .lt 10, 3) := dc155 bqX8_takenBy_0 9 rfl rfl rfl
theorem dX8_takenBy_12 : decode cX8_takenBy 12 = .ok (.iload_n 2, 1) := dc28 bqX8_takenBy_0 12 rfl rfl
theorem dX8_takenBy_13 : decode cX8_takenBy 13 = .ok (.invokestatic 161, 3) := dc184 bqX8_takenBy_0 13 rfl rfl rfl
theorem dX8_takenBy_16 : decode cX8_takenBy 16 = .ok (.goto 14, 3) := dc167 bqX8_takenBy_0 16 rfl rfl rfl
theorem dX8_takenBy_19 : decode cX8_takenBy 19 = .ok (.aload_n 0, 1) := dc42 bqX8_takenBy_0 19 rfl rfl
theorem dX8_takenBy_20 : decode cX8_takenBy 20 = .ok (.invokevirtual 158, 3) := dc182 bqX8_takenBy_0 20 rfl rfl rfl
theorem dX8_takenBy_23 : decode cX8_takenBy 23 = .ok (.iload_n 2, 1) := dc28 bqX8_takenBy_0 23 rfl rfl
theorem bqX8_takenBy_24 : hs_bs cX8_takenBy 24 [184, 0, 161, 2, 130, 126, 172] := hs_bs_of _ _ _ (by decide +kernel)
theorem dX8_takenBy_24 : decode cX8_takenBy 24 = .ok (.invokestatic 161, 3) := dc184 bqX8_takenBy_24 0 rfl rfl rfl
theorem dX8_takenBy_27 : decode cX8_takenBy 27 = .ok (.iconst (-1), 1) := dc2 bqX8_takenBy_24 3 rfl rfl
theorem dX8_takenBy_28 : decode cX8_takenBy 28 = .ok (.ixor, 1) := dc130 bqX8_takenBy_24 4 rfl rfl
theorem dX8_takenBy_29 : decode cX8_takenBy 29 = .ok (.iand, 1) := dc126 bqX8_takenBy_24 5 rfl rfl
theorem dX8_takenBy_30 : decode cX8_takenBy 30 = .ok (.ireturn, 1) := dc172 bqX8_takenBy_24 6 rfl rfl
set_option maxRecDepth 20000 in
theorem gX8_chosen_X8_isPerson : GoodIn wsX8_chosen (wsV RX8 187 RX8 yX8_isPerson wsX8_isPerson) := hs_gC (hs_gV (hs_inG 5 52 rfl rfl) (hs_inG 5 54 rfl rfl) (hs_inG 0 38 rfl rfl) (hs_inG 1 8 rfl rfl) inC_X8_isPerson)
set_option maxRecDepth 20000 in
theorem gX8_chosen_X8_in : GoodIn wsX8_chosen (va_wsS RX8 71 yX8_in wsX8_in) := hs_gC (hs_gS (hs_inG 4 182 rfl rfl) (hs_inG 4 183 rfl rfl) (hs_inG 1 8 rfl rfl) inC_X8_in)
set_option maxRecDepth 20000 in
theorem gX8_chosen_X8_starts : GoodIn wsX8_chosen (wsV RX8 177 RX8 yX8_starts wsX8_starts) := hs_gC (hs_gV (hs_inG 5 32 rfl rfl) (hs_inG 5 34 rfl rfl) (hs_inG 0 35 rfl rfl) (hs_inG 1 8 rfl rfl) inC_X8_starts)
set_option maxRecDepth 20000 in
theorem gX8_chosen_X8_honestCut : GoodIn wsX8_chosen (wsV RX8 236 RX8 yX8_honestCut wsX8_honestCut) := hs_gC (hs_gV (hs_inG 5 159 rfl rfl) (hs_inG 5 161 rfl rfl) (hs_inG 0 47 rfl rfl) (hs_inG 1 8 rfl rfl) inC_X8_honestCut)
set_option maxRecDepth 20000 in
theorem gX8_chosen_X8_takenBy : GoodIn wsX8_chosen (wsV RX8 239 RX8 yX8_takenBy wsX8_takenBy) := hs_gC (hs_gV (hs_inG 5 168 rfl rfl) (hs_inG 5 170 rfl rfl) (hs_inG 0 48 rfl rfl) (hs_inG 1 8 rfl rfl) inC_X8_takenBy)
set_option maxRecDepth 20000 in
theorem gX8_chosen_X8_every : GoodIn wsX8_chosen (wsV RX8 158 RX8 yX8_every wsX8_every) := hs_gC (hs_gV (hs_inG 5 127 rfl rfl) (hs_inG 5 129 rfl rfl) (hs_inG 0 45 rfl rfl) (hs_inG 1 8 rfl rfl) inC_X8_every)
set_option maxRecDepth 20000 in
theorem gX8_chosen_X8_worthOfAll : GoodIn wsX8_chosen (wsV RX8 155 RX8 yX8_worthOfAll wsX8_worthOfAll) := hs_gC (hs_gV (hs_inG 5 100 rfl rfl) (hs_inG 5 102 rfl rfl) (hs_inG 0 40 rfl rfl) (hs_inG 1 8 rfl rfl) inC_X8_worthOfAll)
set_option maxRecDepth 20000 in
theorem gX8_chosen_X8_flag : GoodIn wsX8_chosen (va_wsS RX8 173 yX8_flag wsX8_flag) := hs_gC (hs_gS (hs_inG 5 142 rfl rfl) (hs_inG 5 143 rfl rfl) (hs_inG 1 8 rfl rfl) inC_X8_flag)
theorem bqX8_chosen_0 : hs_bs cX8_chosen 0 [42, 27, 182, 0, 187, 153, 0, 28, 42, 28, 182, 0, 187, 153, 0, 20, 27, 28, 159, 0, 15, 29, 133, 9] := hs_bs_of _ _ _ (by decide +kernel)
theorem dX8_chosen_0 : decode cX8_chosen 0 = .ok (.aload_n 0, 1) := dc42 bqX8_chosen_0 0 rfl rfl
theorem dX8_chosen_1 : decode cX8_chosen 1 = .ok (.iload_n 1, 1) := dc27 bqX8_chosen_0 1 rfl rfl
theorem dX8_chosen_2 : decode cX8_chosen 2 = .ok (.invokevirtual 187, 3) := dc182 bqX8_chosen_0 2 rfl rfl rfl
theorem dX8_chosen_5 : decode cX8_chosen 5 = .ok (.ifCond .eq 28, 3) := dc153 bqX8_chosen_0 5 rfl rfl rfl
theorem dX8_chosen_8 : decode cX8_chosen 8 = .ok (.aload_n 0, 1) := dc42 bqX8_chosen_0 8 rfl rfl
theorem dX8_chosen_9 : decode cX8_chosen 9 = .ok (.iload_n 2, 1) := dc28 bqX8_chosen_0 9 rfl rfl
theorem dX8_chosen_10 : decode cX8_chosen 10 = .ok (.invokevirtual 187, 3) := dc182 bqX8_chosen_0 10 rfl rfl rfl
theorem dX8_chosen_13 : decode cX8_chosen 13 = .ok (.ifCond .eq 20, 3) := dc153 bqX8_chosen_0 13 rfl rfl rfl
theorem dX8_chosen_16 : decode cX8_chosen 16 = .ok (.iload_n 1, 1) := dc27 bqX8_chosen_0 16 rfl rfl
theorem dX8_chosen_17 : decode cX8_chosen 17 = .ok (.iload_n 2, 1) := dc28 bqX8_chosen_0 17 rfl rfl
theorem dX8_chosen_18 : decode cX8_chosen 18 = .ok (.if_icmp .eq 15, 3) := dc159 bqX8_chosen_0 18 rfl rfl rfl
theorem dX8_chosen_21 : decode cX8_chosen 21 = .ok (.iload_n 3, 1) := dc29 bqX8_chosen_0 21 rfl rfl
theorem dX8_chosen_22 : decode cX8_chosen 22 = .ok (.i2l, 1) := dc133 bqX8_chosen_0 22 rfl rfl
theorem dX8_chosen_23 : decode cX8_chosen 23 = .ok (.lconst 0, 1) := dc9 bqX8_chosen_0 23 rfl rfl
theorem bqX8_chosen_24 : hs_bs cX8_chosen 24 [20, 0, 197, 184, 0, 71, 154, 0, 5, 2, 172, 42, 182, 0, 177, 42, 28, 42, 27, 182, 0, 236] := hs_bs_of _ _ _ (by decide +kernel)
theorem dX8_chosen_24 : decode cX8_chosen 24 = .ok (.ldc2_w 197, 3) := dc20 bqX8_chosen_24 0 rfl rfl rfl
theorem dX8_chosen_27 : decode cX8_chosen 27 = .ok (.invokestatic 71, 3) := dc184 bqX8_chosen_24 3 rfl rfl rfl
theorem dX8_chosen_30 : decode cX8_chosen 30 = .ok (.ifCond .ne 5, 3) := dc154 bqX8_chosen_24 6 rfl rfl rfl
theorem dX8_chosen_33 : decode cX8_chosen 33 = .ok (.iconst (-1), 1) := dc2 bqX8_chosen_24 9 rfl rfl
theorem dX8_chosen_34 : decode cX8_chosen 34 = .ok (.ireturn, 1) := dc172 bqX8_chosen_24 10 rfl rfl
theorem dX8_chosen_35 : decode cX8_chosen 35 = .ok (.aload_n 0, 1) := dc42 bqX8_chosen_24 11 rfl rfl
theorem dX8_chosen_36 : decode cX8_chosen 36 = .ok (.invokevirtual 177, 3) := dc182 bqX8_chosen_24 12 rfl rfl rfl
theorem dX8_chosen_39 : decode cX8_chosen 39 = .ok (.aload_n 0, 1) := dc42 bqX8_chosen_24 15 rfl rfl
theorem dX8_chosen_40 : decode cX8_chosen 40 = .ok (.iload_n 2, 1) := dc28 bqX8_chosen_24 16 rfl rfl
theorem dX8_chosen_41 : decode cX8_chosen 41 = .ok (.aload_n 0, 1) := dc42 bqX8_chosen_24 17 rfl rfl
theorem dX8_chosen_42 : decode cX8_chosen 42 = .ok (.iload_n 1, 1) := dc27 bqX8_chosen_24 18 rfl rfl
theorem dX8_chosen_43 : decode cX8_chosen 43 = .ok (.invokevirtual 236, 3) := dc182 bqX8_chosen_24 19 rfl rfl rfl
theorem bqX8_chosen_46 : hs_bs cX8_chosen 46 [182, 0, 239, 54, 4, 42, 182, 0, 158, 21, 4, 2, 130, 126, 54, 5, 29, 154, 0, 13, 42, 27, 21, 5] := hs_bs_of _ _ _ (by decide +kernel)
theorem dX8_chosen_46 : decode cX8_chosen 46 = .ok (.invokevirtual 239, 3) := dc182 bqX8_chosen_46 0 rfl rfl rfl
theorem dX8_chosen_49 : decode cX8_chosen 49 = .ok (.istore 4, 2) := dc54 bqX8_chosen_46 3 rfl rfl
theorem dX8_chosen_51 : decode cX8_chosen 51 = .ok (.aload_n 0, 1) := dc42 bqX8_chosen_46 5 rfl rfl
theorem dX8_chosen_52 : decode cX8_chosen 52 = .ok (.invokevirtual 158, 3) := dc182 bqX8_chosen_46 6 rfl rfl rfl
theorem dX8_chosen_55 : decode cX8_chosen 55 = .ok (.iload 4, 2) := dc21 bqX8_chosen_46 9 rfl rfl
theorem dX8_chosen_57 : decode cX8_chosen 57 = .ok (.iconst (-1), 1) := dc2 bqX8_chosen_46 11 rfl rfl
theorem dX8_chosen_58 : decode cX8_chosen 58 = .ok (.ixor, 1) := dc130 bqX8_chosen_46 12 rfl rfl
theorem dX8_chosen_59 : decode cX8_chosen 59 = .ok (.iand, 1) := dc126 bqX8_chosen_46 13 rfl rfl
theorem dX8_chosen_60 : decode cX8_chosen 60 = .ok (.istore 5, 2) := dc54 bqX8_chosen_46 14 rfl rfl
theorem dX8_chosen_62 : decode cX8_chosen 62 = .ok (.iload_n 3, 1) := dc29 bqX8_chosen_46 16 rfl rfl
theorem dX8_chosen_63 : decode cX8_chosen 63 = .ok (.ifCond .ne 13, 3) := dc154 bqX8_chosen_46 17 rfl rfl rfl
theorem dX8_chosen_66 : decode cX8_chosen 66 = .ok (.aload_n 0, 1) := dc42 bqX8_chosen_46 20 rfl rfl
theorem dX8_chosen_67 : decode cX8_chosen 67 = .ok (.iload_n 1, 1) := dc27 bqX8_chosen_46 21 rfl rfl
theorem dX8_chosen_68 : decode cX8_chosen 68 = .ok (.iload 5, 2) := dc21 bqX8_chosen_46 22 rfl rfl
theorem bqX8_chosen_70 : hs_bs cX8_chosen 70 [182, 0, 155, 167, 0, 43, 29, 4, 160, 0, 13, 42, 28, 21, 4, 182, 0, 155, 167, 0, 28, 42, 27] := hs_bs_of _ _ _ (by decide +kernel)
theorem dX8_chosen_70 : decode cX8_chosen 70 = .ok (.invokevirtual 155, 3) := dc182 bqX8_chosen_70 0 rfl rfl rfl
theorem dX8_chosen_73 : decode cX8_chosen 73 = .ok (.goto 43, 3) := dc167 bqX8_chosen_70 3 rfl rfl rfl
theorem dX8_chosen_76 : decode cX8_chosen 76 = .ok (.iload_n 3, 1) := dc29 bqX8_chosen_70 6 rfl rfl
theorem dX8_chosen_77 : decode cX8_chosen 77 = .ok (.iconst 1, 1) := dc4 bqX8_chosen_70 7 rfl rfl
theorem dX8_chosen_78 : decode cX8_chosen 78 = .ok (.if_icmp .ne 13, 3) := dc160 bqX8_chosen_70 8 rfl rfl rfl
theorem dX8_chosen_81 : decode cX8_chosen 81 = .ok (.aload_n 0, 1) := dc42 bqX8_chosen_70 11 rfl rfl
theorem dX8_chosen_82 : decode cX8_chosen 82 = .ok (.iload_n 2, 1) := dc28 bqX8_chosen_70 12 rfl rfl
theorem dX8_chosen_83 : decode cX8_chosen 83 = .ok (.iload 4, 2) := dc21 bqX8_chosen_70 13 rfl rfl
theorem dX8_chosen_85 : decode cX8_chosen 85 = .ok (.invokevirtual 155, 3) := dc182 bqX8_chosen_70 15 rfl rfl rfl
theorem dX8_chosen_88 : decode cX8_chosen 88 = .ok (.goto 28, 3) := dc167 bqX8_chosen_70 18 rfl rfl rfl
theorem dX8_chosen_91 : decode cX8_chosen 91 = .ok (.aload_n 0, 1) := dc42 bqX8_chosen_70 21 rfl rfl
theorem dX8_chosen_92 : decode cX8_chosen 92 = .ok (.iload_n 1, 1) := dc27 bqX8_chosen_70 22 rfl rfl
theorem bqX8_chosen_93 : hs_bs cX8_chosen 93 [21, 4, 182, 0, 155, 42, 27, 21, 5, 182, 0, 155, 164, 0, 7, 4, 167, 0, 4, 3, 184, 0, 173, 172] := hs_bs_of _ _ _ (by decide +kernel)
theorem dX8_chosen_93 : decode cX8_chosen 93 = .ok (.iload 4, 2) := dc21 bqX8_chosen_93 0 rfl rfl
theorem dX8_chosen_95 : decode cX8_chosen 95 = .ok (.invokevirtual 155, 3) := dc182 bqX8_chosen_93 2 rfl rfl rfl
theorem dX8_chosen_98 : decode cX8_chosen 98 = .ok (.aload_n 0, 1) := dc42 bqX8_chosen_93 5 rfl rfl
theorem dX8_chosen_99 : decode cX8_chosen 99 = .ok (.iload_n 1, 1) := dc27 bqX8_chosen_93 6 rfl rfl
theorem dX8_chosen_100 : decode cX8_chosen 100 = .ok (.iload 5, 2) := dc21 bqX8_chosen_93 7 rfl rfl
theorem dX8_chosen_102 : decode cX8_chosen 102 = .ok (.invokevirtual 155, 3) := dc182 bqX8_chosen_93 9 rfl rfl rfl
theorem dX8_chosen_105 : decode cX8_chosen 105 = .ok (.if_icmp .le 7, 3) := dc164 bqX8_chosen_93 12 rfl rfl rfl
theorem dX8_chosen_108 : decode cX8_chosen 108 = .ok (.iconst 1, 1) := dc4 bqX8_chosen_93 15 rfl rfl
theorem dX8_chosen_109 : decode cX8_chosen 109 = .ok (.goto 4, 3) := dc167 bqX8_chosen_93 16 rfl rfl rfl
theorem dX8_chosen_112 : decode cX8_chosen 112 = .ok (.iconst 0, 1) := dc3 bqX8_chosen_93 19 rfl rfl
theorem dX8_chosen_113 : decode cX8_chosen 113 = .ok (.invokestatic 173, 3) := dc184 bqX8_chosen_93 20 rfl rfl rfl
theorem dX8_chosen_116 : decode cX8_chosen 116 = .ok (.ireturn, 1) := dc172 bqX8_chosen_93 23 rfl rfl
set_option maxRecDepth 20000 in
theorem gX8_sly_X8_isPerson : GoodIn wsX8_sly (wsV RX8 187 RX8 yX8_isPerson wsX8_isPerson) := hs_gC (hs_gV (hs_inG 5 52 rfl rfl) (hs_inG 5 54 rfl rfl) (hs_inG 0 38 rfl rfl) (hs_inG 1 8 rfl rfl) inC_X8_isPerson)
set_option maxRecDepth 20000 in
theorem gX8_sly_X8_isPart : GoodIn wsX8_sly (va_wsS RX8 229 yX8_isPart wsX8_isPart) := hs_gC (hs_gS (hs_inG 5 149 rfl rfl) (hs_inG 5 150 rfl rfl) (hs_inG 1 8 rfl rfl) inC_X8_isPart)
set_option maxRecDepth 20000 in
theorem gX8_sly_X8_starts : GoodIn wsX8_sly (wsV RX8 177 RX8 yX8_starts wsX8_starts) := hs_gC (hs_gV (hs_inG 5 32 rfl rfl) (hs_inG 5 34 rfl rfl) (hs_inG 0 35 rfl rfl) (hs_inG 1 8 rfl rfl) inC_X8_starts)
set_option maxRecDepth 20000 in
theorem gX8_sly_X8_every : GoodIn wsX8_sly (wsV RX8 158 RX8 yX8_every wsX8_every) := hs_gC (hs_gV (hs_inG 5 127 rfl rfl) (hs_inG 5 129 rfl rfl) (hs_inG 0 45 rfl rfl) (hs_inG 1 8 rfl rfl) inC_X8_every)
set_option maxRecDepth 20000 in
theorem gX8_sly_X8_takenBy : GoodIn wsX8_sly (wsV RX8 239 RX8 yX8_takenBy wsX8_takenBy) := hs_gC (hs_gV (hs_inG 5 168 rfl rfl) (hs_inG 5 170 rfl rfl) (hs_inG 0 48 rfl rfl) (hs_inG 1 8 rfl rfl) inC_X8_takenBy)
set_option maxRecDepth 20000 in
theorem gX8_sly_X8_worthOfAll : GoodIn wsX8_sly (wsV RX8 155 RX8 yX8_worthOfAll wsX8_worthOfAll) := hs_gC (hs_gV (hs_inG 5 100 rfl rfl) (hs_inG 5 102 rfl rfl) (hs_inG 0 40 rfl rfl) (hs_inG 1 8 rfl rfl) inC_X8_worthOfAll)
theorem bqX8_sly_0 : hs_bs cX8_sly 0 [42, 27, 182, 0, 187, 153, 0, 23, 42, 28, 182, 0, 187, 153, 0, 15, 27, 28, 159, 0, 10, 29] := hs_bs_of _ _ _ (by decide +kernel)
theorem dX8_sly_0 : decode cX8_sly 0 = .ok (.aload_n 0, 1) := dc42 bqX8_sly_0 0 rfl rfl
theorem dX8_sly_1 : decode cX8_sly 1 = .ok (.iload_n 1, 1) := dc27 bqX8_sly_0 1 rfl rfl
theorem dX8_sly_2 : decode cX8_sly 2 = .ok (.invokevirtual 187, 3) := dc182 bqX8_sly_0 2 rfl rfl rfl
theorem dX8_sly_5 : decode cX8_sly 5 = .ok (.ifCond .eq 23, 3) := dc153 bqX8_sly_0 5 rfl rfl rfl
theorem dX8_sly_8 : decode cX8_sly 8 = .ok (.aload_n 0, 1) := dc42 bqX8_sly_0 8 rfl rfl
theorem dX8_sly_9 : decode cX8_sly 9 = .ok (.iload_n 2, 1) := dc28 bqX8_sly_0 9 rfl rfl
theorem dX8_sly_10 : decode cX8_sly 10 = .ok (.invokevirtual 187, 3) := dc182 bqX8_sly_0 10 rfl rfl rfl
theorem dX8_sly_13 : decode cX8_sly 13 = .ok (.ifCond .eq 15, 3) := dc153 bqX8_sly_0 13 rfl rfl rfl
theorem dX8_sly_16 : decode cX8_sly 16 = .ok (.iload_n 1, 1) := dc27 bqX8_sly_0 16 rfl rfl
theorem dX8_sly_17 : decode cX8_sly 17 = .ok (.iload_n 2, 1) := dc28 bqX8_sly_0 17 rfl rfl
theorem dX8_sly_18 : decode cX8_sly 18 = .ok (.if_icmp .eq 10, 3) := dc159 bqX8_sly_0 18 rfl rfl rfl
theorem dX8_sly_21 : decode cX8_sly 21 = .ok (.iload_n 3, 1) := dc29 bqX8_sly_0 21 rfl rfl
theorem bqX8_sly_22 : hs_bs cX8_sly 22 [184, 0, 229, 154, 0, 5, 2, 172, 42, 182, 0, 177, 2, 54, 4, 4, 54, 5, 4, 54, 6, 21, 6, 42] := hs_bs_of _ _ _ (by decide +kernel)
theorem dX8_sly_22 : decode cX8_sly 22 = .ok (.invokestatic 229, 3) := dc184 bqX8_sly_22 0 rfl rfl rfl
theorem dX8_sly_25 : decode cX8_sly 25 = .ok (.ifCond .ne 5, 3) := dc154 bqX8_sly_22 3 rfl rfl rfl
theorem dX8_sly_28 : decode cX8_sly 28 = .ok (.iconst (-1), 1) := dc2 bqX8_sly_22 6 rfl rfl
theorem dX8_sly_29 : decode cX8_sly 29 = .ok (.ireturn, 1) := dc172 bqX8_sly_22 7 rfl rfl
theorem dX8_sly_30 : decode cX8_sly 30 = .ok (.aload_n 0, 1) := dc42 bqX8_sly_22 8 rfl rfl
theorem dX8_sly_31 : decode cX8_sly 31 = .ok (.invokevirtual 177, 3) := dc182 bqX8_sly_22 9 rfl rfl rfl
theorem dX8_sly_34 : decode cX8_sly 34 = .ok (.iconst (-1), 1) := dc2 bqX8_sly_22 12 rfl rfl
theorem dX8_sly_35 : decode cX8_sly 35 = .ok (.istore 4, 2) := dc54 bqX8_sly_22 13 rfl rfl
theorem dX8_sly_37 : decode cX8_sly 37 = .ok (.iconst 1, 1) := dc4 bqX8_sly_22 15 rfl rfl
theorem dX8_sly_38 : decode cX8_sly 38 = .ok (.istore 5, 2) := dc54 bqX8_sly_22 16 rfl rfl
theorem dX8_sly_40 : decode cX8_sly 40 = .ok (.iconst 1, 1) := dc4 bqX8_sly_22 18 rfl rfl
theorem dX8_sly_41 : decode cX8_sly 41 = .ok (.istore 6, 2) := dc54 bqX8_sly_22 19 rfl rfl
theorem dX8_sly_43 : decode cX8_sly 43 = .ok (.iload 6, 2) := dc21 bqX8_sly_22 21 rfl rfl
theorem dX8_sly_45 : decode cX8_sly 45 = .ok (.aload_n 0, 1) := dc42 bqX8_sly_22 23 rfl rfl
theorem bqX8_sly_46 : hs_bs cX8_sly 46 [180, 0, 13, 3, 46, 162, 0, 62, 42, 27, 42, 182, 0, 158, 42, 28, 21, 6, 182, 0, 239, 2, 130, 126] := hs_bs_of _ _ _ (by decide +kernel)
theorem dX8_sly_46 : decode cX8_sly 46 = .ok (.getfield 13, 3) := dc180 bqX8_sly_46 0 rfl rfl rfl
theorem dX8_sly_49 : decode cX8_sly 49 = .ok (.iconst 0, 1) := dc3 bqX8_sly_46 3 rfl rfl
theorem dX8_sly_50 : decode cX8_sly 50 = .ok (.iaload, 1) := dc46 bqX8_sly_46 4 rfl rfl
theorem dX8_sly_51 : decode cX8_sly 51 = .ok (.if_icmp .ge 62, 3) := dc162 bqX8_sly_46 5 rfl rfl rfl
theorem dX8_sly_54 : decode cX8_sly 54 = .ok (.aload_n 0, 1) := dc42 bqX8_sly_46 8 rfl rfl
theorem dX8_sly_55 : decode cX8_sly 55 = .ok (.iload_n 1, 1) := dc27 bqX8_sly_46 9 rfl rfl
theorem dX8_sly_56 : decode cX8_sly 56 = .ok (.aload_n 0, 1) := dc42 bqX8_sly_46 10 rfl rfl
theorem dX8_sly_57 : decode cX8_sly 57 = .ok (.invokevirtual 158, 3) := dc182 bqX8_sly_46 11 rfl rfl rfl
theorem dX8_sly_60 : decode cX8_sly 60 = .ok (.aload_n 0, 1) := dc42 bqX8_sly_46 14 rfl rfl
theorem dX8_sly_61 : decode cX8_sly 61 = .ok (.iload_n 2, 1) := dc28 bqX8_sly_46 15 rfl rfl
theorem dX8_sly_62 : decode cX8_sly 62 = .ok (.iload 6, 2) := dc21 bqX8_sly_46 16 rfl rfl
theorem dX8_sly_64 : decode cX8_sly 64 = .ok (.invokevirtual 239, 3) := dc182 bqX8_sly_46 18 rfl rfl rfl
theorem dX8_sly_67 : decode cX8_sly 67 = .ok (.iconst (-1), 1) := dc2 bqX8_sly_46 21 rfl rfl
theorem dX8_sly_68 : decode cX8_sly 68 = .ok (.ixor, 1) := dc130 bqX8_sly_46 22 rfl rfl
theorem dX8_sly_69 : decode cX8_sly 69 = .ok (.iand, 1) := dc126 bqX8_sly_46 23 rfl rfl
theorem bqX8_sly_70 : hs_bs cX8_sly 70 [182, 0, 155, 54, 7, 21, 7, 21, 4, 164, 0, 8, 21, 6, 167, 0, 5, 21, 5, 54, 5, 21, 7] := hs_bs_of _ _ _ (by decide +kernel)
theorem dX8_sly_70 : decode cX8_sly 70 = .ok (.invokevirtual 155, 3) := dc182 bqX8_sly_70 0 rfl rfl rfl
theorem dX8_sly_73 : decode cX8_sly 73 = .ok (.istore 7, 2) := dc54 bqX8_sly_70 3 rfl rfl
theorem dX8_sly_75 : decode cX8_sly 75 = .ok (.iload 7, 2) := dc21 bqX8_sly_70 5 rfl rfl
theorem dX8_sly_77 : decode cX8_sly 77 = .ok (.iload 4, 2) := dc21 bqX8_sly_70 7 rfl rfl
theorem dX8_sly_79 : decode cX8_sly 79 = .ok (.if_icmp .le 8, 3) := dc164 bqX8_sly_70 9 rfl rfl rfl
theorem dX8_sly_82 : decode cX8_sly 82 = .ok (.iload 6, 2) := dc21 bqX8_sly_70 12 rfl rfl
theorem dX8_sly_84 : decode cX8_sly 84 = .ok (.goto 5, 3) := dc167 bqX8_sly_70 14 rfl rfl rfl
theorem dX8_sly_87 : decode cX8_sly 87 = .ok (.iload 5, 2) := dc21 bqX8_sly_70 17 rfl rfl
theorem dX8_sly_89 : decode cX8_sly 89 = .ok (.istore 5, 2) := dc54 bqX8_sly_70 19 rfl rfl
theorem dX8_sly_91 : decode cX8_sly 91 = .ok (.iload 7, 2) := dc21 bqX8_sly_70 21 rfl rfl
theorem bqX8_sly_93 : hs_bs cX8_sly 93 [21, 4, 164, 0, 8, 21, 7, 167, 0, 5, 21, 4, 54, 4, 132, 6, 1, 167, 255, 189, 29, 154, 0, 8] := hs_bs_of _ _ _ (by decide +kernel)
theorem dX8_sly_93 : decode cX8_sly 93 = .ok (.iload 4, 2) := dc21 bqX8_sly_93 0 rfl rfl
theorem dX8_sly_95 : decode cX8_sly 95 = .ok (.if_icmp .le 8, 3) := dc164 bqX8_sly_93 2 rfl rfl rfl
theorem dX8_sly_98 : decode cX8_sly 98 = .ok (.iload 7, 2) := dc21 bqX8_sly_93 5 rfl rfl
theorem dX8_sly_100 : decode cX8_sly 100 = .ok (.goto 5, 3) := dc167 bqX8_sly_93 7 rfl rfl rfl
theorem dX8_sly_103 : decode cX8_sly 103 = .ok (.iload 4, 2) := dc21 bqX8_sly_93 10 rfl rfl
theorem dX8_sly_105 : decode cX8_sly 105 = .ok (.istore 4, 2) := dc54 bqX8_sly_93 12 rfl rfl
theorem dX8_sly_107 : decode cX8_sly 107 = .ok (.iinc 6 1, 3) := dc132 bqX8_sly_93 14 rfl rfl rfl
theorem dX8_sly_110 : decode cX8_sly 110 = .ok (.goto (-67), 3) := dc167 bqX8_sly_93 17 rfl rfl rfl
theorem dX8_sly_113 : decode cX8_sly 113 = .ok (.iload_n 3, 1) := dc29 bqX8_sly_93 20 rfl rfl
theorem dX8_sly_114 : decode cX8_sly 114 = .ok (.ifCond .ne 8, 3) := dc154 bqX8_sly_93 21 rfl rfl rfl
theorem bqX8_sly_117 : hs_bs cX8_sly 117 [21, 5, 167, 0, 5, 21, 4, 172] := hs_bs_of _ _ _ (by decide +kernel)
theorem dX8_sly_117 : decode cX8_sly 117 = .ok (.iload 5, 2) := dc21 bqX8_sly_117 0 rfl rfl
theorem dX8_sly_119 : decode cX8_sly 119 = .ok (.goto 5, 3) := dc167 bqX8_sly_117 2 rfl rfl rfl
theorem dX8_sly_122 : decode cX8_sly 122 = .ok (.iload 4, 2) := dc21 bqX8_sly_117 5 rfl rfl
theorem dX8_sly_124 : decode cX8_sly 124 = .ok (.ireturn, 1) := dc172 bqX8_sly_117 7 rfl rfl
set_option maxRecDepth 20000 in
theorem gX8_cutsOf_X8_flag : GoodIn wsX8_cutsOf (va_wsS RX8 173 yX8_flag wsX8_flag) := hs_gC (hs_gS (hs_inG 5 142 rfl rfl) (hs_inG 5 143 rfl rfl) (hs_inG 1 8 rfl rfl) inC_X8_flag)
theorem bqX8_cutsOf_0 : hs_bs cX8_cutsOf 0 [3, 61, 4, 62, 29, 42, 180, 0, 13, 3, 46, 162, 0, 35, 28, 27, 29, 122, 4, 126, 27, 29, 4, 100] := hs_bs_of _ _ _ (by decide +kernel)
theorem dX8_cutsOf_0 : decode cX8_cutsOf 0 = .ok (.iconst 0, 1) := dc3 bqX8_cutsOf_0 0 rfl rfl
theorem dX8_cutsOf_1 : decode cX8_cutsOf 1 = .ok (.istore_n 2, 1) := dc61 bqX8_cutsOf_0 1 rfl rfl
theorem dX8_cutsOf_2 : decode cX8_cutsOf 2 = .ok (.iconst 1, 1) := dc4 bqX8_cutsOf_0 2 rfl rfl
theorem dX8_cutsOf_3 : decode cX8_cutsOf 3 = .ok (.istore_n 3, 1) := dc62 bqX8_cutsOf_0 3 rfl rfl
theorem dX8_cutsOf_4 : decode cX8_cutsOf 4 = .ok (.iload_n 3, 1) := dc29 bqX8_cutsOf_0 4 rfl rfl
theorem dX8_cutsOf_5 : decode cX8_cutsOf 5 = .ok (.aload_n 0, 1) := dc42 bqX8_cutsOf_0 5 rfl rfl
theorem dX8_cutsOf_6 : decode cX8_cutsOf 6 = .ok (.getfield 13, 3) := dc180 bqX8_cutsOf_0 6 rfl rfl rfl
theorem dX8_cutsOf_9 : decode cX8_cutsOf 9 = .ok (.iconst 0, 1) := dc3 bqX8_cutsOf_0 9 rfl rfl
theorem dX8_cutsOf_10 : decode cX8_cutsOf 10 = .ok (.iaload, 1) := dc46 bqX8_cutsOf_0 10 rfl rfl
theorem dX8_cutsOf_11 : decode cX8_cutsOf 11 = .ok (.if_icmp .ge 35, 3) := dc162 bqX8_cutsOf_0 11 rfl rfl rfl
theorem dX8_cutsOf_14 : decode cX8_cutsOf 14 = .ok (.iload_n 2, 1) := dc28 bqX8_cutsOf_0 14 rfl rfl
theorem dX8_cutsOf_15 : decode cX8_cutsOf 15 = .ok (.iload_n 1, 1) := dc27 bqX8_cutsOf_0 15 rfl rfl
theorem dX8_cutsOf_16 : decode cX8_cutsOf 16 = .ok (.iload_n 3, 1) := dc29 bqX8_cutsOf_0 16 rfl rfl
theorem dX8_cutsOf_17 : decode cX8_cutsOf 17 = .ok (.ishr, 1) := dc122 bqX8_cutsOf_0 17 rfl rfl
theorem dX8_cutsOf_18 : decode cX8_cutsOf 18 = .ok (.iconst 1, 1) := dc4 bqX8_cutsOf_0 18 rfl rfl
theorem dX8_cutsOf_19 : decode cX8_cutsOf 19 = .ok (.iand, 1) := dc126 bqX8_cutsOf_0 19 rfl rfl
theorem dX8_cutsOf_20 : decode cX8_cutsOf 20 = .ok (.iload_n 1, 1) := dc27 bqX8_cutsOf_0 20 rfl rfl
theorem dX8_cutsOf_21 : decode cX8_cutsOf 21 = .ok (.iload_n 3, 1) := dc29 bqX8_cutsOf_0 21 rfl rfl
theorem dX8_cutsOf_22 : decode cX8_cutsOf 22 = .ok (.iconst 1, 1) := dc4 bqX8_cutsOf_0 22 rfl rfl
theorem dX8_cutsOf_23 : decode cX8_cutsOf 23 = .ok (.isub, 1) := dc100 bqX8_cutsOf_0 23 rfl rfl
theorem bqX8_cutsOf_24 : hs_bs cX8_cutsOf 24 [122, 4, 126, 159, 0, 7, 4, 167, 0, 4, 3, 184, 0, 173, 96, 61, 132, 3, 1, 167, 255, 217, 28, 172] := hs_bs_of _ _ _ (by decide +kernel)
theorem dX8_cutsOf_24 : decode cX8_cutsOf 24 = .ok (.ishr, 1) := dc122 bqX8_cutsOf_24 0 rfl rfl
theorem dX8_cutsOf_25 : decode cX8_cutsOf 25 = .ok (.iconst 1, 1) := dc4 bqX8_cutsOf_24 1 rfl rfl
theorem dX8_cutsOf_26 : decode cX8_cutsOf 26 = .ok (.iand, 1) := dc126 bqX8_cutsOf_24 2 rfl rfl
theorem dX8_cutsOf_27 : decode cX8_cutsOf 27 = .ok (.if_icmp .eq 7, 3) := dc159 bqX8_cutsOf_24 3 rfl rfl rfl
theorem dX8_cutsOf_30 : decode cX8_cutsOf 30 = .ok (.iconst 1, 1) := dc4 bqX8_cutsOf_24 6 rfl rfl
theorem dX8_cutsOf_31 : decode cX8_cutsOf 31 = .ok (.goto 4, 3) := dc167 bqX8_cutsOf_24 7 rfl rfl rfl
theorem dX8_cutsOf_34 : decode cX8_cutsOf 34 = .ok (.iconst 0, 1) := dc3 bqX8_cutsOf_24 10 rfl rfl
theorem dX8_cutsOf_35 : decode cX8_cutsOf 35 = .ok (.invokestatic 173, 3) := dc184 bqX8_cutsOf_24 11 rfl rfl rfl
theorem dX8_cutsOf_38 : decode cX8_cutsOf 38 = .ok (.iadd, 1) := dc96 bqX8_cutsOf_24 14 rfl rfl
theorem dX8_cutsOf_39 : decode cX8_cutsOf 39 = .ok (.istore_n 2, 1) := dc61 bqX8_cutsOf_24 15 rfl rfl
theorem dX8_cutsOf_40 : decode cX8_cutsOf 40 = .ok (.iinc 3 1, 3) := dc132 bqX8_cutsOf_24 16 rfl rfl rfl
theorem dX8_cutsOf_43 : decode cX8_cutsOf 43 = .ok (.goto (-39), 3) := dc167 bqX8_cutsOf_24 19 rfl rfl rfl
theorem dX8_cutsOf_46 : decode cX8_cutsOf 46 = .ok (.iload_n 2, 1) := dc28 bqX8_cutsOf_24 22 rfl rfl
theorem dX8_cutsOf_47 : decode cX8_cutsOf 47 = .ok (.ireturn, 1) := dc172 bqX8_cutsOf_24 23 rfl rfl
set_option maxRecDepth 20000 in
theorem gX8_halves_X8_in : GoodIn wsX8_halves (va_wsS RX8 71 yX8_in wsX8_in) := hs_gC (hs_gS (hs_inG 4 182 rfl rfl) (hs_inG 4 183 rfl rfl) (hs_inG 1 8 rfl rfl) inC_X8_in)
set_option maxRecDepth 20000 in
theorem gX8_halves_X8_isPart : GoodIn wsX8_halves (va_wsS RX8 229 yX8_isPart wsX8_isPart) := hs_gC (hs_gS (hs_inG 5 149 rfl rfl) (hs_inG 5 150 rfl rfl) (hs_inG 1 8 rfl rfl) inC_X8_isPart)
set_option maxRecDepth 20000 in
theorem gX8_halves_X8_starts : GoodIn wsX8_halves (wsV RX8 177 RX8 yX8_starts wsX8_starts) := hs_gC (hs_gV (hs_inG 5 32 rfl rfl) (hs_inG 5 34 rfl rfl) (hs_inG 0 35 rfl rfl) (hs_inG 1 8 rfl rfl) inC_X8_starts)
set_option maxRecDepth 20000 in
theorem gX8_halves_X8_every : GoodIn wsX8_halves (wsV RX8 158 RX8 yX8_every wsX8_every) := hs_gC (hs_gV (hs_inG 5 127 rfl rfl) (hs_inG 5 129 rfl rfl) (hs_inG 0 45 rfl rfl) (hs_inG 1 8 rfl rfl) inC_X8_every)
set_option maxRecDepth 20000 in
theorem gX8_halves_X8_cutsOf : GoodIn wsX8_halves (wsV RX8 242 RX8 yX8_cutsOf wsX8_cutsOf) := hs_gC (hs_gV (hs_inG 5 180 rfl rfl) (hs_inG 5 182 rfl rfl) (hs_inG 0 49 rfl rfl) (hs_inG 1 8 rfl rfl) inC_X8_cutsOf)
set_option maxRecDepth 20000 in
theorem gX8_halves_X8_moreLeft : GoodIn wsX8_halves (wsV RX8 164 RX8 yX8_moreLeft wsX8_moreLeft) := hs_gC (hs_gV (hs_inG 5 123 rfl rfl) (hs_inG 5 125 rfl rfl) (hs_inG 0 44 rfl rfl) (hs_inG 1 8 rfl rfl) inC_X8_moreLeft)
set_option maxRecDepth 20000 in
theorem gX8_halves_X8_sizeOf : GoodIn wsX8_halves (va_wsS RX8 167 yX8_sizeOf wsX8_sizeOf) := hs_gC (hs_gS (hs_inG 5 131 rfl rfl) (hs_inG 5 132 rfl rfl) (hs_inG 1 8 rfl rfl) inC_X8_sizeOf)
theorem bqX8_halves_0 : hs_bs cX8_halves 0 [27, 133, 9, 4, 42, 180, 0, 63, 120, 4, 100, 133, 184, 0, 71, 153, 0, 10, 28, 184, 0, 229] := hs_bs_of _ _ _ (by decide +kernel)
theorem dX8_halves_0 : decode cX8_halves 0 = .ok (.iload_n 1, 1) := dc27 bqX8_halves_0 0 rfl rfl
theorem dX8_halves_1 : decode cX8_halves 1 = .ok (.i2l, 1) := dc133 bqX8_halves_0 1 rfl rfl
theorem dX8_halves_2 : decode cX8_halves 2 = .ok (.lconst 0, 1) := dc9 bqX8_halves_0 2 rfl rfl
theorem dX8_halves_3 : decode cX8_halves 3 = .ok (.iconst 1, 1) := dc4 bqX8_halves_0 3 rfl rfl
theorem dX8_halves_4 : decode cX8_halves 4 = .ok (.aload_n 0, 1) := dc42 bqX8_halves_0 4 rfl rfl
theorem dX8_halves_5 : decode cX8_halves 5 = .ok (.getfield 63, 3) := dc180 bqX8_halves_0 5 rfl rfl rfl
theorem dX8_halves_8 : decode cX8_halves 8 = .ok (.ishl, 1) := dc120 bqX8_halves_0 8 rfl rfl
theorem dX8_halves_9 : decode cX8_halves 9 = .ok (.iconst 1, 1) := dc4 bqX8_halves_0 9 rfl rfl
theorem dX8_halves_10 : decode cX8_halves 10 = .ok (.isub, 1) := dc100 bqX8_halves_0 10 rfl rfl
theorem dX8_halves_11 : decode cX8_halves 11 = .ok (.i2l, 1) := dc133 bqX8_halves_0 11 rfl rfl
theorem dX8_halves_12 : decode cX8_halves 12 = .ok (.invokestatic 71, 3) := dc184 bqX8_halves_0 12 rfl rfl rfl
theorem dX8_halves_15 : decode cX8_halves 15 = .ok (.ifCond .eq 10, 3) := dc153 bqX8_halves_0 15 rfl rfl rfl
theorem dX8_halves_18 : decode cX8_halves 18 = .ok (.iload_n 2, 1) := dc28 bqX8_halves_0 18 rfl rfl
theorem dX8_halves_19 : decode cX8_halves 19 = .ok (.invokestatic 229, 3) := dc184 bqX8_halves_0 19 rfl rfl rfl
theorem bqX8_halves_22 : hs_bs cX8_halves 22 [154, 0, 5, 2, 172, 42, 182, 0, 177, 18, 235, 62, 16, 252, 54, 4, 3, 54, 5, 21, 5, 42] := hs_bs_of _ _ _ (by decide +kernel)
theorem dX8_halves_22 : decode cX8_halves 22 = .ok (.ifCond .ne 5, 3) := dc154 bqX8_halves_22 0 rfl rfl rfl
theorem dX8_halves_25 : decode cX8_halves 25 = .ok (.iconst (-1), 1) := dc2 bqX8_halves_22 3 rfl rfl
theorem dX8_halves_26 : decode cX8_halves 26 = .ok (.ireturn, 1) := dc172 bqX8_halves_22 4 rfl rfl
theorem dX8_halves_27 : decode cX8_halves 27 = .ok (.aload_n 0, 1) := dc42 bqX8_halves_22 5 rfl rfl
theorem dX8_halves_28 : decode cX8_halves 28 = .ok (.invokevirtual 177, 3) := dc182 bqX8_halves_22 6 rfl rfl rfl
theorem dX8_halves_31 : decode cX8_halves 31 = .ok (.ldc 235, 2) := dc18 bqX8_halves_22 9 rfl rfl
theorem dX8_halves_33 : decode cX8_halves 33 = .ok (.istore_n 3, 1) := dc62 bqX8_halves_22 11 rfl rfl
theorem dX8_halves_34 : decode cX8_halves 34 = .ok (.bipush (-4), 2) := dc16 bqX8_halves_22 12 rfl rfl rfl
theorem dX8_halves_36 : decode cX8_halves 36 = .ok (.istore 4, 2) := dc54 bqX8_halves_22 14 rfl rfl
theorem dX8_halves_38 : decode cX8_halves 38 = .ok (.iconst 0, 1) := dc3 bqX8_halves_22 16 rfl rfl
theorem dX8_halves_39 : decode cX8_halves 39 = .ok (.istore 5, 2) := dc54 bqX8_halves_22 17 rfl rfl
theorem dX8_halves_41 : decode cX8_halves 41 = .ok (.iload 5, 2) := dc21 bqX8_halves_22 19 rfl rfl
theorem dX8_halves_43 : decode cX8_halves 43 = .ok (.aload_n 0, 1) := dc42 bqX8_halves_22 21 rfl rfl
theorem bqX8_halves_44 : hs_bs cX8_halves 44 [182, 0, 158, 163, 0, 116, 42, 21, 5, 182, 0, 242, 29, 162, 0, 7, 4, 167, 0, 4, 3, 54, 6, 3] := hs_bs_of _ _ _ (by decide +kernel)
theorem dX8_halves_44 : decode cX8_halves 44 = .ok (.invokevirtual 158, 3) := dc182 bqX8_halves_44 0 rfl rfl rfl
theorem dX8_halves_47 : decode cX8_halves 47 = .ok (.if_icmp .gt 116, 3) := dc163 bqX8_halves_44 3 rfl rfl rfl
theorem dX8_halves_50 : decode cX8_halves 50 = .ok (.aload_n 0, 1) := dc42 bqX8_halves_44 6 rfl rfl
theorem dX8_halves_51 : decode cX8_halves 51 = .ok (.iload 5, 2) := dc21 bqX8_halves_44 7 rfl rfl
theorem dX8_halves_53 : decode cX8_halves 53 = .ok (.invokevirtual 242, 3) := dc182 bqX8_halves_44 9 rfl rfl rfl
theorem dX8_halves_56 : decode cX8_halves 56 = .ok (.iload_n 3, 1) := dc29 bqX8_halves_44 12 rfl rfl
theorem dX8_halves_57 : decode cX8_halves 57 = .ok (.if_icmp .ge 7, 3) := dc162 bqX8_halves_44 13 rfl rfl rfl
theorem dX8_halves_60 : decode cX8_halves 60 = .ok (.iconst 1, 1) := dc4 bqX8_halves_44 16 rfl rfl
theorem dX8_halves_61 : decode cX8_halves 61 = .ok (.goto 4, 3) := dc167 bqX8_halves_44 17 rfl rfl rfl
theorem dX8_halves_64 : decode cX8_halves 64 = .ok (.iconst 0, 1) := dc3 bqX8_halves_44 20 rfl rfl
theorem dX8_halves_65 : decode cX8_halves 65 = .ok (.istore 6, 2) := dc54 bqX8_halves_44 21 rfl rfl
theorem dX8_halves_67 : decode cX8_halves 67 = .ok (.iconst 0, 1) := dc3 bqX8_halves_44 23 rfl rfl
theorem bqX8_halves_68 : hs_bs cX8_halves 68 [54, 7, 21, 7, 42, 180, 0, 63, 162, 0, 51, 21, 6, 153, 0, 37, 27, 21, 7, 122, 4, 126] := hs_bs_of _ _ _ (by decide +kernel)
theorem dX8_halves_68 : decode cX8_halves 68 = .ok (.istore 7, 2) := dc54 bqX8_halves_68 0 rfl rfl
theorem dX8_halves_70 : decode cX8_halves 70 = .ok (.iload 7, 2) := dc21 bqX8_halves_68 2 rfl rfl
theorem dX8_halves_72 : decode cX8_halves 72 = .ok (.aload_n 0, 1) := dc42 bqX8_halves_68 4 rfl rfl
theorem dX8_halves_73 : decode cX8_halves 73 = .ok (.getfield 63, 3) := dc180 bqX8_halves_68 5 rfl rfl rfl
theorem dX8_halves_76 : decode cX8_halves 76 = .ok (.if_icmp .ge 51, 3) := dc162 bqX8_halves_68 8 rfl rfl rfl
theorem dX8_halves_79 : decode cX8_halves 79 = .ok (.iload 6, 2) := dc21 bqX8_halves_68 11 rfl rfl
theorem dX8_halves_81 : decode cX8_halves 81 = .ok (.ifCond .eq 37, 3) := dc153 bqX8_halves_68 13 rfl rfl rfl
theorem dX8_halves_84 : decode cX8_halves 84 = .ok (.iload_n 1, 1) := dc27 bqX8_halves_68 16 rfl rfl
theorem dX8_halves_85 : decode cX8_halves 85 = .ok (.iload 7, 2) := dc21 bqX8_halves_68 17 rfl rfl
theorem dX8_halves_87 : decode cX8_halves 87 = .ok (.ishr, 1) := dc122 bqX8_halves_68 19 rfl rfl
theorem dX8_halves_88 : decode cX8_halves 88 = .ok (.iconst 1, 1) := dc4 bqX8_halves_68 20 rfl rfl
theorem dX8_halves_89 : decode cX8_halves 89 = .ok (.iand, 1) := dc126 bqX8_halves_68 21 rfl rfl
theorem bqX8_halves_90 : hs_bs cX8_halves 90 [153, 0, 24, 42, 21, 7, 21, 5, 182, 0, 164, 184, 0, 167, 42, 180, 0, 13, 16, 13, 46, 163, 0, 7] := hs_bs_of _ _ _ (by decide +kernel)
theorem dX8_halves_90 : decode cX8_halves 90 = .ok (.ifCond .eq 24, 3) := dc153 bqX8_halves_90 0 rfl rfl rfl
theorem dX8_halves_93 : decode cX8_halves 93 = .ok (.aload_n 0, 1) := dc42 bqX8_halves_90 3 rfl rfl
theorem dX8_halves_94 : decode cX8_halves 94 = .ok (.iload 7, 2) := dc21 bqX8_halves_90 4 rfl rfl
theorem dX8_halves_96 : decode cX8_halves 96 = .ok (.iload 5, 2) := dc21 bqX8_halves_90 6 rfl rfl
theorem dX8_halves_98 : decode cX8_halves 98 = .ok (.invokevirtual 164, 3) := dc182 bqX8_halves_90 8 rfl rfl rfl
theorem dX8_halves_101 : decode cX8_halves 101 = .ok (.invokestatic 167, 3) := dc184 bqX8_halves_90 11 rfl rfl rfl
theorem dX8_halves_104 : decode cX8_halves 104 = .ok (.aload_n 0, 1) := dc42 bqX8_halves_90 14 rfl rfl
theorem dX8_halves_105 : decode cX8_halves 105 = .ok (.getfield 13, 3) := dc180 bqX8_halves_90 15 rfl rfl rfl
theorem dX8_halves_108 : decode cX8_halves 108 = .ok (.bipush 13, 2) := dc16 bqX8_halves_90 18 rfl rfl rfl
theorem dX8_halves_110 : decode cX8_halves 110 = .ok (.iaload, 1) := dc46 bqX8_halves_90 20 rfl rfl
theorem dX8_halves_111 : decode cX8_halves 111 = .ok (.if_icmp .gt 7, 3) := dc163 bqX8_halves_90 21 rfl rfl rfl
theorem bqX8_halves_114 : hs_bs cX8_halves 114 [4, 167, 0, 4, 3, 54, 6, 132, 7, 1, 167, 255, 202, 21, 6, 153, 0, 8, 21, 5, 167, 0, 5] := hs_bs_of _ _ _ (by decide +kernel)
theorem dX8_halves_114 : decode cX8_halves 114 = .ok (.iconst 1, 1) := dc4 bqX8_halves_114 0 rfl rfl
theorem dX8_halves_115 : decode cX8_halves 115 = .ok (.goto 4, 3) := dc167 bqX8_halves_114 1 rfl rfl rfl
theorem dX8_halves_118 : decode cX8_halves 118 = .ok (.iconst 0, 1) := dc3 bqX8_halves_114 4 rfl rfl
theorem dX8_halves_119 : decode cX8_halves 119 = .ok (.istore 6, 2) := dc54 bqX8_halves_114 5 rfl rfl
theorem dX8_halves_121 : decode cX8_halves 121 = .ok (.iinc 7 1, 3) := dc132 bqX8_halves_114 7 rfl rfl rfl
theorem dX8_halves_124 : decode cX8_halves 124 = .ok (.goto (-54), 3) := dc167 bqX8_halves_114 10 rfl rfl rfl
theorem dX8_halves_127 : decode cX8_halves 127 = .ok (.iload 6, 2) := dc21 bqX8_halves_114 13 rfl rfl
theorem dX8_halves_129 : decode cX8_halves 129 = .ok (.ifCond .eq 8, 3) := dc153 bqX8_halves_114 15 rfl rfl rfl
theorem dX8_halves_132 : decode cX8_halves 132 = .ok (.iload 5, 2) := dc21 bqX8_halves_114 18 rfl rfl
theorem dX8_halves_134 : decode cX8_halves 134 = .ok (.goto 5, 3) := dc167 bqX8_halves_114 20 rfl rfl rfl
theorem bqX8_halves_137 : hs_bs cX8_halves 137 [21, 4, 54, 4, 21, 6, 153, 0, 12, 42, 21, 5, 182, 0, 242, 167, 0, 4, 29, 62, 132, 5, 1] := hs_bs_of _ _ _ (by decide +kernel)
theorem dX8_halves_137 : decode cX8_halves 137 = .ok (.iload 4, 2) := dc21 bqX8_halves_137 0 rfl rfl
theorem dX8_halves_139 : decode cX8_halves 139 = .ok (.istore 4, 2) := dc54 bqX8_halves_137 2 rfl rfl
theorem dX8_halves_141 : decode cX8_halves 141 = .ok (.iload 6, 2) := dc21 bqX8_halves_137 4 rfl rfl
theorem dX8_halves_143 : decode cX8_halves 143 = .ok (.ifCond .eq 12, 3) := dc153 bqX8_halves_137 6 rfl rfl rfl
theorem dX8_halves_146 : decode cX8_halves 146 = .ok (.aload_n 0, 1) := dc42 bqX8_halves_137 9 rfl rfl
theorem dX8_halves_147 : decode cX8_halves 147 = .ok (.iload 5, 2) := dc21 bqX8_halves_137 10 rfl rfl
theorem dX8_halves_149 : decode cX8_halves 149 = .ok (.invokevirtual 242, 3) := dc182 bqX8_halves_137 12 rfl rfl rfl
theorem dX8_halves_152 : decode cX8_halves 152 = .ok (.goto 4, 3) := dc167 bqX8_halves_137 15 rfl rfl rfl
theorem dX8_halves_155 : decode cX8_halves 155 = .ok (.iload_n 3, 1) := dc29 bqX8_halves_137 18 rfl rfl
theorem dX8_halves_156 : decode cX8_halves 156 = .ok (.istore_n 3, 1) := dc62 bqX8_halves_137 19 rfl rfl
theorem dX8_halves_157 : decode cX8_halves 157 = .ok (.iinc 5 1, 3) := dc132 bqX8_halves_137 20 rfl rfl rfl
theorem bqX8_halves_160 : hs_bs cX8_halves 160 [167, 255, 137, 21, 4, 16, 252, 160, 0, 8, 16, 252, 167, 0, 13, 28, 154, 0, 7, 29, 167, 0, 5] := hs_bs_of _ _ _ (by decide +kernel)
theorem dX8_halves_160 : decode cX8_halves 160 = .ok (.goto (-119), 3) := dc167 bqX8_halves_160 0 rfl rfl rfl
theorem dX8_halves_163 : decode cX8_halves 163 = .ok (.iload 4, 2) := dc21 bqX8_halves_160 3 rfl rfl
theorem dX8_halves_165 : decode cX8_halves 165 = .ok (.bipush (-4), 2) := dc16 bqX8_halves_160 5 rfl rfl rfl
theorem dX8_halves_167 : decode cX8_halves 167 = .ok (.if_icmp .ne 8, 3) := dc160 bqX8_halves_160 7 rfl rfl rfl
theorem dX8_halves_170 : decode cX8_halves 170 = .ok (.bipush (-4), 2) := dc16 bqX8_halves_160 10 rfl rfl rfl
theorem dX8_halves_172 : decode cX8_halves 172 = .ok (.goto 13, 3) := dc167 bqX8_halves_160 12 rfl rfl rfl
theorem dX8_halves_175 : decode cX8_halves 175 = .ok (.iload_n 2, 1) := dc28 bqX8_halves_160 15 rfl rfl
theorem dX8_halves_176 : decode cX8_halves 176 = .ok (.ifCond .ne 7, 3) := dc154 bqX8_halves_160 16 rfl rfl rfl
theorem dX8_halves_179 : decode cX8_halves 179 = .ok (.iload_n 3, 1) := dc29 bqX8_halves_160 19 rfl rfl
theorem dX8_halves_180 : decode cX8_halves 180 = .ok (.goto 5, 3) := dc167 bqX8_halves_160 20 rfl rfl rfl
theorem bqX8_halves_183 : hs_bs cX8_halves 183 [21, 4, 172] := hs_bs_of _ _ _ (by decide +kernel)
theorem dX8_halves_183 : decode cX8_halves 183 = .ok (.iload 4, 2) := dc21 bqX8_halves_183 0 rfl rfl
theorem dX8_halves_185 : decode cX8_halves 185 = .ok (.ireturn, 1) := dc172 bqX8_halves_183 2 rfl rfl
set_option maxRecDepth 20000 in
theorem gX8_stop_X8_in : GoodIn wsX8_stop (va_wsS RX8 71 yX8_in wsX8_in) := hs_gC (hs_gS (hs_inG 4 182 rfl rfl) (hs_inG 4 183 rfl rfl) (hs_inG 1 8 rfl rfl) inC_X8_in)
set_option maxRecDepth 20000 in
theorem gX8_stop_X8_isPart : GoodIn wsX8_stop (va_wsS RX8 229 yX8_isPart wsX8_isPart) := hs_gC (hs_gS (hs_inG 5 149 rfl rfl) (hs_inG 5 150 rfl rfl) (hs_inG 1 8 rfl rfl) inC_X8_isPart)
theorem bqX8_stop_0 : hs_bs cX8_stop 0 [27, 133, 9, 20, 0, 199, 184, 0, 71, 153, 0, 10, 28, 184, 0, 229, 154, 0, 5, 2, 172, 42] := hs_bs_of _ _ _ (by decide +kernel)
theorem dX8_stop_0 : decode cX8_stop 0 = .ok (.iload_n 1, 1) := dc27 bqX8_stop_0 0 rfl rfl
theorem dX8_stop_1 : decode cX8_stop 1 = .ok (.i2l, 1) := dc133 bqX8_stop_0 1 rfl rfl
theorem dX8_stop_2 : decode cX8_stop 2 = .ok (.lconst 0, 1) := dc9 bqX8_stop_0 2 rfl rfl
theorem dX8_stop_3 : decode cX8_stop 3 = .ok (.ldc2_w 199, 3) := dc20 bqX8_stop_0 3 rfl rfl rfl
theorem dX8_stop_6 : decode cX8_stop 6 = .ok (.invokestatic 71, 3) := dc184 bqX8_stop_0 6 rfl rfl rfl
theorem dX8_stop_9 : decode cX8_stop 9 = .ok (.ifCond .eq 10, 3) := dc153 bqX8_stop_0 9 rfl rfl rfl
theorem dX8_stop_12 : decode cX8_stop 12 = .ok (.iload_n 2, 1) := dc28 bqX8_stop_0 12 rfl rfl
theorem dX8_stop_13 : decode cX8_stop 13 = .ok (.invokestatic 229, 3) := dc184 bqX8_stop_0 13 rfl rfl rfl
theorem dX8_stop_16 : decode cX8_stop 16 = .ok (.ifCond .ne 5, 3) := dc154 bqX8_stop_0 16 rfl rfl rfl
theorem dX8_stop_19 : decode cX8_stop 19 = .ok (.iconst (-1), 1) := dc2 bqX8_stop_0 19 rfl rfl
theorem dX8_stop_20 : decode cX8_stop 20 = .ok (.ireturn, 1) := dc172 bqX8_stop_0 20 rfl rfl
theorem dX8_stop_21 : decode cX8_stop 21 = .ok (.aload_n 0, 1) := dc42 bqX8_stop_0 21 rfl rfl
theorem bqX8_stop_22 : hs_bs cX8_stop 22 [180, 0, 7, 16, 14, 46, 62, 29, 54, 4, 3, 54, 5, 4, 54, 6, 29, 4, 164, 0, 59, 29, 29, 5] := hs_bs_of _ _ _ (by decide +kernel)
theorem dX8_stop_22 : decode cX8_stop 22 = .ok (.getfield 7, 3) := dc180 bqX8_stop_22 0 rfl rfl rfl
theorem dX8_stop_25 : decode cX8_stop 25 = .ok (.bipush 14, 2) := dc16 bqX8_stop_22 3 rfl rfl rfl
theorem dX8_stop_27 : decode cX8_stop 27 = .ok (.iaload, 1) := dc46 bqX8_stop_22 5 rfl rfl
theorem dX8_stop_28 : decode cX8_stop 28 = .ok (.istore_n 3, 1) := dc62 bqX8_stop_22 6 rfl rfl
theorem dX8_stop_29 : decode cX8_stop 29 = .ok (.iload_n 3, 1) := dc29 bqX8_stop_22 7 rfl rfl
theorem dX8_stop_30 : decode cX8_stop 30 = .ok (.istore 4, 2) := dc54 bqX8_stop_22 8 rfl rfl
theorem dX8_stop_32 : decode cX8_stop 32 = .ok (.iconst 0, 1) := dc3 bqX8_stop_22 10 rfl rfl
theorem dX8_stop_33 : decode cX8_stop 33 = .ok (.istore 5, 2) := dc54 bqX8_stop_22 11 rfl rfl
theorem dX8_stop_35 : decode cX8_stop 35 = .ok (.iconst 1, 1) := dc4 bqX8_stop_22 13 rfl rfl
theorem dX8_stop_36 : decode cX8_stop 36 = .ok (.istore 6, 2) := dc54 bqX8_stop_22 14 rfl rfl
theorem dX8_stop_38 : decode cX8_stop 38 = .ok (.iload_n 3, 1) := dc29 bqX8_stop_22 16 rfl rfl
theorem dX8_stop_39 : decode cX8_stop 39 = .ok (.iconst 1, 1) := dc4 bqX8_stop_22 17 rfl rfl
theorem dX8_stop_40 : decode cX8_stop 40 = .ok (.if_icmp .le 59, 3) := dc164 bqX8_stop_22 18 rfl rfl rfl
theorem dX8_stop_43 : decode cX8_stop 43 = .ok (.iload_n 3, 1) := dc29 bqX8_stop_22 21 rfl rfl
theorem dX8_stop_44 : decode cX8_stop 44 = .ok (.iload_n 3, 1) := dc29 bqX8_stop_22 22 rfl rfl
theorem dX8_stop_45 : decode cX8_stop 45 = .ok (.iconst 2, 1) := dc5 bqX8_stop_22 23 rfl rfl
theorem bqX8_stop_46 : hs_bs cX8_stop 46 [108, 100, 62, 29, 21, 6, 27, 104, 96, 21, 4, 162, 0, 8, 21, 6, 167, 0, 5, 21, 5, 54, 5, 29] := hs_bs_of _ _ _ (by decide +kernel)
theorem dX8_stop_46 : decode cX8_stop 46 = .ok (.idiv, 1) := dc108 bqX8_stop_46 0 rfl rfl
theorem dX8_stop_47 : decode cX8_stop 47 = .ok (.isub, 1) := dc100 bqX8_stop_46 1 rfl rfl
theorem dX8_stop_48 : decode cX8_stop 48 = .ok (.istore_n 3, 1) := dc62 bqX8_stop_46 2 rfl rfl
theorem dX8_stop_49 : decode cX8_stop 49 = .ok (.iload_n 3, 1) := dc29 bqX8_stop_46 3 rfl rfl
theorem dX8_stop_50 : decode cX8_stop 50 = .ok (.iload 6, 2) := dc21 bqX8_stop_46 4 rfl rfl
theorem dX8_stop_52 : decode cX8_stop 52 = .ok (.iload_n 1, 1) := dc27 bqX8_stop_46 6 rfl rfl
theorem dX8_stop_53 : decode cX8_stop 53 = .ok (.imul, 1) := dc104 bqX8_stop_46 7 rfl rfl
theorem dX8_stop_54 : decode cX8_stop 54 = .ok (.iadd, 1) := dc96 bqX8_stop_46 8 rfl rfl
theorem dX8_stop_55 : decode cX8_stop 55 = .ok (.iload 4, 2) := dc21 bqX8_stop_46 9 rfl rfl
theorem dX8_stop_57 : decode cX8_stop 57 = .ok (.if_icmp .ge 8, 3) := dc162 bqX8_stop_46 11 rfl rfl rfl
theorem dX8_stop_60 : decode cX8_stop 60 = .ok (.iload 6, 2) := dc21 bqX8_stop_46 14 rfl rfl
theorem dX8_stop_62 : decode cX8_stop 62 = .ok (.goto 5, 3) := dc167 bqX8_stop_46 16 rfl rfl rfl
theorem dX8_stop_65 : decode cX8_stop 65 = .ok (.iload 5, 2) := dc21 bqX8_stop_46 19 rfl rfl
theorem dX8_stop_67 : decode cX8_stop 67 = .ok (.istore 5, 2) := dc54 bqX8_stop_46 21 rfl rfl
theorem dX8_stop_69 : decode cX8_stop 69 = .ok (.iload_n 3, 1) := dc29 bqX8_stop_46 23 rfl rfl
theorem bqX8_stop_70 : hs_bs cX8_stop 70 [21, 6, 27, 104, 96, 21, 4, 162, 0, 12, 29, 21, 6, 27, 104, 96, 167, 0, 5, 21, 4, 54, 4] := hs_bs_of _ _ _ (by decide +kernel)
theorem dX8_stop_70 : decode cX8_stop 70 = .ok (.iload 6, 2) := dc21 bqX8_stop_70 0 rfl rfl
theorem dX8_stop_72 : decode cX8_stop 72 = .ok (.iload_n 1, 1) := dc27 bqX8_stop_70 2 rfl rfl
theorem dX8_stop_73 : decode cX8_stop 73 = .ok (.imul, 1) := dc104 bqX8_stop_70 3 rfl rfl
theorem dX8_stop_74 : decode cX8_stop 74 = .ok (.iadd, 1) := dc96 bqX8_stop_70 4 rfl rfl
theorem dX8_stop_75 : decode cX8_stop 75 = .ok (.iload 4, 2) := dc21 bqX8_stop_70 5 rfl rfl
theorem dX8_stop_77 : decode cX8_stop 77 = .ok (.if_icmp .ge 12, 3) := dc162 bqX8_stop_70 7 rfl rfl rfl
theorem dX8_stop_80 : decode cX8_stop 80 = .ok (.iload_n 3, 1) := dc29 bqX8_stop_70 10 rfl rfl
theorem dX8_stop_81 : decode cX8_stop 81 = .ok (.iload 6, 2) := dc21 bqX8_stop_70 11 rfl rfl
theorem dX8_stop_83 : decode cX8_stop 83 = .ok (.iload_n 1, 1) := dc27 bqX8_stop_70 13 rfl rfl
theorem dX8_stop_84 : decode cX8_stop 84 = .ok (.imul, 1) := dc104 bqX8_stop_70 14 rfl rfl
theorem dX8_stop_85 : decode cX8_stop 85 = .ok (.iadd, 1) := dc96 bqX8_stop_70 15 rfl rfl
theorem dX8_stop_86 : decode cX8_stop 86 = .ok (.goto 5, 3) := dc167 bqX8_stop_70 16 rfl rfl rfl
theorem dX8_stop_89 : decode cX8_stop 89 = .ok (.iload 4, 2) := dc21 bqX8_stop_70 19 rfl rfl
theorem dX8_stop_91 : decode cX8_stop 91 = .ok (.istore 4, 2) := dc54 bqX8_stop_70 21 rfl rfl
theorem bqX8_stop_93 : hs_bs cX8_stop 93 [132, 6, 1, 167, 255, 198, 28, 154, 0, 8, 21, 5, 167, 0, 5, 21, 4, 172] := hs_bs_of _ _ _ (by decide +kernel)
theorem dX8_stop_93 : decode cX8_stop 93 = .ok (.iinc 6 1, 3) := dc132 bqX8_stop_93 0 rfl rfl rfl
theorem dX8_stop_96 : decode cX8_stop 96 = .ok (.goto (-58), 3) := dc167 bqX8_stop_93 3 rfl rfl rfl
theorem dX8_stop_99 : decode cX8_stop 99 = .ok (.iload_n 2, 1) := dc28 bqX8_stop_93 6 rfl rfl
theorem dX8_stop_100 : decode cX8_stop 100 = .ok (.ifCond .ne 8, 3) := dc154 bqX8_stop_93 7 rfl rfl rfl
theorem dX8_stop_103 : decode cX8_stop 103 = .ok (.iload 5, 2) := dc21 bqX8_stop_93 10 rfl rfl
theorem dX8_stop_105 : decode cX8_stop 105 = .ok (.goto 5, 3) := dc167 bqX8_stop_93 12 rfl rfl rfl
theorem dX8_stop_108 : decode cX8_stop 108 = .ok (.iload 4, 2) := dc21 bqX8_stop_93 15 rfl rfl
theorem dX8_stop_110 : decode cX8_stop 110 = .ok (.ireturn, 1) := dc172 bqX8_stop_93 17 rfl rfl
set_option maxRecDepth 20000 in
theorem gX8_orders_X8_in : GoodIn wsX8_orders (va_wsS RX8 71 yX8_in wsX8_in) := hs_gC (hs_gS (hs_inG 4 182 rfl rfl) (hs_inG 4 183 rfl rfl) (hs_inG 1 8 rfl rfl) inC_X8_in)
set_option maxRecDepth 20000 in
theorem gX8_orders_X8_starts : GoodIn wsX8_orders (wsV RX8 177 RX8 yX8_starts wsX8_starts) := hs_gC (hs_gV (hs_inG 5 32 rfl rfl) (hs_inG 5 34 rfl rfl) (hs_inG 0 35 rfl rfl) (hs_inG 1 8 rfl rfl) inC_X8_starts)
set_option maxRecDepth 20000 in
theorem gX8_orders_X8_findOrders : GoodIn wsX8_orders (wsV RX8 146 RX8 yX8_findOrders wsX8_findOrders) := hs_gC (hs_gV (hs_inG 5 5 rfl rfl) (hs_inG 5 7 rfl rfl) (hs_inG 0 31 rfl rfl) (hs_inG 1 8 rfl rfl) inC_X8_findOrders)
set_option maxRecDepth 20000 in
theorem gX8_orders_X8_isOrder : GoodIn wsX8_orders (wsV RX8 216 RX8 yX8_isOrder wsX8_isOrder) := hs_gC (hs_gV (hs_inG 5 12 rfl rfl) (hs_inG 5 14 rfl rfl) (hs_inG 0 32 rfl rfl) (hs_inG 1 8 rfl rfl) inC_X8_isOrder)
theorem bqX8_orders_0 : hs_bs cX8_orders 0 [27, 133, 9, 20, 0, 197, 184, 0, 71, 154, 0, 24, 27, 16, 10, 100, 133, 9, 42, 180, 0, 66, 4, 100] := hs_bs_of _ _ _ (by decide +kernel)
theorem dX8_orders_0 : decode cX8_orders 0 = .ok (.iload_n 1, 1) := dc27 bqX8_orders_0 0 rfl rfl
theorem dX8_orders_1 : decode cX8_orders 1 = .ok (.i2l, 1) := dc133 bqX8_orders_0 1 rfl rfl
theorem dX8_orders_2 : decode cX8_orders 2 = .ok (.lconst 0, 1) := dc9 bqX8_orders_0 2 rfl rfl
theorem dX8_orders_3 : decode cX8_orders 3 = .ok (.ldc2_w 197, 3) := dc20 bqX8_orders_0 3 rfl rfl rfl
theorem dX8_orders_6 : decode cX8_orders 6 = .ok (.invokestatic 71, 3) := dc184 bqX8_orders_0 6 rfl rfl rfl
theorem dX8_orders_9 : decode cX8_orders 9 = .ok (.ifCond .ne 24, 3) := dc154 bqX8_orders_0 9 rfl rfl rfl
theorem dX8_orders_12 : decode cX8_orders 12 = .ok (.iload_n 1, 1) := dc27 bqX8_orders_0 12 rfl rfl
theorem dX8_orders_13 : decode cX8_orders 13 = .ok (.bipush 10, 2) := dc16 bqX8_orders_0 13 rfl rfl rfl
theorem dX8_orders_15 : decode cX8_orders 15 = .ok (.isub, 1) := dc100 bqX8_orders_0 15 rfl rfl
theorem dX8_orders_16 : decode cX8_orders 16 = .ok (.i2l, 1) := dc133 bqX8_orders_0 16 rfl rfl
theorem dX8_orders_17 : decode cX8_orders 17 = .ok (.lconst 0, 1) := dc9 bqX8_orders_0 17 rfl rfl
theorem dX8_orders_18 : decode cX8_orders 18 = .ok (.aload_n 0, 1) := dc42 bqX8_orders_0 18 rfl rfl
theorem dX8_orders_19 : decode cX8_orders 19 = .ok (.getfield 66, 3) := dc180 bqX8_orders_0 19 rfl rfl rfl
theorem dX8_orders_22 : decode cX8_orders 22 = .ok (.iconst 1, 1) := dc4 bqX8_orders_0 22 rfl rfl
theorem dX8_orders_23 : decode cX8_orders 23 = .ok (.isub, 1) := dc100 bqX8_orders_0 23 rfl rfl
theorem bqX8_orders_24 : hs_bs cX8_orders 24 [133, 184, 0, 71, 154, 0, 5, 2, 172, 42, 182, 0, 177, 42, 42, 180, 0, 66, 182, 0, 146, 42, 42] := hs_bs_of _ _ _ (by decide +kernel)
theorem dX8_orders_24 : decode cX8_orders 24 = .ok (.i2l, 1) := dc133 bqX8_orders_24 0 rfl rfl
theorem dX8_orders_25 : decode cX8_orders 25 = .ok (.invokestatic 71, 3) := dc184 bqX8_orders_24 1 rfl rfl rfl
theorem dX8_orders_28 : decode cX8_orders 28 = .ok (.ifCond .ne 5, 3) := dc154 bqX8_orders_24 4 rfl rfl rfl
theorem dX8_orders_31 : decode cX8_orders 31 = .ok (.iconst (-1), 1) := dc2 bqX8_orders_24 7 rfl rfl
theorem dX8_orders_32 : decode cX8_orders 32 = .ok (.ireturn, 1) := dc172 bqX8_orders_24 8 rfl rfl
theorem dX8_orders_33 : decode cX8_orders 33 = .ok (.aload_n 0, 1) := dc42 bqX8_orders_24 9 rfl rfl
theorem dX8_orders_34 : decode cX8_orders 34 = .ok (.invokevirtual 177, 3) := dc182 bqX8_orders_24 10 rfl rfl rfl
theorem dX8_orders_37 : decode cX8_orders 37 = .ok (.aload_n 0, 1) := dc42 bqX8_orders_24 13 rfl rfl
theorem dX8_orders_38 : decode cX8_orders 38 = .ok (.aload_n 0, 1) := dc42 bqX8_orders_24 14 rfl rfl
theorem dX8_orders_39 : decode cX8_orders 39 = .ok (.getfield 66, 3) := dc180 bqX8_orders_24 15 rfl rfl rfl
theorem dX8_orders_42 : decode cX8_orders 42 = .ok (.invokevirtual 146, 3) := dc182 bqX8_orders_24 18 rfl rfl rfl
theorem dX8_orders_45 : decode cX8_orders 45 = .ok (.aload_n 0, 1) := dc42 bqX8_orders_24 21 rfl rfl
theorem dX8_orders_46 : decode cX8_orders 46 = .ok (.aload_n 0, 1) := dc42 bqX8_orders_24 22 rfl rfl
theorem bqX8_orders_47 : hs_bs cX8_orders 47 [180, 0, 204, 42, 180, 0, 66, 182, 0, 216, 87, 27, 154, 0, 10, 42, 180, 0, 149, 167, 0, 36, 27, 4] := hs_bs_of _ _ _ (by decide +kernel)
theorem dX8_orders_47 : decode cX8_orders 47 = .ok (.getfield 204, 3) := dc180 bqX8_orders_47 0 rfl rfl rfl
theorem dX8_orders_50 : decode cX8_orders 50 = .ok (.aload_n 0, 1) := dc42 bqX8_orders_47 3 rfl rfl
theorem dX8_orders_51 : decode cX8_orders 51 = .ok (.getfield 66, 3) := dc180 bqX8_orders_47 4 rfl rfl rfl
theorem dX8_orders_54 : decode cX8_orders 54 = .ok (.invokevirtual 216, 3) := dc182 bqX8_orders_47 7 rfl rfl rfl
theorem dX8_orders_57 : decode cX8_orders 57 = .ok (.pop, 1) := dc87 bqX8_orders_47 10 rfl rfl
theorem dX8_orders_58 : decode cX8_orders 58 = .ok (.iload_n 1, 1) := dc27 bqX8_orders_47 11 rfl rfl
theorem dX8_orders_59 : decode cX8_orders 59 = .ok (.ifCond .ne 10, 3) := dc154 bqX8_orders_47 12 rfl rfl rfl
theorem dX8_orders_62 : decode cX8_orders 62 = .ok (.aload_n 0, 1) := dc42 bqX8_orders_47 15 rfl rfl
theorem dX8_orders_63 : decode cX8_orders 63 = .ok (.getfield 149, 3) := dc180 bqX8_orders_47 16 rfl rfl rfl
theorem dX8_orders_66 : decode cX8_orders 66 = .ok (.goto 36, 3) := dc167 bqX8_orders_47 19 rfl rfl rfl
theorem dX8_orders_69 : decode cX8_orders 69 = .ok (.iload_n 1, 1) := dc27 bqX8_orders_47 22 rfl rfl
theorem dX8_orders_70 : decode cX8_orders 70 = .ok (.iconst 1, 1) := dc4 bqX8_orders_47 23 rfl rfl
theorem bqX8_orders_71 : hs_bs cX8_orders 71 [160, 0, 10, 42, 180, 0, 207, 167, 0, 24, 27, 5, 160, 0, 10, 42, 180, 0, 210, 167, 0, 12, 42] := hs_bs_of _ _ _ (by decide +kernel)
theorem dX8_orders_71 : decode cX8_orders 71 = .ok (.if_icmp .ne 10, 3) := dc160 bqX8_orders_71 0 rfl rfl rfl
theorem dX8_orders_74 : decode cX8_orders 74 = .ok (.aload_n 0, 1) := dc42 bqX8_orders_71 3 rfl rfl
theorem dX8_orders_75 : decode cX8_orders 75 = .ok (.getfield 207, 3) := dc180 bqX8_orders_71 4 rfl rfl rfl
theorem dX8_orders_78 : decode cX8_orders 78 = .ok (.goto 24, 3) := dc167 bqX8_orders_71 7 rfl rfl rfl
theorem dX8_orders_81 : decode cX8_orders 81 = .ok (.iload_n 1, 1) := dc27 bqX8_orders_71 10 rfl rfl
theorem dX8_orders_82 : decode cX8_orders 82 = .ok (.iconst 2, 1) := dc5 bqX8_orders_71 11 rfl rfl
theorem dX8_orders_83 : decode cX8_orders 83 = .ok (.if_icmp .ne 10, 3) := dc160 bqX8_orders_71 12 rfl rfl rfl
theorem dX8_orders_86 : decode cX8_orders 86 = .ok (.aload_n 0, 1) := dc42 bqX8_orders_71 15 rfl rfl
theorem dX8_orders_87 : decode cX8_orders 87 = .ok (.getfield 210, 3) := dc180 bqX8_orders_71 16 rfl rfl rfl
theorem dX8_orders_90 : decode cX8_orders 90 = .ok (.goto 12, 3) := dc167 bqX8_orders_71 19 rfl rfl rfl
theorem dX8_orders_93 : decode cX8_orders 93 = .ok (.aload_n 0, 1) := dc42 bqX8_orders_71 22 rfl rfl
theorem bqX8_orders_94 : hs_bs cX8_orders 94 [180, 0, 26, 27, 16, 10, 100, 46, 172] := hs_bs_of _ _ _ (by decide +kernel)
theorem dX8_orders_94 : decode cX8_orders 94 = .ok (.getfield 26, 3) := dc180 bqX8_orders_94 0 rfl rfl rfl
theorem dX8_orders_97 : decode cX8_orders 97 = .ok (.iload_n 1, 1) := dc27 bqX8_orders_94 3 rfl rfl
theorem dX8_orders_98 : decode cX8_orders 98 = .ok (.bipush 10, 2) := dc16 bqX8_orders_94 4 rfl rfl rfl
theorem dX8_orders_100 : decode cX8_orders 100 = .ok (.isub, 1) := dc100 bqX8_orders_94 6 rfl rfl
theorem dX8_orders_101 : decode cX8_orders 101 = .ok (.iaload, 1) := dc46 bqX8_orders_94 7 rfl rfl
theorem dX8_orders_102 : decode cX8_orders 102 = .ok (.ireturn, 1) := dc172 bqX8_orders_94 8 rfl rfl
set_option maxRecDepth 20000 in
theorem gX8_next_X8_isPart : GoodIn wsX8_next (va_wsS RX8 229 yX8_isPart wsX8_isPart) := hs_gC (hs_gS (hs_inG 5 149 rfl rfl) (hs_inG 5 150 rfl rfl) (hs_inG 1 8 rfl rfl) inC_X8_isPart)
set_option maxRecDepth 20000 in
theorem gX8_next_X8_starts : GoodIn wsX8_next (wsV RX8 177 RX8 yX8_starts wsX8_starts) := hs_gC (hs_gV (hs_inG 5 32 rfl rfl) (hs_inG 5 34 rfl rfl) (hs_inG 0 35 rfl rfl) (hs_inG 1 8 rfl rfl) inC_X8_starts)
set_option maxRecDepth 20000 in
theorem gX8_next_X8_findOrders : GoodIn wsX8_next (wsV RX8 146 RX8 yX8_findOrders wsX8_findOrders) := hs_gC (hs_gV (hs_inG 5 5 rfl rfl) (hs_inG 5 7 rfl rfl) (hs_inG 0 31 rfl rfl) (hs_inG 1 8 rfl rfl) inC_X8_findOrders)
theorem bqX8_next_0 : hs_bs cX8_next 0 [27, 184, 0, 229, 154, 0, 5, 2, 172, 42, 182, 0, 177, 42, 42, 180, 0, 66, 182, 0, 146, 42] := hs_bs_of _ _ _ (by decide +kernel)
theorem dX8_next_0 : decode cX8_next 0 = .ok (.iload_n 1, 1) := dc27 bqX8_next_0 0 rfl rfl
theorem dX8_next_1 : decode cX8_next 1 = .ok (.invokestatic 229, 3) := dc184 bqX8_next_0 1 rfl rfl rfl
theorem dX8_next_4 : decode cX8_next 4 = .ok (.ifCond .ne 5, 3) := dc154 bqX8_next_0 4 rfl rfl rfl
theorem dX8_next_7 : decode cX8_next 7 = .ok (.iconst (-1), 1) := dc2 bqX8_next_0 7 rfl rfl
theorem dX8_next_8 : decode cX8_next 8 = .ok (.ireturn, 1) := dc172 bqX8_next_0 8 rfl rfl
theorem dX8_next_9 : decode cX8_next 9 = .ok (.aload_n 0, 1) := dc42 bqX8_next_0 9 rfl rfl
theorem dX8_next_10 : decode cX8_next 10 = .ok (.invokevirtual 177, 3) := dc182 bqX8_next_0 10 rfl rfl rfl
theorem dX8_next_13 : decode cX8_next 13 = .ok (.aload_n 0, 1) := dc42 bqX8_next_0 13 rfl rfl
theorem dX8_next_14 : decode cX8_next 14 = .ok (.aload_n 0, 1) := dc42 bqX8_next_0 14 rfl rfl
theorem dX8_next_15 : decode cX8_next 15 = .ok (.getfield 66, 3) := dc180 bqX8_next_0 15 rfl rfl rfl
theorem dX8_next_18 : decode cX8_next 18 = .ok (.invokevirtual 146, 3) := dc182 bqX8_next_0 18 rfl rfl rfl
theorem dX8_next_21 : decode cX8_next 21 = .ok (.aload_n 0, 1) := dc42 bqX8_next_0 21 rfl rfl
theorem bqX8_next_22 : hs_bs cX8_next 22 [180, 0, 149, 61, 16, 252, 62, 3, 54, 4, 21, 4, 42, 180, 0, 66, 162, 0, 102, 21, 4, 4, 96] := hs_bs_of _ _ _ (by decide +kernel)
theorem dX8_next_22 : decode cX8_next 22 = .ok (.getfield 149, 3) := dc180 bqX8_next_22 0 rfl rfl rfl
theorem dX8_next_25 : decode cX8_next 25 = .ok (.istore_n 2, 1) := dc61 bqX8_next_22 3 rfl rfl
theorem dX8_next_26 : decode cX8_next 26 = .ok (.bipush (-4), 2) := dc16 bqX8_next_22 4 rfl rfl rfl
theorem dX8_next_28 : decode cX8_next 28 = .ok (.istore_n 3, 1) := dc62 bqX8_next_22 6 rfl rfl
theorem dX8_next_29 : decode cX8_next 29 = .ok (.iconst 0, 1) := dc3 bqX8_next_22 7 rfl rfl
theorem dX8_next_30 : decode cX8_next 30 = .ok (.istore 4, 2) := dc54 bqX8_next_22 8 rfl rfl
theorem dX8_next_32 : decode cX8_next 32 = .ok (.iload 4, 2) := dc21 bqX8_next_22 10 rfl rfl
theorem dX8_next_34 : decode cX8_next 34 = .ok (.aload_n 0, 1) := dc42 bqX8_next_22 12 rfl rfl
theorem dX8_next_35 : decode cX8_next 35 = .ok (.getfield 66, 3) := dc180 bqX8_next_22 13 rfl rfl rfl
theorem dX8_next_38 : decode cX8_next 38 = .ok (.if_icmp .ge 102, 3) := dc162 bqX8_next_22 16 rfl rfl rfl
theorem dX8_next_41 : decode cX8_next 41 = .ok (.iload 4, 2) := dc21 bqX8_next_22 19 rfl rfl
theorem dX8_next_43 : decode cX8_next 43 = .ok (.iconst 1, 1) := dc4 bqX8_next_22 21 rfl rfl
theorem dX8_next_44 : decode cX8_next 44 = .ok (.iadd, 1) := dc96 bqX8_next_22 22 rfl rfl
theorem bqX8_next_45 : hs_bs cX8_next 45 [54, 5, 21, 5, 42, 180, 0, 66, 162, 0, 81, 42, 180, 0, 29, 8, 21, 4, 104, 21, 5, 96, 46] := hs_bs_of _ _ _ (by decide +kernel)
theorem dX8_next_45 : decode cX8_next 45 = .ok (.istore 5, 2) := dc54 bqX8_next_45 0 rfl rfl
theorem dX8_next_47 : decode cX8_next 47 = .ok (.iload 5, 2) := dc21 bqX8_next_45 2 rfl rfl
theorem dX8_next_49 : decode cX8_next 49 = .ok (.aload_n 0, 1) := dc42 bqX8_next_45 4 rfl rfl
theorem dX8_next_50 : decode cX8_next 50 = .ok (.getfield 66, 3) := dc180 bqX8_next_45 5 rfl rfl rfl
theorem dX8_next_53 : decode cX8_next 53 = .ok (.if_icmp .ge 81, 3) := dc162 bqX8_next_45 8 rfl rfl rfl
theorem dX8_next_56 : decode cX8_next 56 = .ok (.aload_n 0, 1) := dc42 bqX8_next_45 11 rfl rfl
theorem dX8_next_57 : decode cX8_next 57 = .ok (.getfield 29, 3) := dc180 bqX8_next_45 12 rfl rfl rfl
theorem dX8_next_60 : decode cX8_next 60 = .ok (.iconst 5, 1) := dc8 bqX8_next_45 15 rfl rfl
theorem dX8_next_61 : decode cX8_next 61 = .ok (.iload 4, 2) := dc21 bqX8_next_45 16 rfl rfl
theorem dX8_next_63 : decode cX8_next 63 = .ok (.imul, 1) := dc104 bqX8_next_45 18 rfl rfl
theorem dX8_next_64 : decode cX8_next 64 = .ok (.iload 5, 2) := dc21 bqX8_next_45 19 rfl rfl
theorem dX8_next_66 : decode cX8_next 66 = .ok (.iadd, 1) := dc96 bqX8_next_45 21 rfl rfl
theorem dX8_next_67 : decode cX8_next 67 = .ok (.iaload, 1) := dc46 bqX8_next_45 22 rfl rfl
theorem bqX8_next_68 : hs_bs cX8_next 68 [54, 6, 21, 6, 42, 180, 0, 149, 21, 6, 100, 164, 0, 8, 21, 6, 167, 0, 10, 42, 180, 0, 149] := hs_bs_of _ _ _ (by decide +kernel)
theorem dX8_next_68 : decode cX8_next 68 = .ok (.istore 6, 2) := dc54 bqX8_next_68 0 rfl rfl
theorem dX8_next_70 : decode cX8_next 70 = .ok (.iload 6, 2) := dc21 bqX8_next_68 2 rfl rfl
theorem dX8_next_72 : decode cX8_next 72 = .ok (.aload_n 0, 1) := dc42 bqX8_next_68 4 rfl rfl
theorem dX8_next_73 : decode cX8_next 73 = .ok (.getfield 149, 3) := dc180 bqX8_next_68 5 rfl rfl rfl
theorem dX8_next_76 : decode cX8_next 76 = .ok (.iload 6, 2) := dc21 bqX8_next_68 8 rfl rfl
theorem dX8_next_78 : decode cX8_next 78 = .ok (.isub, 1) := dc100 bqX8_next_68 10 rfl rfl
theorem dX8_next_79 : decode cX8_next 79 = .ok (.if_icmp .le 8, 3) := dc164 bqX8_next_68 11 rfl rfl rfl
theorem dX8_next_82 : decode cX8_next 82 = .ok (.iload 6, 2) := dc21 bqX8_next_68 14 rfl rfl
theorem dX8_next_84 : decode cX8_next 84 = .ok (.goto 10, 3) := dc167 bqX8_next_68 16 rfl rfl rfl
theorem dX8_next_87 : decode cX8_next 87 = .ok (.aload_n 0, 1) := dc42 bqX8_next_68 19 rfl rfl
theorem dX8_next_88 : decode cX8_next 88 = .ok (.getfield 149, 3) := dc180 bqX8_next_68 20 rfl rfl rfl
theorem bqX8_next_91 : hs_bs cX8_next 91 [21, 6, 100, 54, 7, 21, 7, 28, 162, 0, 14, 16, 10, 21, 4, 104, 21, 5, 96, 167, 0, 4, 29, 62] := hs_bs_of _ _ _ (by decide +kernel)
theorem dX8_next_91 : decode cX8_next 91 = .ok (.iload 6, 2) := dc21 bqX8_next_91 0 rfl rfl
theorem dX8_next_93 : decode cX8_next 93 = .ok (.isub, 1) := dc100 bqX8_next_91 2 rfl rfl
theorem dX8_next_94 : decode cX8_next 94 = .ok (.istore 7, 2) := dc54 bqX8_next_91 3 rfl rfl
theorem dX8_next_96 : decode cX8_next 96 = .ok (.iload 7, 2) := dc21 bqX8_next_91 5 rfl rfl
theorem dX8_next_98 : decode cX8_next 98 = .ok (.iload_n 2, 1) := dc28 bqX8_next_91 7 rfl rfl
theorem dX8_next_99 : decode cX8_next 99 = .ok (.if_icmp .ge 14, 3) := dc162 bqX8_next_91 8 rfl rfl rfl
theorem dX8_next_102 : decode cX8_next 102 = .ok (.bipush 10, 2) := dc16 bqX8_next_91 11 rfl rfl rfl
theorem dX8_next_104 : decode cX8_next 104 = .ok (.iload 4, 2) := dc21 bqX8_next_91 13 rfl rfl
theorem dX8_next_106 : decode cX8_next 106 = .ok (.imul, 1) := dc104 bqX8_next_91 15 rfl rfl
theorem dX8_next_107 : decode cX8_next 107 = .ok (.iload 5, 2) := dc21 bqX8_next_91 16 rfl rfl
theorem dX8_next_109 : decode cX8_next 109 = .ok (.iadd, 1) := dc96 bqX8_next_91 18 rfl rfl
theorem dX8_next_110 : decode cX8_next 110 = .ok (.goto 4, 3) := dc167 bqX8_next_91 19 rfl rfl rfl
theorem dX8_next_113 : decode cX8_next 113 = .ok (.iload_n 3, 1) := dc29 bqX8_next_91 22 rfl rfl
theorem dX8_next_114 : decode cX8_next 114 = .ok (.istore_n 3, 1) := dc62 bqX8_next_91 23 rfl rfl
theorem bqX8_next_115 : hs_bs cX8_next 115 [21, 7, 28, 162, 0, 8, 21, 7, 167, 0, 4, 28, 61, 132, 5, 1, 167, 255, 172, 132, 4, 1] := hs_bs_of _ _ _ (by decide +kernel)
theorem dX8_next_115 : decode cX8_next 115 = .ok (.iload 7, 2) := dc21 bqX8_next_115 0 rfl rfl
theorem dX8_next_117 : decode cX8_next 117 = .ok (.iload_n 2, 1) := dc28 bqX8_next_115 2 rfl rfl
theorem dX8_next_118 : decode cX8_next 118 = .ok (.if_icmp .ge 8, 3) := dc162 bqX8_next_115 3 rfl rfl rfl
theorem dX8_next_121 : decode cX8_next 121 = .ok (.iload 7, 2) := dc21 bqX8_next_115 6 rfl rfl
theorem dX8_next_123 : decode cX8_next 123 = .ok (.goto 4, 3) := dc167 bqX8_next_115 8 rfl rfl rfl
theorem dX8_next_126 : decode cX8_next 126 = .ok (.iload_n 2, 1) := dc28 bqX8_next_115 11 rfl rfl
theorem dX8_next_127 : decode cX8_next 127 = .ok (.istore_n 2, 1) := dc61 bqX8_next_115 12 rfl rfl
theorem dX8_next_128 : decode cX8_next 128 = .ok (.iinc 5 1, 3) := dc132 bqX8_next_115 13 rfl rfl rfl
theorem dX8_next_131 : decode cX8_next 131 = .ok (.goto (-84), 3) := dc167 bqX8_next_115 16 rfl rfl rfl
theorem dX8_next_134 : decode cX8_next 134 = .ok (.iinc 4 1, 3) := dc132 bqX8_next_115 19 rfl rfl rfl
theorem bqX8_next_137 : hs_bs cX8_next 137 [167, 255, 151, 29, 16, 252, 160, 0, 8, 16, 252, 167, 0, 12, 27, 154, 0, 7, 29, 167, 0, 4, 28, 172] := hs_bs_of _ _ _ (by decide +kernel)
theorem dX8_next_137 : decode cX8_next 137 = .ok (.goto (-105), 3) := dc167 bqX8_next_137 0 rfl rfl rfl
theorem dX8_next_140 : decode cX8_next 140 = .ok (.iload_n 3, 1) := dc29 bqX8_next_137 3 rfl rfl
theorem dX8_next_141 : decode cX8_next 141 = .ok (.bipush (-4), 2) := dc16 bqX8_next_137 4 rfl rfl rfl
theorem dX8_next_143 : decode cX8_next 143 = .ok (.if_icmp .ne 8, 3) := dc160 bqX8_next_137 6 rfl rfl rfl
theorem dX8_next_146 : decode cX8_next 146 = .ok (.bipush (-4), 2) := dc16 bqX8_next_137 9 rfl rfl rfl
theorem dX8_next_148 : decode cX8_next 148 = .ok (.goto 12, 3) := dc167 bqX8_next_137 11 rfl rfl rfl
theorem dX8_next_151 : decode cX8_next 151 = .ok (.iload_n 1, 1) := dc27 bqX8_next_137 14 rfl rfl
theorem dX8_next_152 : decode cX8_next 152 = .ok (.ifCond .ne 7, 3) := dc154 bqX8_next_137 15 rfl rfl rfl
theorem dX8_next_155 : decode cX8_next 155 = .ok (.iload_n 3, 1) := dc29 bqX8_next_137 18 rfl rfl
theorem dX8_next_156 : decode cX8_next 156 = .ok (.goto 4, 3) := dc167 bqX8_next_137 19 rfl rfl rfl
theorem dX8_next_159 : decode cX8_next 159 = .ok (.iload_n 2, 1) := dc28 bqX8_next_137 22 rfl rfl
theorem dX8_next_160 : decode cX8_next 160 = .ok (.ireturn, 1) := dc172 bqX8_next_137 23 rfl rfl
theorem bqX8_common_0 : hs_bs cX8_common 0 [30, 55, 4, 32, 55, 6, 22, 6, 9, 148, 153, 0, 21, 22, 4, 22, 6, 113, 55, 8, 22, 6, 55, 4] := hs_bs_of _ _ _ (by decide +kernel)
theorem dX8_common_0 : decode cX8_common 0 = .ok (.lload_n 0, 1) := dc30 bqX8_common_0 0 rfl rfl
theorem dX8_common_1 : decode cX8_common 1 = .ok (.lstore 4, 2) := dc55 bqX8_common_0 1 rfl rfl
theorem dX8_common_3 : decode cX8_common 3 = .ok (.lload_n 2, 1) := dc32 bqX8_common_0 3 rfl rfl
theorem dX8_common_4 : decode cX8_common 4 = .ok (.lstore 6, 2) := dc55 bqX8_common_0 4 rfl rfl
theorem dX8_common_6 : decode cX8_common 6 = .ok (.lload 6, 2) := dc22 bqX8_common_0 6 rfl rfl
theorem dX8_common_8 : decode cX8_common 8 = .ok (.lconst 0, 1) := dc9 bqX8_common_0 8 rfl rfl
theorem dX8_common_9 : decode cX8_common 9 = .ok (.lcmp, 1) := dc148 bqX8_common_0 9 rfl rfl
theorem dX8_common_10 : decode cX8_common 10 = .ok (.ifCond .eq 21, 3) := dc153 bqX8_common_0 10 rfl rfl rfl
theorem dX8_common_13 : decode cX8_common 13 = .ok (.lload 4, 2) := dc22 bqX8_common_0 13 rfl rfl
theorem dX8_common_15 : decode cX8_common 15 = .ok (.lload 6, 2) := dc22 bqX8_common_0 15 rfl rfl
theorem dX8_common_17 : decode cX8_common 17 = .ok (.lrem, 1) := dc113 bqX8_common_0 17 rfl rfl
theorem dX8_common_18 : decode cX8_common 18 = .ok (.lstore 8, 2) := dc55 bqX8_common_0 18 rfl rfl
theorem dX8_common_20 : decode cX8_common 20 = .ok (.lload 6, 2) := dc22 bqX8_common_0 20 rfl rfl
theorem dX8_common_22 : decode cX8_common 22 = .ok (.lstore 4, 2) := dc55 bqX8_common_0 22 rfl rfl
theorem bqX8_common_24 : hs_bs cX8_common 24 [22, 8, 55, 6, 167, 255, 234, 22, 4, 173] := hs_bs_of _ _ _ (by decide +kernel)
theorem dX8_common_24 : decode cX8_common 24 = .ok (.lload 8, 2) := dc22 bqX8_common_24 0 rfl rfl
theorem dX8_common_26 : decode cX8_common 26 = .ok (.lstore 6, 2) := dc55 bqX8_common_24 2 rfl rfl
theorem dX8_common_28 : decode cX8_common 28 = .ok (.goto (-22), 3) := dc167 bqX8_common_24 4 rfl rfl rfl
theorem dX8_common_31 : decode cX8_common 31 = .ok (.lload 4, 2) := dc22 bqX8_common_24 7 rfl rfl
theorem dX8_common_33 : decode cX8_common 33 = .ok (.lreturn, 1) := dc173 bqX8_common_24 9 rfl rfl
set_option maxRecDepth 20000 in
theorem gX8_told_X8_common : GoodIn wsX8_told (va_wsS RX8 245 yX8_common wsX8_common) := hs_gC (hs_gS (hs_inG 5 209 rfl rfl) (hs_inG 5 210 rfl rfl) (hs_inG 1 8 rfl rfl) inC_X8_common)
theorem bqX8_told_0 : hs_bs cX8_told 0 [32, 30, 184, 0, 245, 55, 5, 21, 4, 154, 0, 10, 30, 22, 5, 109, 167, 0, 7, 32, 22, 5, 109, 173] := hs_bs_of _ _ _ (by decide +kernel)
theorem dX8_told_0 : decode cX8_told 0 = .ok (.lload_n 2, 1) := dc32 bqX8_told_0 0 rfl rfl
theorem dX8_told_1 : decode cX8_told 1 = .ok (.lload_n 0, 1) := dc30 bqX8_told_0 1 rfl rfl
theorem dX8_told_2 : decode cX8_told 2 = .ok (.invokestatic 245, 3) := dc184 bqX8_told_0 2 rfl rfl rfl
theorem dX8_told_5 : decode cX8_told 5 = .ok (.lstore 5, 2) := dc55 bqX8_told_0 5 rfl rfl
theorem dX8_told_7 : decode cX8_told 7 = .ok (.iload 4, 2) := dc21 bqX8_told_0 7 rfl rfl
theorem dX8_told_9 : decode cX8_told 9 = .ok (.ifCond .ne 10, 3) := dc154 bqX8_told_0 9 rfl rfl rfl
theorem dX8_told_12 : decode cX8_told 12 = .ok (.lload_n 0, 1) := dc30 bqX8_told_0 12 rfl rfl
theorem dX8_told_13 : decode cX8_told 13 = .ok (.lload 5, 2) := dc22 bqX8_told_0 13 rfl rfl
theorem dX8_told_15 : decode cX8_told 15 = .ok (.ldiv, 1) := dc109 bqX8_told_0 15 rfl rfl
theorem dX8_told_16 : decode cX8_told 16 = .ok (.goto 7, 3) := dc167 bqX8_told_0 16 rfl rfl rfl
theorem dX8_told_19 : decode cX8_told 19 = .ok (.lload_n 2, 1) := dc32 bqX8_told_0 19 rfl rfl
theorem dX8_told_20 : decode cX8_told 20 = .ok (.lload 5, 2) := dc22 bqX8_told_0 20 rfl rfl
