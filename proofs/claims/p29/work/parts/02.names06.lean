set_option maxRecDepth 20000 in
theorem gX7_set_X7_within : GoodIn wsX7_set (va_wsS RX7 59 yX7_within wsX7_within) := hs_gC (hs_gS (hs_inG 2 10 rfl rfl) (hs_inG 2 11 rfl rfl) (hs_inG 1 1 rfl rfl) inC_X7_within)
theorem bqX7_set_0 : hs_bs cX7_set 0 [27, 5, 160, 0, 31, 28, 3, 16, 9, 184, 0, 59, 153, 0, 21, 42, 180, 0, 10, 180, 0, 99, 62, 42] := hs_bs_of _ _ _ (by decide +kernel)
theorem dX7_set_0 : decode cX7_set 0 = .ok (.iload_n 1, 1) := dc27 bqX7_set_0 0 rfl rfl
theorem dX7_set_1 : decode cX7_set 1 = .ok (.iconst 2, 1) := dc5 bqX7_set_0 1 rfl rfl
theorem dX7_set_2 : decode cX7_set 2 = .ok (.if_icmp .ne 31, 3) := dc160 bqX7_set_0 2 rfl rfl rfl
theorem dX7_set_5 : decode cX7_set 5 = .ok (.iload_n 2, 1) := dc28 bqX7_set_0 5 rfl rfl
theorem dX7_set_6 : decode cX7_set 6 = .ok (.iconst 0, 1) := dc3 bqX7_set_0 6 rfl rfl
theorem dX7_set_7 : decode cX7_set 7 = .ok (.bipush 9, 2) := dc16 bqX7_set_0 7 rfl rfl rfl
theorem dX7_set_9 : decode cX7_set 9 = .ok (.invokestatic 59, 3) := dc184 bqX7_set_0 9 rfl rfl rfl
theorem dX7_set_12 : decode cX7_set 12 = .ok (.ifCond .eq 21, 3) := dc153 bqX7_set_0 12 rfl rfl rfl
theorem dX7_set_15 : decode cX7_set 15 = .ok (.aload_n 0, 1) := dc42 bqX7_set_0 15 rfl rfl
theorem dX7_set_16 : decode cX7_set 16 = .ok (.getfield 10, 3) := dc180 bqX7_set_0 16 rfl rfl rfl
theorem dX7_set_19 : decode cX7_set 19 = .ok (.getfield 99, 3) := dc180 bqX7_set_0 19 rfl rfl rfl
theorem dX7_set_22 : decode cX7_set 22 = .ok (.istore_n 3, 1) := dc62 bqX7_set_0 22 rfl rfl
theorem dX7_set_23 : decode cX7_set 23 = .ok (.aload_n 0, 1) := dc42 bqX7_set_0 23 rfl rfl
theorem bqX7_set_24 : hs_bs cX7_set 24 [180, 0, 10, 28, 181, 0, 99, 29, 172, 27, 6, 160, 0, 31, 28, 3, 16, 99, 184, 0, 59, 153, 0, 21] := hs_bs_of _ _ _ (by decide +kernel)
theorem dX7_set_24 : decode cX7_set 24 = .ok (.getfield 10, 3) := dc180 bqX7_set_24 0 rfl rfl rfl
theorem dX7_set_27 : decode cX7_set 27 = .ok (.iload_n 2, 1) := dc28 bqX7_set_24 3 rfl rfl
theorem dX7_set_28 : decode cX7_set 28 = .ok (.putfield 99, 3) := dc181 bqX7_set_24 4 rfl rfl rfl
theorem dX7_set_31 : decode cX7_set 31 = .ok (.iload_n 3, 1) := dc29 bqX7_set_24 7 rfl rfl
theorem dX7_set_32 : decode cX7_set 32 = .ok (.ireturn, 1) := dc172 bqX7_set_24 8 rfl rfl
theorem dX7_set_33 : decode cX7_set 33 = .ok (.iload_n 1, 1) := dc27 bqX7_set_24 9 rfl rfl
theorem dX7_set_34 : decode cX7_set 34 = .ok (.iconst 3, 1) := dc6 bqX7_set_24 10 rfl rfl
theorem dX7_set_35 : decode cX7_set 35 = .ok (.if_icmp .ne 31, 3) := dc160 bqX7_set_24 11 rfl rfl rfl
theorem dX7_set_38 : decode cX7_set 38 = .ok (.iload_n 2, 1) := dc28 bqX7_set_24 14 rfl rfl
theorem dX7_set_39 : decode cX7_set 39 = .ok (.iconst 0, 1) := dc3 bqX7_set_24 15 rfl rfl
theorem dX7_set_40 : decode cX7_set 40 = .ok (.bipush 99, 2) := dc16 bqX7_set_24 16 rfl rfl rfl
theorem dX7_set_42 : decode cX7_set 42 = .ok (.invokestatic 59, 3) := dc184 bqX7_set_24 18 rfl rfl rfl
theorem dX7_set_45 : decode cX7_set 45 = .ok (.ifCond .eq 21, 3) := dc153 bqX7_set_24 21 rfl rfl rfl
theorem bqX7_set_48 : hs_bs cX7_set 48 [42, 180, 0, 10, 180, 0, 102, 62, 42, 180, 0, 10, 28, 181, 0, 102, 29, 172, 2, 172] := hs_bs_of _ _ _ (by decide +kernel)
theorem dX7_set_48 : decode cX7_set 48 = .ok (.aload_n 0, 1) := dc42 bqX7_set_48 0 rfl rfl
theorem dX7_set_49 : decode cX7_set 49 = .ok (.getfield 10, 3) := dc180 bqX7_set_48 1 rfl rfl rfl
theorem dX7_set_52 : decode cX7_set 52 = .ok (.getfield 102, 3) := dc180 bqX7_set_48 4 rfl rfl rfl
theorem dX7_set_55 : decode cX7_set 55 = .ok (.istore_n 3, 1) := dc62 bqX7_set_48 7 rfl rfl
theorem dX7_set_56 : decode cX7_set 56 = .ok (.aload_n 0, 1) := dc42 bqX7_set_48 8 rfl rfl
theorem dX7_set_57 : decode cX7_set 57 = .ok (.getfield 10, 3) := dc180 bqX7_set_48 9 rfl rfl rfl
theorem dX7_set_60 : decode cX7_set 60 = .ok (.iload_n 2, 1) := dc28 bqX7_set_48 12 rfl rfl
theorem dX7_set_61 : decode cX7_set 61 = .ok (.putfield 102, 3) := dc181 bqX7_set_48 13 rfl rfl rfl
theorem dX7_set_64 : decode cX7_set 64 = .ok (.iload_n 3, 1) := dc29 bqX7_set_48 16 rfl rfl
theorem dX7_set_65 : decode cX7_set 65 = .ok (.ireturn, 1) := dc172 bqX7_set_48 17 rfl rfl
theorem dX7_set_66 : decode cX7_set 66 = .ok (.iconst (-1), 1) := dc2 bqX7_set_48 18 rfl rfl
theorem dX7_set_67 : decode cX7_set 67 = .ok (.ireturn, 1) := dc172 bqX7_set_48 19 rfl rfl
set_option maxRecDepth 20000 in
theorem gX7_appeal_X7_halfUp : GoodIn wsX7_appeal (va_wsS RX7 148 yX7_halfUp wsX7_halfUp) := hs_gC (hs_gS (hs_inG 3 19 rfl rfl) (hs_inG 2 234 rfl rfl) (hs_inG 1 1 rfl rfl) inC_X7_halfUp)
theorem bqX7_appeal_0 : hs_bs cX7_appeal 0 [42, 180, 0, 10, 180, 0, 102, 4, 163, 0, 6, 16, 254, 172, 42, 180, 0, 10, 42, 180, 0, 10] := hs_bs_of _ _ _ (by decide +kernel)
theorem dX7_appeal_0 : decode cX7_appeal 0 = .ok (.aload_n 0, 1) := dc42 bqX7_appeal_0 0 rfl rfl
theorem dX7_appeal_1 : decode cX7_appeal 1 = .ok (.getfield 10, 3) := dc180 bqX7_appeal_0 1 rfl rfl rfl
theorem dX7_appeal_4 : decode cX7_appeal 4 = .ok (.getfield 102, 3) := dc180 bqX7_appeal_0 4 rfl rfl rfl
theorem dX7_appeal_7 : decode cX7_appeal 7 = .ok (.iconst 1, 1) := dc4 bqX7_appeal_0 7 rfl rfl
theorem dX7_appeal_8 : decode cX7_appeal 8 = .ok (.if_icmp .gt 6, 3) := dc163 bqX7_appeal_0 8 rfl rfl rfl
theorem dX7_appeal_11 : decode cX7_appeal 11 = .ok (.bipush (-2), 2) := dc16 bqX7_appeal_0 11 rfl rfl rfl
theorem dX7_appeal_13 : decode cX7_appeal 13 = .ok (.ireturn, 1) := dc172 bqX7_appeal_0 13 rfl rfl
theorem dX7_appeal_14 : decode cX7_appeal 14 = .ok (.aload_n 0, 1) := dc42 bqX7_appeal_0 14 rfl rfl
theorem dX7_appeal_15 : decode cX7_appeal 15 = .ok (.getfield 10, 3) := dc180 bqX7_appeal_0 15 rfl rfl rfl
theorem dX7_appeal_18 : decode cX7_appeal 18 = .ok (.aload_n 0, 1) := dc42 bqX7_appeal_0 18 rfl rfl
theorem dX7_appeal_19 : decode cX7_appeal 19 = .ok (.getfield 10, 3) := dc180 bqX7_appeal_0 19 rfl rfl rfl
theorem bqX7_appeal_22 : hs_bs cX7_appeal 22 [180, 0, 102, 184, 0, 148, 181, 0, 102, 42, 180, 0, 10, 89, 180, 0, 105, 4, 96, 181, 0, 105, 42] := hs_bs_of _ _ _ (by decide +kernel)
theorem dX7_appeal_22 : decode cX7_appeal 22 = .ok (.getfield 102, 3) := dc180 bqX7_appeal_22 0 rfl rfl rfl
theorem dX7_appeal_25 : decode cX7_appeal 25 = .ok (.invokestatic 148, 3) := dc184 bqX7_appeal_22 3 rfl rfl rfl
theorem dX7_appeal_28 : decode cX7_appeal 28 = .ok (.putfield 102, 3) := dc181 bqX7_appeal_22 6 rfl rfl rfl
theorem dX7_appeal_31 : decode cX7_appeal 31 = .ok (.aload_n 0, 1) := dc42 bqX7_appeal_22 9 rfl rfl
theorem dX7_appeal_32 : decode cX7_appeal 32 = .ok (.getfield 10, 3) := dc180 bqX7_appeal_22 10 rfl rfl rfl
theorem dX7_appeal_35 : decode cX7_appeal 35 = .ok (.dup, 1) := dc89 bqX7_appeal_22 13 rfl rfl
theorem dX7_appeal_36 : decode cX7_appeal 36 = .ok (.getfield 105, 3) := dc180 bqX7_appeal_22 14 rfl rfl rfl
theorem dX7_appeal_39 : decode cX7_appeal 39 = .ok (.iconst 1, 1) := dc4 bqX7_appeal_22 17 rfl rfl
theorem dX7_appeal_40 : decode cX7_appeal 40 = .ok (.iadd, 1) := dc96 bqX7_appeal_22 18 rfl rfl
theorem dX7_appeal_41 : decode cX7_appeal 41 = .ok (.putfield 105, 3) := dc181 bqX7_appeal_22 19 rfl rfl rfl
theorem dX7_appeal_44 : decode cX7_appeal 44 = .ok (.aload_n 0, 1) := dc42 bqX7_appeal_22 22 rfl rfl
theorem bqX7_appeal_45 : hs_bs cX7_appeal 45 [180, 0, 10, 180, 0, 102, 172] := hs_bs_of _ _ _ (by decide +kernel)
theorem dX7_appeal_45 : decode cX7_appeal 45 = .ok (.getfield 10, 3) := dc180 bqX7_appeal_45 0 rfl rfl rfl
theorem dX7_appeal_48 : decode cX7_appeal 48 = .ok (.getfield 102, 3) := dc180 bqX7_appeal_45 3 rfl rfl rfl
theorem dX7_appeal_51 : decode cX7_appeal 51 = .ok (.ireturn, 1) := dc172 bqX7_appeal_45 6 rfl rfl
set_option maxRecDepth 20000 in
theorem gX7_lighter_X6_isHalf : GoodIn wsX7_lighter (wsV RX7 152 RX6 yX6_isHalf wsX6_isHalf) := hs_gC (hs_gV (hs_inG 3 24 rfl rfl) (hs_inG 2 160 rfl rfl) (hs_inG 2 161 rfl rfl) (hs_inG 1 2 rfl rfl) inC_X6_isHalf)
set_option maxRecDepth 20000 in
theorem gX7_lighter_X2_learn : GoodIn wsX7_lighter (wsV RX7 155 RX2 yX2_learn wsX2_learn) := hs_gC (hs_gV (hs_inG 3 25 rfl rfl) (hs_inG 2 165 rfl rfl) (hs_inG 2 166 rfl rfl) (hs_inG 1 5 rfl rfl) inC_X2_learn)
set_option maxRecDepth 20000 in
theorem gX7_lighter_X2_howManyWith : GoodIn wsX7_lighter (wsV RX7 158 RX2 yX2_howManyWith wsX2_howManyWith) := hs_gC (hs_gV (hs_inG 3 26 rfl rfl) (hs_inG 3 27 rfl rfl) (hs_inG 3 28 rfl rfl) (hs_inG 1 5 rfl rfl) inC_X2_howManyWith)
set_option maxRecDepth 20000 in
theorem gX7_lighter_X6_addPair : GoodIn wsX7_lighter (wsV RX7 162 RX6 yX6_addPair wsX6_addPair) := hs_gC (hs_gV (hs_inG 3 31 rfl rfl) (hs_inG 2 144 rfl rfl) (hs_inG 2 145 rfl rfl) (hs_inG 1 2 rfl rfl) inC_X6_addPair)
theorem bqX7_lighter_0 : hs_bs cX7_lighter 0 [42, 180, 0, 10, 27, 182, 0, 152, 153, 0, 19, 42, 180, 0, 10, 28, 182, 0, 152, 153, 0, 8, 27, 28] := hs_bs_of _ _ _ (by decide +kernel)
theorem dX7_lighter_0 : decode cX7_lighter 0 = .ok (.aload_n 0, 1) := dc42 bqX7_lighter_0 0 rfl rfl
theorem dX7_lighter_1 : decode cX7_lighter 1 = .ok (.getfield 10, 3) := dc180 bqX7_lighter_0 1 rfl rfl rfl
theorem dX7_lighter_4 : decode cX7_lighter 4 = .ok (.iload_n 1, 1) := dc27 bqX7_lighter_0 4 rfl rfl
theorem dX7_lighter_5 : decode cX7_lighter 5 = .ok (.invokevirtual 152, 3) := dc182 bqX7_lighter_0 5 rfl rfl rfl
theorem dX7_lighter_8 : decode cX7_lighter 8 = .ok (.ifCond .eq 19, 3) := dc153 bqX7_lighter_0 8 rfl rfl rfl
theorem dX7_lighter_11 : decode cX7_lighter 11 = .ok (.aload_n 0, 1) := dc42 bqX7_lighter_0 11 rfl rfl
theorem dX7_lighter_12 : decode cX7_lighter 12 = .ok (.getfield 10, 3) := dc180 bqX7_lighter_0 12 rfl rfl rfl
theorem dX7_lighter_15 : decode cX7_lighter 15 = .ok (.iload_n 2, 1) := dc28 bqX7_lighter_0 15 rfl rfl
theorem dX7_lighter_16 : decode cX7_lighter 16 = .ok (.invokevirtual 152, 3) := dc182 bqX7_lighter_0 16 rfl rfl rfl
theorem dX7_lighter_19 : decode cX7_lighter 19 = .ok (.ifCond .eq 8, 3) := dc153 bqX7_lighter_0 19 rfl rfl rfl
theorem dX7_lighter_22 : decode cX7_lighter 22 = .ok (.iload_n 1, 1) := dc27 bqX7_lighter_0 22 rfl rfl
theorem dX7_lighter_23 : decode cX7_lighter 23 = .ok (.iload_n 2, 1) := dc28 bqX7_lighter_0 23 rfl rfl
theorem bqX7_lighter_24 : hs_bs cX7_lighter 24 [160, 0, 5, 2, 172, 42, 180, 0, 10, 180, 0, 111, 16, 8, 161, 0, 6, 16, 253, 172, 42, 180, 0, 37] := hs_bs_of _ _ _ (by decide +kernel)
theorem dX7_lighter_24 : decode cX7_lighter 24 = .ok (.if_icmp .ne 5, 3) := dc160 bqX7_lighter_24 0 rfl rfl rfl
theorem dX7_lighter_27 : decode cX7_lighter 27 = .ok (.iconst (-1), 1) := dc2 bqX7_lighter_24 3 rfl rfl
theorem dX7_lighter_28 : decode cX7_lighter 28 = .ok (.ireturn, 1) := dc172 bqX7_lighter_24 4 rfl rfl
theorem dX7_lighter_29 : decode cX7_lighter 29 = .ok (.aload_n 0, 1) := dc42 bqX7_lighter_24 5 rfl rfl
theorem dX7_lighter_30 : decode cX7_lighter 30 = .ok (.getfield 10, 3) := dc180 bqX7_lighter_24 6 rfl rfl rfl
theorem dX7_lighter_33 : decode cX7_lighter 33 = .ok (.getfield 111, 3) := dc180 bqX7_lighter_24 9 rfl rfl rfl
theorem dX7_lighter_36 : decode cX7_lighter 36 = .ok (.bipush 8, 2) := dc16 bqX7_lighter_24 12 rfl rfl rfl
theorem dX7_lighter_38 : decode cX7_lighter 38 = .ok (.if_icmp .lt 6, 3) := dc161 bqX7_lighter_24 14 rfl rfl rfl
theorem dX7_lighter_41 : decode cX7_lighter 41 = .ok (.bipush (-3), 2) := dc16 bqX7_lighter_24 17 rfl rfl rfl
theorem dX7_lighter_43 : decode cX7_lighter 43 = .ok (.ireturn, 1) := dc172 bqX7_lighter_24 19 rfl rfl
theorem dX7_lighter_44 : decode cX7_lighter 44 = .ok (.aload_n 0, 1) := dc42 bqX7_lighter_24 20 rfl rfl
theorem dX7_lighter_45 : decode cX7_lighter 45 = .ok (.getfield 37, 3) := dc180 bqX7_lighter_24 21 rfl rfl rfl
theorem bqX7_lighter_48 : hs_bs cX7_lighter 48 [42, 180, 0, 10, 182, 0, 155, 42, 180, 0, 37, 27, 28, 182, 0, 158, 154, 0, 6, 16, 254, 172, 42] := hs_bs_of _ _ _ (by decide +kernel)
theorem dX7_lighter_48 : decode cX7_lighter 48 = .ok (.aload_n 0, 1) := dc42 bqX7_lighter_48 0 rfl rfl
theorem dX7_lighter_49 : decode cX7_lighter 49 = .ok (.getfield 10, 3) := dc180 bqX7_lighter_48 1 rfl rfl rfl
theorem dX7_lighter_52 : decode cX7_lighter 52 = .ok (.invokevirtual 155, 3) := dc182 bqX7_lighter_48 4 rfl rfl rfl
theorem dX7_lighter_55 : decode cX7_lighter 55 = .ok (.aload_n 0, 1) := dc42 bqX7_lighter_48 7 rfl rfl
theorem dX7_lighter_56 : decode cX7_lighter 56 = .ok (.getfield 37, 3) := dc180 bqX7_lighter_48 8 rfl rfl rfl
theorem dX7_lighter_59 : decode cX7_lighter 59 = .ok (.iload_n 1, 1) := dc27 bqX7_lighter_48 11 rfl rfl
theorem dX7_lighter_60 : decode cX7_lighter 60 = .ok (.iload_n 2, 1) := dc28 bqX7_lighter_48 12 rfl rfl
theorem dX7_lighter_61 : decode cX7_lighter 61 = .ok (.invokevirtual 158, 3) := dc182 bqX7_lighter_48 13 rfl rfl rfl
theorem dX7_lighter_64 : decode cX7_lighter 64 = .ok (.ifCond .ne 6, 3) := dc154 bqX7_lighter_48 16 rfl rfl rfl
theorem dX7_lighter_67 : decode cX7_lighter 67 = .ok (.bipush (-2), 2) := dc16 bqX7_lighter_48 19 rfl rfl rfl
theorem dX7_lighter_69 : decode cX7_lighter 69 = .ok (.ireturn, 1) := dc172 bqX7_lighter_48 21 rfl rfl
theorem dX7_lighter_70 : decode cX7_lighter 70 = .ok (.aload_n 0, 1) := dc42 bqX7_lighter_48 22 rfl rfl
theorem bqX7_lighter_71 : hs_bs cX7_lighter 71 [180, 0, 10, 27, 28, 182, 0, 162, 42, 180, 0, 10, 180, 0, 111, 172] := hs_bs_of _ _ _ (by decide +kernel)
theorem dX7_lighter_71 : decode cX7_lighter 71 = .ok (.getfield 10, 3) := dc180 bqX7_lighter_71 0 rfl rfl rfl
theorem dX7_lighter_74 : decode cX7_lighter 74 = .ok (.iload_n 1, 1) := dc27 bqX7_lighter_71 3 rfl rfl
theorem dX7_lighter_75 : decode cX7_lighter 75 = .ok (.iload_n 2, 1) := dc28 bqX7_lighter_71 4 rfl rfl
theorem dX7_lighter_76 : decode cX7_lighter 76 = .ok (.invokevirtual 162, 3) := dc182 bqX7_lighter_71 5 rfl rfl rfl
theorem dX7_lighter_79 : decode cX7_lighter 79 = .ok (.aload_n 0, 1) := dc42 bqX7_lighter_71 8 rfl rfl
theorem dX7_lighter_80 : decode cX7_lighter 80 = .ok (.getfield 10, 3) := dc180 bqX7_lighter_71 9 rfl rfl rfl
theorem dX7_lighter_83 : decode cX7_lighter 83 = .ok (.getfield 111, 3) := dc180 bqX7_lighter_71 12 rfl rfl rfl
theorem dX7_lighter_86 : decode cX7_lighter 86 = .ok (.ireturn, 1) := dc172 bqX7_lighter_71 15 rfl rfl
set_option maxRecDepth 20000 in
theorem gX7_worth_X6_isPerson : GoodIn wsX7_worth (wsV RX7 125 RX6 yX6_isPerson wsX6_isPerson) := hs_gC (hs_gV (hs_inG 2 208 rfl rfl) (hs_inG 2 209 rfl rfl) (hs_inG 2 210 rfl rfl) (hs_inG 1 2 rfl rfl) inC_X6_isPerson)
set_option maxRecDepth 20000 in
theorem gX7_worth_X6_allCells : GoodIn wsX7_worth (wsV RX7 166 RX6 yX6_allCells wsX6_allCells) := hs_gC (hs_gV (hs_inG 3 36 rfl rfl) (hs_inG 3 37 rfl rfl) (hs_inG 3 38 rfl rfl) (hs_inG 1 2 rfl rfl) inC_X6_allCells)
set_option maxRecDepth 20000 in
theorem gX7_worth_X7_within : GoodIn wsX7_worth (va_wsS RX7 59 yX7_within wsX7_within) := hs_gC (hs_gS (hs_inG 2 10 rfl rfl) (hs_inG 2 11 rfl rfl) (hs_inG 1 1 rfl rfl) inC_X7_within)
set_option maxRecDepth 20000 in
theorem gX7_worth_X6_worthOf : GoodIn wsX7_worth (wsV RX7 169 RX6 yX6_worthOf wsX6_worthOf) := hs_gC (hs_gV (hs_inG 3 40 rfl rfl) (hs_inG 3 41 rfl rfl) (hs_inG 3 42 rfl rfl) (hs_inG 1 2 rfl rfl) inC_X6_worthOf)
theorem bqX7_worth_0 : hs_bs cX7_worth 0 [42, 180, 0, 10, 27, 182, 0, 125, 153, 0, 18, 28, 3, 42, 180, 0, 10, 182, 0, 166, 184, 0, 59] := hs_bs_of _ _ _ (by decide +kernel)
theorem dX7_worth_0 : decode cX7_worth 0 = .ok (.aload_n 0, 1) := dc42 bqX7_worth_0 0 rfl rfl
theorem dX7_worth_1 : decode cX7_worth 1 = .ok (.getfield 10, 3) := dc180 bqX7_worth_0 1 rfl rfl rfl
theorem dX7_worth_4 : decode cX7_worth 4 = .ok (.iload_n 1, 1) := dc27 bqX7_worth_0 4 rfl rfl
theorem dX7_worth_5 : decode cX7_worth 5 = .ok (.invokevirtual 125, 3) := dc182 bqX7_worth_0 5 rfl rfl rfl
theorem dX7_worth_8 : decode cX7_worth 8 = .ok (.ifCond .eq 18, 3) := dc153 bqX7_worth_0 8 rfl rfl rfl
theorem dX7_worth_11 : decode cX7_worth 11 = .ok (.iload_n 2, 1) := dc28 bqX7_worth_0 11 rfl rfl
theorem dX7_worth_12 : decode cX7_worth 12 = .ok (.iconst 0, 1) := dc3 bqX7_worth_0 12 rfl rfl
theorem dX7_worth_13 : decode cX7_worth 13 = .ok (.aload_n 0, 1) := dc42 bqX7_worth_0 13 rfl rfl
theorem dX7_worth_14 : decode cX7_worth 14 = .ok (.getfield 10, 3) := dc180 bqX7_worth_0 14 rfl rfl rfl
theorem dX7_worth_17 : decode cX7_worth 17 = .ok (.invokevirtual 166, 3) := dc182 bqX7_worth_0 17 rfl rfl rfl
theorem dX7_worth_20 : decode cX7_worth 20 = .ok (.invokestatic 59, 3) := dc184 bqX7_worth_0 20 rfl rfl rfl
theorem bqX7_worth_23 : hs_bs cX7_worth 23 [154, 0, 5, 2, 172, 42, 180, 0, 10, 27, 28, 182, 0, 169, 172] := hs_bs_of _ _ _ (by decide +kernel)
theorem dX7_worth_23 : decode cX7_worth 23 = .ok (.ifCond .ne 5, 3) := dc154 bqX7_worth_23 0 rfl rfl rfl
theorem dX7_worth_26 : decode cX7_worth 26 = .ok (.iconst (-1), 1) := dc2 bqX7_worth_23 3 rfl rfl
theorem dX7_worth_27 : decode cX7_worth 27 = .ok (.ireturn, 1) := dc172 bqX7_worth_23 4 rfl rfl
theorem dX7_worth_28 : decode cX7_worth 28 = .ok (.aload_n 0, 1) := dc42 bqX7_worth_23 5 rfl rfl
theorem dX7_worth_29 : decode cX7_worth 29 = .ok (.getfield 10, 3) := dc180 bqX7_worth_23 6 rfl rfl rfl
theorem dX7_worth_32 : decode cX7_worth 32 = .ok (.iload_n 1, 1) := dc27 bqX7_worth_23 9 rfl rfl
theorem dX7_worth_33 : decode cX7_worth 33 = .ok (.iload_n 2, 1) := dc28 bqX7_worth_23 10 rfl rfl
theorem dX7_worth_34 : decode cX7_worth 34 = .ok (.invokevirtual 169, 3) := dc182 bqX7_worth_23 11 rfl rfl rfl
theorem dX7_worth_37 : decode cX7_worth 37 = .ok (.ireturn, 1) := dc172 bqX7_worth_23 14 rfl rfl
set_option maxRecDepth 20000 in
theorem gX7_finds_X6_isPerson : GoodIn wsX7_finds (wsV RX7 125 RX6 yX6_isPerson wsX6_isPerson) := hs_gC (hs_gV (hs_inG 2 208 rfl rfl) (hs_inG 2 209 rfl rfl) (hs_inG 2 210 rfl rfl) (hs_inG 1 2 rfl rfl) inC_X6_isPerson)
set_option maxRecDepth 20000 in
theorem gX7_finds_X6_isCut : GoodIn wsX7_finds (wsV RX7 172 RX6 yX6_isCut wsX6_isCut) := hs_gC (hs_gV (hs_inG 3 52 rfl rfl) (hs_inG 3 53 rfl rfl) (hs_inG 3 54 rfl rfl) (hs_inG 1 2 rfl rfl) inC_X6_isCut)
set_option maxRecDepth 20000 in
theorem gX7_finds_X6_verdict : GoodIn wsX7_finds (wsV RX7 175 RX6 yX6_verdict wsX6_verdict) := hs_gC (hs_gV (hs_inG 3 56 rfl rfl) (hs_inG 3 57 rfl rfl) (hs_inG 3 58 rfl rfl) (hs_inG 1 2 rfl rfl) inC_X6_verdict)
theorem bqX7_finds_0 : hs_bs cX7_finds 0 [42, 180, 0, 10, 27, 182, 0, 125, 153, 0, 14, 42, 180, 0, 10, 28, 182, 0, 172, 154, 0, 5, 2, 172] := hs_bs_of _ _ _ (by decide +kernel)
theorem dX7_finds_0 : decode cX7_finds 0 = .ok (.aload_n 0, 1) := dc42 bqX7_finds_0 0 rfl rfl
theorem dX7_finds_1 : decode cX7_finds 1 = .ok (.getfield 10, 3) := dc180 bqX7_finds_0 1 rfl rfl rfl
theorem dX7_finds_4 : decode cX7_finds 4 = .ok (.iload_n 1, 1) := dc27 bqX7_finds_0 4 rfl rfl
theorem dX7_finds_5 : decode cX7_finds 5 = .ok (.invokevirtual 125, 3) := dc182 bqX7_finds_0 5 rfl rfl rfl
theorem dX7_finds_8 : decode cX7_finds 8 = .ok (.ifCond .eq 14, 3) := dc153 bqX7_finds_0 8 rfl rfl rfl
theorem dX7_finds_11 : decode cX7_finds 11 = .ok (.aload_n 0, 1) := dc42 bqX7_finds_0 11 rfl rfl
theorem dX7_finds_12 : decode cX7_finds 12 = .ok (.getfield 10, 3) := dc180 bqX7_finds_0 12 rfl rfl rfl
theorem dX7_finds_15 : decode cX7_finds 15 = .ok (.iload_n 2, 1) := dc28 bqX7_finds_0 15 rfl rfl
theorem dX7_finds_16 : decode cX7_finds 16 = .ok (.invokevirtual 172, 3) := dc182 bqX7_finds_0 16 rfl rfl rfl
theorem dX7_finds_19 : decode cX7_finds 19 = .ok (.ifCond .ne 5, 3) := dc154 bqX7_finds_0 19 rfl rfl rfl
theorem dX7_finds_22 : decode cX7_finds 22 = .ok (.iconst (-1), 1) := dc2 bqX7_finds_0 22 rfl rfl
theorem dX7_finds_23 : decode cX7_finds 23 = .ok (.ireturn, 1) := dc172 bqX7_finds_0 23 rfl rfl
theorem bqX7_finds_24 : hs_bs cX7_finds 24 [42, 180, 0, 10, 27, 28, 182, 0, 175, 172] := hs_bs_of _ _ _ (by decide +kernel)
theorem dX7_finds_24 : decode cX7_finds 24 = .ok (.aload_n 0, 1) := dc42 bqX7_finds_24 0 rfl rfl
theorem dX7_finds_25 : decode cX7_finds 25 = .ok (.getfield 10, 3) := dc180 bqX7_finds_24 1 rfl rfl rfl
theorem dX7_finds_28 : decode cX7_finds 28 = .ok (.iload_n 1, 1) := dc27 bqX7_finds_24 4 rfl rfl
theorem dX7_finds_29 : decode cX7_finds 29 = .ok (.iload_n 2, 1) := dc28 bqX7_finds_24 5 rfl rfl
theorem dX7_finds_30 : decode cX7_finds 30 = .ok (.invokevirtual 175, 3) := dc182 bqX7_finds_24 6 rfl rfl rfl
theorem dX7_finds_33 : decode cX7_finds 33 = .ok (.ireturn, 1) := dc172 bqX7_finds_24 9 rfl rfl
set_option maxRecDepth 20000 in
theorem gX7_just_X6_isCut : GoodIn wsX7_just (wsV RX7 172 RX6 yX6_isCut wsX6_isCut) := hs_gC (hs_gV (hs_inG 3 52 rfl rfl) (hs_inG 3 53 rfl rfl) (hs_inG 3 54 rfl rfl) (hs_inG 1 2 rfl rfl) inC_X6_isCut)
set_option maxRecDepth 20000 in
theorem gX7_just_X6_justTo : GoodIn wsX7_just (wsV RX7 178 RX6 yX6_justTo wsX6_justTo) := hs_gC (hs_gV (hs_inG 3 75 rfl rfl) (hs_inG 3 76 rfl rfl) (hs_inG 3 77 rfl rfl) (hs_inG 1 2 rfl rfl) inC_X6_justTo)
theorem bqX7_just_0 : hs_bs cX7_just 0 [42, 180, 0, 10, 27, 182, 0, 172, 153, 0, 14, 42, 180, 0, 10, 27, 182, 0, 178, 167, 0, 4, 2, 172] := hs_bs_of _ _ _ (by decide +kernel)
theorem dX7_just_0 : decode cX7_just 0 = .ok (.aload_n 0, 1) := dc42 bqX7_just_0 0 rfl rfl
theorem dX7_just_1 : decode cX7_just 1 = .ok (.getfield 10, 3) := dc180 bqX7_just_0 1 rfl rfl rfl
theorem dX7_just_4 : decode cX7_just 4 = .ok (.iload_n 1, 1) := dc27 bqX7_just_0 4 rfl rfl
theorem dX7_just_5 : decode cX7_just 5 = .ok (.invokevirtual 172, 3) := dc182 bqX7_just_0 5 rfl rfl rfl
theorem dX7_just_8 : decode cX7_just 8 = .ok (.ifCond .eq 14, 3) := dc153 bqX7_just_0 8 rfl rfl rfl
theorem dX7_just_11 : decode cX7_just 11 = .ok (.aload_n 0, 1) := dc42 bqX7_just_0 11 rfl rfl
theorem dX7_just_12 : decode cX7_just 12 = .ok (.getfield 10, 3) := dc180 bqX7_just_0 12 rfl rfl rfl
theorem dX7_just_15 : decode cX7_just 15 = .ok (.iload_n 1, 1) := dc27 bqX7_just_0 15 rfl rfl
theorem dX7_just_16 : decode cX7_just 16 = .ok (.invokevirtual 178, 3) := dc182 bqX7_just_0 16 rfl rfl rfl
theorem dX7_just_19 : decode cX7_just 19 = .ok (.goto 4, 3) := dc167 bqX7_just_0 19 rfl rfl rfl
theorem dX7_just_22 : decode cX7_just 22 = .ok (.iconst (-1), 1) := dc2 bqX7_just_0 22 rfl rfl
theorem dX7_just_23 : decode cX7_just 23 = .ok (.ireturn, 1) := dc172 bqX7_just_0 23 rfl rfl
set_option maxRecDepth 20000 in
theorem gX7_middle_X7_within : GoodIn wsX7_middle (va_wsS RX7 59 yX7_within wsX7_within) := hs_gC (hs_gS (hs_inG 2 10 rfl rfl) (hs_inG 2 11 rfl rfl) (hs_inG 1 1 rfl rfl) inC_X7_within)
set_option maxRecDepth 20000 in
theorem gX7_middle_X6_justTo : GoodIn wsX7_middle (wsV RX7 178 RX6 yX6_justTo wsX6_justTo) := hs_gC (hs_gV (hs_inG 3 75 rfl rfl) (hs_inG 3 76 rfl rfl) (hs_inG 3 77 rfl rfl) (hs_inG 1 2 rfl rfl) inC_X6_justTo)
set_option maxRecDepth 20000 in
theorem gX7_middle_J6_bitCount_0f7a4 : GoodIn wsX7_middle (va_wsS RX7 181 yJ6_bitCount_0f7a4 wsJ6_bitCount_0f7a4) := hs_gC (hs_gS (hs_inG 3 84 rfl rfl) (hs_inG 3 85 rfl rfl) (hs_inG 1 15 rfl rfl) inC_J6_bitCount_0f7a4)
theorem bqX7_middle_0 : hs_bs cX7_middle 0 [27, 3, 4, 184, 0, 59, 154, 0, 5, 2, 172, 4, 61, 42, 180, 0, 10, 4, 182, 0, 178, 184, 0, 181] := hs_bs_of _ _ _ (by decide +kernel)
theorem dX7_middle_0 : decode cX7_middle 0 = .ok (.iload_n 1, 1) := dc27 bqX7_middle_0 0 rfl rfl
theorem dX7_middle_1 : decode cX7_middle 1 = .ok (.iconst 0, 1) := dc3 bqX7_middle_0 1 rfl rfl
theorem dX7_middle_2 : decode cX7_middle 2 = .ok (.iconst 1, 1) := dc4 bqX7_middle_0 2 rfl rfl
theorem dX7_middle_3 : decode cX7_middle 3 = .ok (.invokestatic 59, 3) := dc184 bqX7_middle_0 3 rfl rfl rfl
theorem dX7_middle_6 : decode cX7_middle 6 = .ok (.ifCond .ne 5, 3) := dc154 bqX7_middle_0 6 rfl rfl rfl
theorem dX7_middle_9 : decode cX7_middle 9 = .ok (.iconst (-1), 1) := dc2 bqX7_middle_0 9 rfl rfl
theorem dX7_middle_10 : decode cX7_middle 10 = .ok (.ireturn, 1) := dc172 bqX7_middle_0 10 rfl rfl
theorem dX7_middle_11 : decode cX7_middle 11 = .ok (.iconst 1, 1) := dc4 bqX7_middle_0 11 rfl rfl
theorem dX7_middle_12 : decode cX7_middle 12 = .ok (.istore_n 2, 1) := dc61 bqX7_middle_0 12 rfl rfl
theorem dX7_middle_13 : decode cX7_middle 13 = .ok (.aload_n 0, 1) := dc42 bqX7_middle_0 13 rfl rfl
theorem dX7_middle_14 : decode cX7_middle 14 = .ok (.getfield 10, 3) := dc180 bqX7_middle_0 14 rfl rfl rfl
theorem dX7_middle_17 : decode cX7_middle 17 = .ok (.iconst 1, 1) := dc4 bqX7_middle_0 17 rfl rfl
theorem dX7_middle_18 : decode cX7_middle 18 = .ok (.invokevirtual 178, 3) := dc182 bqX7_middle_0 18 rfl rfl rfl
theorem dX7_middle_21 : decode cX7_middle 21 = .ok (.invokestatic 181, 3) := dc184 bqX7_middle_0 21 rfl rfl rfl
theorem bqX7_middle_24 : hs_bs cX7_middle 24 [62, 5, 54, 4, 21, 4, 42, 180, 0, 10, 180, 0, 93, 162, 0, 35, 42, 180, 0, 10, 21, 4] := hs_bs_of _ _ _ (by decide +kernel)
theorem dX7_middle_24 : decode cX7_middle 24 = .ok (.istore_n 3, 1) := dc62 bqX7_middle_24 0 rfl rfl
theorem dX7_middle_25 : decode cX7_middle 25 = .ok (.iconst 2, 1) := dc5 bqX7_middle_24 1 rfl rfl
theorem dX7_middle_26 : decode cX7_middle 26 = .ok (.istore 4, 2) := dc54 bqX7_middle_24 2 rfl rfl
theorem dX7_middle_28 : decode cX7_middle 28 = .ok (.iload 4, 2) := dc21 bqX7_middle_24 4 rfl rfl
theorem dX7_middle_30 : decode cX7_middle 30 = .ok (.aload_n 0, 1) := dc42 bqX7_middle_24 6 rfl rfl
theorem dX7_middle_31 : decode cX7_middle 31 = .ok (.getfield 10, 3) := dc180 bqX7_middle_24 7 rfl rfl rfl
theorem dX7_middle_34 : decode cX7_middle 34 = .ok (.getfield 93, 3) := dc180 bqX7_middle_24 10 rfl rfl rfl
theorem dX7_middle_37 : decode cX7_middle 37 = .ok (.if_icmp .ge 35, 3) := dc162 bqX7_middle_24 13 rfl rfl rfl
theorem dX7_middle_40 : decode cX7_middle 40 = .ok (.aload_n 0, 1) := dc42 bqX7_middle_24 16 rfl rfl
theorem dX7_middle_41 : decode cX7_middle 41 = .ok (.getfield 10, 3) := dc180 bqX7_middle_24 17 rfl rfl rfl
theorem dX7_middle_44 : decode cX7_middle 44 = .ok (.iload 4, 2) := dc21 bqX7_middle_24 20 rfl rfl
theorem bqX7_middle_46 : hs_bs cX7_middle 46 [182, 0, 178, 184, 0, 181, 54, 5, 21, 5, 29, 164, 0, 9, 21, 4, 61, 21, 5, 62, 132, 4, 1] := hs_bs_of _ _ _ (by decide +kernel)
theorem dX7_middle_46 : decode cX7_middle 46 = .ok (.invokevirtual 178, 3) := dc182 bqX7_middle_46 0 rfl rfl rfl
theorem dX7_middle_49 : decode cX7_middle 49 = .ok (.invokestatic 181, 3) := dc184 bqX7_middle_46 3 rfl rfl rfl
theorem dX7_middle_52 : decode cX7_middle 52 = .ok (.istore 5, 2) := dc54 bqX7_middle_46 6 rfl rfl
theorem dX7_middle_54 : decode cX7_middle 54 = .ok (.iload 5, 2) := dc21 bqX7_middle_46 8 rfl rfl
theorem dX7_middle_56 : decode cX7_middle 56 = .ok (.iload_n 3, 1) := dc29 bqX7_middle_46 10 rfl rfl
theorem dX7_middle_57 : decode cX7_middle 57 = .ok (.if_icmp .le 9, 3) := dc164 bqX7_middle_46 11 rfl rfl rfl
theorem dX7_middle_60 : decode cX7_middle 60 = .ok (.iload 4, 2) := dc21 bqX7_middle_46 14 rfl rfl
theorem dX7_middle_62 : decode cX7_middle 62 = .ok (.istore_n 2, 1) := dc61 bqX7_middle_46 16 rfl rfl
theorem dX7_middle_63 : decode cX7_middle 63 = .ok (.iload 5, 2) := dc21 bqX7_middle_46 17 rfl rfl
theorem dX7_middle_65 : decode cX7_middle 65 = .ok (.istore_n 3, 1) := dc62 bqX7_middle_46 19 rfl rfl
theorem dX7_middle_66 : decode cX7_middle 66 = .ok (.iinc 4 1, 3) := dc132 bqX7_middle_46 20 rfl rfl rfl
theorem bqX7_middle_69 : hs_bs cX7_middle 69 [167, 255, 215, 27, 154, 0, 7, 28, 167, 0, 4, 29, 172] := hs_bs_of _ _ _ (by decide +kernel)
theorem dX7_middle_69 : decode cX7_middle 69 = .ok (.goto (-41), 3) := dc167 bqX7_middle_69 0 rfl rfl rfl
theorem dX7_middle_72 : decode cX7_middle 72 = .ok (.iload_n 1, 1) := dc27 bqX7_middle_69 3 rfl rfl
theorem dX7_middle_73 : decode cX7_middle 73 = .ok (.ifCond .ne 7, 3) := dc154 bqX7_middle_69 4 rfl rfl rfl
theorem dX7_middle_76 : decode cX7_middle 76 = .ok (.iload_n 2, 1) := dc28 bqX7_middle_69 7 rfl rfl
theorem dX7_middle_77 : decode cX7_middle 77 = .ok (.goto 4, 3) := dc167 bqX7_middle_69 8 rfl rfl rfl
theorem dX7_middle_80 : decode cX7_middle 80 = .ok (.iload_n 3, 1) := dc29 bqX7_middle_69 11 rfl rfl
theorem dX7_middle_81 : decode cX7_middle 81 = .ok (.ireturn, 1) := dc172 bqX7_middle_69 12 rfl rfl
set_option maxRecDepth 20000 in
theorem gX7_honest_X6_isPerson : GoodIn wsX7_honest (wsV RX7 125 RX6 yX6_isPerson wsX6_isPerson) := hs_gC (hs_gV (hs_inG 2 208 rfl rfl) (hs_inG 2 209 rfl rfl) (hs_inG 2 210 rfl rfl) (hs_inG 1 2 rfl rfl) inC_X6_isPerson)
set_option maxRecDepth 20000 in
theorem gX7_honest_X1_honestCut : GoodIn wsX7_honest (va_wsS RX7 186 yX1_honestCut wsX1_honestCut) := hs_gC (hs_gS (hs_inG 3 94 rfl rfl) (hs_inG 3 95 rfl rfl) (hs_inG 1 16 rfl rfl) inC_X1_honestCut)
theorem bqX7_honest_0 : hs_bs cX7_honest 0 [42, 180, 0, 10, 27, 182, 0, 125, 153, 0, 14, 42, 180, 0, 10, 27, 184, 0, 186, 167, 0, 4, 2, 172] := hs_bs_of _ _ _ (by decide +kernel)
theorem dX7_honest_0 : decode cX7_honest 0 = .ok (.aload_n 0, 1) := dc42 bqX7_honest_0 0 rfl rfl
theorem dX7_honest_1 : decode cX7_honest 1 = .ok (.getfield 10, 3) := dc180 bqX7_honest_0 1 rfl rfl rfl
theorem dX7_honest_4 : decode cX7_honest 4 = .ok (.iload_n 1, 1) := dc27 bqX7_honest_0 4 rfl rfl
theorem dX7_honest_5 : decode cX7_honest 5 = .ok (.invokevirtual 125, 3) := dc182 bqX7_honest_0 5 rfl rfl rfl
theorem dX7_honest_8 : decode cX7_honest 8 = .ok (.ifCond .eq 14, 3) := dc153 bqX7_honest_0 8 rfl rfl rfl
theorem dX7_honest_11 : decode cX7_honest 11 = .ok (.aload_n 0, 1) := dc42 bqX7_honest_0 11 rfl rfl
theorem dX7_honest_12 : decode cX7_honest 12 = .ok (.getfield 10, 3) := dc180 bqX7_honest_0 12 rfl rfl rfl
theorem dX7_honest_15 : decode cX7_honest 15 = .ok (.iload_n 1, 1) := dc27 bqX7_honest_0 15 rfl rfl
theorem dX7_honest_16 : decode cX7_honest 16 = .ok (.invokestatic 186, 3) := dc184 bqX7_honest_0 16 rfl rfl rfl
theorem dX7_honest_19 : decode cX7_honest 19 = .ok (.goto 4, 3) := dc167 bqX7_honest_0 19 rfl rfl rfl
theorem dX7_honest_22 : decode cX7_honest 22 = .ok (.iconst (-1), 1) := dc2 bqX7_honest_0 22 rfl rfl
theorem dX7_honest_23 : decode cX7_honest 23 = .ok (.ireturn, 1) := dc172 bqX7_honest_0 23 rfl rfl
set_option maxRecDepth 20000 in
theorem gX7_chosen_X7_areTwo : GoodIn wsX7_chosen (wsV RX7 192 RX7 yX7_areTwo wsX7_areTwo) := hs_gC (hs_gV (hs_inG 3 104 rfl rfl) (hs_inG 3 106 rfl rfl) (hs_inG 0 13 rfl rfl) (hs_inG 1 1 rfl rfl) inC_X7_areTwo)
set_option maxRecDepth 20000 in
theorem gX7_chosen_X7_within : GoodIn wsX7_chosen (va_wsS RX7 59 yX7_within wsX7_within) := hs_gC (hs_gS (hs_inG 2 10 rfl rfl) (hs_inG 2 11 rfl rfl) (hs_inG 1 1 rfl rfl) inC_X7_within)
set_option maxRecDepth 20000 in
theorem gX7_chosen_X1_honestCut : GoodIn wsX7_chosen (va_wsS RX7 186 yX1_honestCut wsX1_honestCut) := hs_gC (hs_gS (hs_inG 3 94 rfl rfl) (hs_inG 3 95 rfl rfl) (hs_inG 1 16 rfl rfl) inC_X1_honestCut)
set_option maxRecDepth 20000 in
theorem gX7_chosen_X1_choice : GoodIn wsX7_chosen (va_wsS RX7 195 yX1_choice wsX1_choice) := hs_gC (hs_gS (hs_inG 3 108 rfl rfl) (hs_inG 3 109 rfl rfl) (hs_inG 1 16 rfl rfl) inC_X1_choice)
set_option maxRecDepth 20000 in
theorem gX7_chosen_X6_allCells : GoodIn wsX7_chosen (wsV RX7 166 RX6 yX6_allCells wsX6_allCells) := hs_gC (hs_gV (hs_inG 3 36 rfl rfl) (hs_inG 3 37 rfl rfl) (hs_inG 3 38 rfl rfl) (hs_inG 1 2 rfl rfl) inC_X6_allCells)
set_option maxRecDepth 20000 in
theorem gX7_chosen_X6_worthOf : GoodIn wsX7_chosen (wsV RX7 169 RX6 yX6_worthOf wsX6_worthOf) := hs_gC (hs_gV (hs_inG 3 40 rfl rfl) (hs_inG 3 41 rfl rfl) (hs_inG 3 42 rfl rfl) (hs_inG 1 2 rfl rfl) inC_X6_worthOf)
theorem bqX7_chosen_0 : hs_bs cX7_chosen 0 [42, 27, 28, 182, 0, 192, 153, 0, 12, 29, 3, 5, 184, 0, 59, 154, 0, 5, 2, 172, 42, 180, 0, 10] := hs_bs_of _ _ _ (by decide +kernel)
theorem dX7_chosen_0 : decode cX7_chosen 0 = .ok (.aload_n 0, 1) := dc42 bqX7_chosen_0 0 rfl rfl
theorem dX7_chosen_1 : decode cX7_chosen 1 = .ok (.iload_n 1, 1) := dc27 bqX7_chosen_0 1 rfl rfl
theorem dX7_chosen_2 : decode cX7_chosen 2 = .ok (.iload_n 2, 1) := dc28 bqX7_chosen_0 2 rfl rfl
theorem dX7_chosen_3 : decode cX7_chosen 3 = .ok (.invokevirtual 192, 3) := dc182 bqX7_chosen_0 3 rfl rfl rfl
theorem dX7_chosen_6 : decode cX7_chosen 6 = .ok (.ifCond .eq 12, 3) := dc153 bqX7_chosen_0 6 rfl rfl rfl
theorem dX7_chosen_9 : decode cX7_chosen 9 = .ok (.iload_n 3, 1) := dc29 bqX7_chosen_0 9 rfl rfl
theorem dX7_chosen_10 : decode cX7_chosen 10 = .ok (.iconst 0, 1) := dc3 bqX7_chosen_0 10 rfl rfl
theorem dX7_chosen_11 : decode cX7_chosen 11 = .ok (.iconst 2, 1) := dc5 bqX7_chosen_0 11 rfl rfl
theorem dX7_chosen_12 : decode cX7_chosen 12 = .ok (.invokestatic 59, 3) := dc184 bqX7_chosen_0 12 rfl rfl rfl
theorem dX7_chosen_15 : decode cX7_chosen 15 = .ok (.ifCond .ne 5, 3) := dc154 bqX7_chosen_0 15 rfl rfl rfl
theorem dX7_chosen_18 : decode cX7_chosen 18 = .ok (.iconst (-1), 1) := dc2 bqX7_chosen_0 18 rfl rfl
theorem dX7_chosen_19 : decode cX7_chosen 19 = .ok (.ireturn, 1) := dc172 bqX7_chosen_0 19 rfl rfl
theorem dX7_chosen_20 : decode cX7_chosen 20 = .ok (.aload_n 0, 1) := dc42 bqX7_chosen_0 20 rfl rfl
theorem dX7_chosen_21 : decode cX7_chosen 21 = .ok (.getfield 10, 3) := dc180 bqX7_chosen_0 21 rfl rfl rfl
theorem bqX7_chosen_24 : hs_bs cX7_chosen 24 [28, 42, 180, 0, 10, 27, 184, 0, 186, 184, 0, 195, 54, 4, 42, 180, 0, 10, 182, 0, 166, 21, 4, 2] := hs_bs_of _ _ _ (by decide +kernel)
theorem dX7_chosen_24 : decode cX7_chosen 24 = .ok (.iload_n 2, 1) := dc28 bqX7_chosen_24 0 rfl rfl
theorem dX7_chosen_25 : decode cX7_chosen 25 = .ok (.aload_n 0, 1) := dc42 bqX7_chosen_24 1 rfl rfl
theorem dX7_chosen_26 : decode cX7_chosen 26 = .ok (.getfield 10, 3) := dc180 bqX7_chosen_24 2 rfl rfl rfl
theorem dX7_chosen_29 : decode cX7_chosen 29 = .ok (.iload_n 1, 1) := dc27 bqX7_chosen_24 5 rfl rfl
theorem dX7_chosen_30 : decode cX7_chosen 30 = .ok (.invokestatic 186, 3) := dc184 bqX7_chosen_24 6 rfl rfl rfl
theorem dX7_chosen_33 : decode cX7_chosen 33 = .ok (.invokestatic 195, 3) := dc184 bqX7_chosen_24 9 rfl rfl rfl
theorem dX7_chosen_36 : decode cX7_chosen 36 = .ok (.istore 4, 2) := dc54 bqX7_chosen_24 12 rfl rfl
theorem dX7_chosen_38 : decode cX7_chosen 38 = .ok (.aload_n 0, 1) := dc42 bqX7_chosen_24 14 rfl rfl
theorem dX7_chosen_39 : decode cX7_chosen 39 = .ok (.getfield 10, 3) := dc180 bqX7_chosen_24 15 rfl rfl rfl
theorem dX7_chosen_42 : decode cX7_chosen 42 = .ok (.invokevirtual 166, 3) := dc182 bqX7_chosen_24 18 rfl rfl rfl
theorem dX7_chosen_45 : decode cX7_chosen 45 = .ok (.iload 4, 2) := dc21 bqX7_chosen_24 21 rfl rfl
theorem dX7_chosen_47 : decode cX7_chosen 47 = .ok (.iconst (-1), 1) := dc2 bqX7_chosen_24 23 rfl rfl
theorem bqX7_chosen_48 : hs_bs cX7_chosen 48 [130, 126, 54, 5, 29, 154, 0, 14, 42, 180, 0, 10, 27, 21, 5, 182, 0, 169, 172, 29, 4, 160, 0, 14] := hs_bs_of _ _ _ (by decide +kernel)
theorem dX7_chosen_48 : decode cX7_chosen 48 = .ok (.ixor, 1) := dc130 bqX7_chosen_48 0 rfl rfl
theorem dX7_chosen_49 : decode cX7_chosen 49 = .ok (.iand, 1) := dc126 bqX7_chosen_48 1 rfl rfl
theorem dX7_chosen_50 : decode cX7_chosen 50 = .ok (.istore 5, 2) := dc54 bqX7_chosen_48 2 rfl rfl
theorem dX7_chosen_52 : decode cX7_chosen 52 = .ok (.iload_n 3, 1) := dc29 bqX7_chosen_48 4 rfl rfl
theorem dX7_chosen_53 : decode cX7_chosen 53 = .ok (.ifCond .ne 14, 3) := dc154 bqX7_chosen_48 5 rfl rfl rfl
theorem dX7_chosen_56 : decode cX7_chosen 56 = .ok (.aload_n 0, 1) := dc42 bqX7_chosen_48 8 rfl rfl
theorem dX7_chosen_57 : decode cX7_chosen 57 = .ok (.getfield 10, 3) := dc180 bqX7_chosen_48 9 rfl rfl rfl
theorem dX7_chosen_60 : decode cX7_chosen 60 = .ok (.iload_n 1, 1) := dc27 bqX7_chosen_48 12 rfl rfl
theorem dX7_chosen_61 : decode cX7_chosen 61 = .ok (.iload 5, 2) := dc21 bqX7_chosen_48 13 rfl rfl
theorem dX7_chosen_63 : decode cX7_chosen 63 = .ok (.invokevirtual 169, 3) := dc182 bqX7_chosen_48 15 rfl rfl rfl
theorem dX7_chosen_66 : decode cX7_chosen 66 = .ok (.ireturn, 1) := dc172 bqX7_chosen_48 18 rfl rfl
theorem dX7_chosen_67 : decode cX7_chosen 67 = .ok (.iload_n 3, 1) := dc29 bqX7_chosen_48 19 rfl rfl
theorem dX7_chosen_68 : decode cX7_chosen 68 = .ok (.iconst 1, 1) := dc4 bqX7_chosen_48 20 rfl rfl
theorem dX7_chosen_69 : decode cX7_chosen 69 = .ok (.if_icmp .ne 14, 3) := dc160 bqX7_chosen_48 21 rfl rfl rfl
theorem bqX7_chosen_72 : hs_bs cX7_chosen 72 [42, 180, 0, 10, 28, 21, 4, 182, 0, 169, 172, 42, 180, 0, 10, 27, 21, 4, 182, 0, 169, 42] := hs_bs_of _ _ _ (by decide +kernel)
theorem dX7_chosen_72 : decode cX7_chosen 72 = .ok (.aload_n 0, 1) := dc42 bqX7_chosen_72 0 rfl rfl
theorem dX7_chosen_73 : decode cX7_chosen 73 = .ok (.getfield 10, 3) := dc180 bqX7_chosen_72 1 rfl rfl rfl
theorem dX7_chosen_76 : decode cX7_chosen 76 = .ok (.iload_n 2, 1) := dc28 bqX7_chosen_72 4 rfl rfl
theorem dX7_chosen_77 : decode cX7_chosen 77 = .ok (.iload 4, 2) := dc21 bqX7_chosen_72 5 rfl rfl
theorem dX7_chosen_79 : decode cX7_chosen 79 = .ok (.invokevirtual 169, 3) := dc182 bqX7_chosen_72 7 rfl rfl rfl
theorem dX7_chosen_82 : decode cX7_chosen 82 = .ok (.ireturn, 1) := dc172 bqX7_chosen_72 10 rfl rfl
theorem dX7_chosen_83 : decode cX7_chosen 83 = .ok (.aload_n 0, 1) := dc42 bqX7_chosen_72 11 rfl rfl
theorem dX7_chosen_84 : decode cX7_chosen 84 = .ok (.getfield 10, 3) := dc180 bqX7_chosen_72 12 rfl rfl rfl
theorem dX7_chosen_87 : decode cX7_chosen 87 = .ok (.iload_n 1, 1) := dc27 bqX7_chosen_72 15 rfl rfl
theorem dX7_chosen_88 : decode cX7_chosen 88 = .ok (.iload 4, 2) := dc21 bqX7_chosen_72 16 rfl rfl
theorem dX7_chosen_90 : decode cX7_chosen 90 = .ok (.invokevirtual 169, 3) := dc182 bqX7_chosen_72 18 rfl rfl rfl
theorem dX7_chosen_93 : decode cX7_chosen 93 = .ok (.aload_n 0, 1) := dc42 bqX7_chosen_72 21 rfl rfl
theorem bqX7_chosen_94 : hs_bs cX7_chosen 94 [180, 0, 10, 27, 21, 5, 182, 0, 169, 164, 0, 7, 4, 167, 0, 4, 3, 172] := hs_bs_of _ _ _ (by decide +kernel)
theorem dX7_chosen_94 : decode cX7_chosen 94 = .ok (.getfield 10, 3) := dc180 bqX7_chosen_94 0 rfl rfl rfl
theorem dX7_chosen_97 : decode cX7_chosen 97 = .ok (.iload_n 1, 1) := dc27 bqX7_chosen_94 3 rfl rfl
theorem dX7_chosen_98 : decode cX7_chosen 98 = .ok (.iload 5, 2) := dc21 bqX7_chosen_94 4 rfl rfl
theorem dX7_chosen_100 : decode cX7_chosen 100 = .ok (.invokevirtual 169, 3) := dc182 bqX7_chosen_94 6 rfl rfl rfl
theorem dX7_chosen_103 : decode cX7_chosen 103 = .ok (.if_icmp .le 7, 3) := dc164 bqX7_chosen_94 9 rfl rfl rfl
theorem dX7_chosen_106 : decode cX7_chosen 106 = .ok (.iconst 1, 1) := dc4 bqX7_chosen_94 12 rfl rfl
theorem dX7_chosen_107 : decode cX7_chosen 107 = .ok (.goto 4, 3) := dc167 bqX7_chosen_94 13 rfl rfl rfl
theorem dX7_chosen_110 : decode cX7_chosen 110 = .ok (.iconst 0, 1) := dc3 bqX7_chosen_94 16 rfl rfl
theorem dX7_chosen_111 : decode cX7_chosen 111 = .ok (.ireturn, 1) := dc172 bqX7_chosen_94 17 rfl rfl
set_option maxRecDepth 20000 in
theorem gX7_sly_X7_areTwo : GoodIn wsX7_sly (wsV RX7 192 RX7 yX7_areTwo wsX7_areTwo) := hs_gC (hs_gV (hs_inG 3 104 rfl rfl) (hs_inG 3 106 rfl rfl) (hs_inG 0 13 rfl rfl) (hs_inG 1 1 rfl rfl) inC_X7_areTwo)
set_option maxRecDepth 20000 in
theorem gX7_sly_X7_within : GoodIn wsX7_sly (va_wsS RX7 59 yX7_within wsX7_within) := hs_gC (hs_gS (hs_inG 2 10 rfl rfl) (hs_inG 2 11 rfl rfl) (hs_inG 1 1 rfl rfl) inC_X7_within)
set_option maxRecDepth 20000 in
theorem gX7_sly_X1_slyCut : GoodIn wsX7_sly (va_wsS RX7 199 yX1_slyCut wsX1_slyCut) := hs_gC (hs_gS (hs_inG 3 116 rfl rfl) (hs_inG 3 117 rfl rfl) (hs_inG 1 16 rfl rfl) inC_X1_slyCut)
set_option maxRecDepth 20000 in
theorem gX7_sly_X1_leftOver : GoodIn wsX7_sly (va_wsS RX7 202 yX1_leftOver wsX1_leftOver) := hs_gC (hs_gS (hs_inG 3 124 rfl rfl) (hs_inG 3 120 rfl rfl) (hs_inG 1 16 rfl rfl) inC_X1_leftOver)
theorem bqX7_sly_0 : hs_bs cX7_sly 0 [42, 27, 28, 182, 0, 192, 153, 0, 12, 29, 3, 4, 184, 0, 59, 154, 0, 5, 2, 172, 42, 180, 0, 10] := hs_bs_of _ _ _ (by decide +kernel)
theorem dX7_sly_0 : decode cX7_sly 0 = .ok (.aload_n 0, 1) := dc42 bqX7_sly_0 0 rfl rfl
theorem dX7_sly_1 : decode cX7_sly 1 = .ok (.iload_n 1, 1) := dc27 bqX7_sly_0 1 rfl rfl
theorem dX7_sly_2 : decode cX7_sly 2 = .ok (.iload_n 2, 1) := dc28 bqX7_sly_0 2 rfl rfl
theorem dX7_sly_3 : decode cX7_sly 3 = .ok (.invokevirtual 192, 3) := dc182 bqX7_sly_0 3 rfl rfl rfl
theorem dX7_sly_6 : decode cX7_sly 6 = .ok (.ifCond .eq 12, 3) := dc153 bqX7_sly_0 6 rfl rfl rfl
theorem dX7_sly_9 : decode cX7_sly 9 = .ok (.iload_n 3, 1) := dc29 bqX7_sly_0 9 rfl rfl
theorem dX7_sly_10 : decode cX7_sly 10 = .ok (.iconst 0, 1) := dc3 bqX7_sly_0 10 rfl rfl
theorem dX7_sly_11 : decode cX7_sly 11 = .ok (.iconst 1, 1) := dc4 bqX7_sly_0 11 rfl rfl
theorem dX7_sly_12 : decode cX7_sly 12 = .ok (.invokestatic 59, 3) := dc184 bqX7_sly_0 12 rfl rfl rfl
theorem dX7_sly_15 : decode cX7_sly 15 = .ok (.ifCond .ne 5, 3) := dc154 bqX7_sly_0 15 rfl rfl rfl
theorem dX7_sly_18 : decode cX7_sly 18 = .ok (.iconst (-1), 1) := dc2 bqX7_sly_0 18 rfl rfl
theorem dX7_sly_19 : decode cX7_sly 19 = .ok (.ireturn, 1) := dc172 bqX7_sly_0 19 rfl rfl
theorem dX7_sly_20 : decode cX7_sly 20 = .ok (.aload_n 0, 1) := dc42 bqX7_sly_0 20 rfl rfl
theorem dX7_sly_21 : decode cX7_sly 21 = .ok (.getfield 10, 3) := dc180 bqX7_sly_0 21 rfl rfl rfl
theorem bqX7_sly_24 : hs_bs cX7_sly 24 [27, 28, 184, 0, 199, 54, 4, 29, 154, 0, 8, 21, 4, 167, 0, 14, 42, 180, 0, 10, 27, 28, 21, 4] := hs_bs_of _ _ _ (by decide +kernel)
theorem dX7_sly_24 : decode cX7_sly 24 = .ok (.iload_n 1, 1) := dc27 bqX7_sly_24 0 rfl rfl
theorem dX7_sly_25 : decode cX7_sly 25 = .ok (.iload_n 2, 1) := dc28 bqX7_sly_24 1 rfl rfl
theorem dX7_sly_26 : decode cX7_sly 26 = .ok (.invokestatic 199, 3) := dc184 bqX7_sly_24 2 rfl rfl rfl
theorem dX7_sly_29 : decode cX7_sly 29 = .ok (.istore 4, 2) := dc54 bqX7_sly_24 5 rfl rfl
theorem dX7_sly_31 : decode cX7_sly 31 = .ok (.iload_n 3, 1) := dc29 bqX7_sly_24 7 rfl rfl
theorem dX7_sly_32 : decode cX7_sly 32 = .ok (.ifCond .ne 8, 3) := dc154 bqX7_sly_24 8 rfl rfl rfl
theorem dX7_sly_35 : decode cX7_sly 35 = .ok (.iload 4, 2) := dc21 bqX7_sly_24 11 rfl rfl
theorem dX7_sly_37 : decode cX7_sly 37 = .ok (.goto 14, 3) := dc167 bqX7_sly_24 13 rfl rfl rfl
theorem dX7_sly_40 : decode cX7_sly 40 = .ok (.aload_n 0, 1) := dc42 bqX7_sly_24 16 rfl rfl
theorem dX7_sly_41 : decode cX7_sly 41 = .ok (.getfield 10, 3) := dc180 bqX7_sly_24 17 rfl rfl rfl
theorem dX7_sly_44 : decode cX7_sly 44 = .ok (.iload_n 1, 1) := dc27 bqX7_sly_24 20 rfl rfl
theorem dX7_sly_45 : decode cX7_sly 45 = .ok (.iload_n 2, 1) := dc28 bqX7_sly_24 21 rfl rfl
theorem dX7_sly_46 : decode cX7_sly 46 = .ok (.iload 4, 2) := dc21 bqX7_sly_24 22 rfl rfl
theorem bqX7_sly_48 : hs_bs cX7_sly 48 [184, 0, 202, 172] := hs_bs_of _ _ _ (by decide +kernel)
theorem dX7_sly_48 : decode cX7_sly 48 = .ok (.invokestatic 202, 3) := dc184 bqX7_sly_48 0 rfl rfl rfl
theorem dX7_sly_51 : decode cX7_sly 51 = .ok (.ireturn, 1) := dc172 bqX7_sly_48 3 rfl rfl
set_option maxRecDepth 20000 in
theorem gX7_halves_X6_allPeople : GoodIn wsX7_halves (wsV RX7 206 RX6 yX6_allPeople wsX6_allPeople) := hs_gC (hs_gV (hs_inG 3 129 rfl rfl) (hs_inG 3 130 rfl rfl) (hs_inG 3 131 rfl rfl) (hs_inG 1 2 rfl rfl) inC_X6_allPeople)
set_option maxRecDepth 20000 in
theorem gX7_halves_X7_within : GoodIn wsX7_halves (va_wsS RX7 59 yX7_within wsX7_within) := hs_gC (hs_gS (hs_inG 2 10 rfl rfl) (hs_inG 2 11 rfl rfl) (hs_inG 1 1 rfl rfl) inC_X7_within)
set_option maxRecDepth 20000 in
theorem gX7_halves_X1_fewestCuts : GoodIn wsX7_halves (va_wsS RX7 209 yX1_fewestCuts wsX1_fewestCuts) := hs_gC (hs_gS (hs_inG 3 133 rfl rfl) (hs_inG 3 134 rfl rfl) (hs_inG 1 16 rfl rfl) inC_X1_fewestCuts)
set_option maxRecDepth 20000 in
theorem gX7_halves_X1_cutsOf : GoodIn wsX7_halves (va_wsS RX7 212 yX1_cutsOf wsX1_cutsOf) := hs_gC (hs_gS (hs_inG 3 143 rfl rfl) (hs_inG 3 137 rfl rfl) (hs_inG 1 16 rfl rfl) inC_X1_cutsOf)
theorem bqX7_halves_0 : hs_bs cX7_halves 0 [27, 3, 42, 180, 0, 10, 182, 0, 206, 184, 0, 59, 153, 0, 12, 28, 3, 4, 184, 0, 59, 154, 0, 5] := hs_bs_of _ _ _ (by decide +kernel)
theorem dX7_halves_0 : decode cX7_halves 0 = .ok (.iload_n 1, 1) := dc27 bqX7_halves_0 0 rfl rfl
theorem dX7_halves_1 : decode cX7_halves 1 = .ok (.iconst 0, 1) := dc3 bqX7_halves_0 1 rfl rfl
theorem dX7_halves_2 : decode cX7_halves 2 = .ok (.aload_n 0, 1) := dc42 bqX7_halves_0 2 rfl rfl
theorem dX7_halves_3 : decode cX7_halves 3 = .ok (.getfield 10, 3) := dc180 bqX7_halves_0 3 rfl rfl rfl
theorem dX7_halves_6 : decode cX7_halves 6 = .ok (.invokevirtual 206, 3) := dc182 bqX7_halves_0 6 rfl rfl rfl
theorem dX7_halves_9 : decode cX7_halves 9 = .ok (.invokestatic 59, 3) := dc184 bqX7_halves_0 9 rfl rfl rfl
theorem dX7_halves_12 : decode cX7_halves 12 = .ok (.ifCond .eq 12, 3) := dc153 bqX7_halves_0 12 rfl rfl rfl
theorem dX7_halves_15 : decode cX7_halves 15 = .ok (.iload_n 2, 1) := dc28 bqX7_halves_0 15 rfl rfl
theorem dX7_halves_16 : decode cX7_halves 16 = .ok (.iconst 0, 1) := dc3 bqX7_halves_0 16 rfl rfl
theorem dX7_halves_17 : decode cX7_halves 17 = .ok (.iconst 1, 1) := dc4 bqX7_halves_0 17 rfl rfl
theorem dX7_halves_18 : decode cX7_halves 18 = .ok (.invokestatic 59, 3) := dc184 bqX7_halves_0 18 rfl rfl rfl
theorem dX7_halves_21 : decode cX7_halves 21 = .ok (.ifCond .ne 5, 3) := dc154 bqX7_halves_0 21 rfl rfl rfl
theorem bqX7_halves_24 : hs_bs cX7_halves 24 [2, 172, 42, 180, 0, 10, 27, 184, 0, 209, 62, 29, 16, 252, 160, 0, 6, 16, 252, 172, 28, 154, 0, 14] := hs_bs_of _ _ _ (by decide +kernel)
theorem dX7_halves_24 : decode cX7_halves 24 = .ok (.iconst (-1), 1) := dc2 bqX7_halves_24 0 rfl rfl
theorem dX7_halves_25 : decode cX7_halves 25 = .ok (.ireturn, 1) := dc172 bqX7_halves_24 1 rfl rfl
theorem dX7_halves_26 : decode cX7_halves 26 = .ok (.aload_n 0, 1) := dc42 bqX7_halves_24 2 rfl rfl
theorem dX7_halves_27 : decode cX7_halves 27 = .ok (.getfield 10, 3) := dc180 bqX7_halves_24 3 rfl rfl rfl
theorem dX7_halves_30 : decode cX7_halves 30 = .ok (.iload_n 1, 1) := dc27 bqX7_halves_24 6 rfl rfl
theorem dX7_halves_31 : decode cX7_halves 31 = .ok (.invokestatic 209, 3) := dc184 bqX7_halves_24 7 rfl rfl rfl
theorem dX7_halves_34 : decode cX7_halves 34 = .ok (.istore_n 3, 1) := dc62 bqX7_halves_24 10 rfl rfl
theorem dX7_halves_35 : decode cX7_halves 35 = .ok (.iload_n 3, 1) := dc29 bqX7_halves_24 11 rfl rfl
theorem dX7_halves_36 : decode cX7_halves 36 = .ok (.bipush (-4), 2) := dc16 bqX7_halves_24 12 rfl rfl rfl
theorem dX7_halves_38 : decode cX7_halves 38 = .ok (.if_icmp .ne 6, 3) := dc160 bqX7_halves_24 14 rfl rfl rfl
theorem dX7_halves_41 : decode cX7_halves 41 = .ok (.bipush (-4), 2) := dc16 bqX7_halves_24 17 rfl rfl rfl
theorem dX7_halves_43 : decode cX7_halves 43 = .ok (.ireturn, 1) := dc172 bqX7_halves_24 19 rfl rfl
theorem dX7_halves_44 : decode cX7_halves 44 = .ok (.iload_n 2, 1) := dc28 bqX7_halves_24 20 rfl rfl
theorem dX7_halves_45 : decode cX7_halves 45 = .ok (.ifCond .ne 14, 3) := dc154 bqX7_halves_24 21 rfl rfl rfl
theorem bqX7_halves_48 : hs_bs cX7_halves 48 [42, 180, 0, 10, 29, 184, 0, 212, 167, 0, 4, 29, 172] := hs_bs_of _ _ _ (by decide +kernel)
theorem dX7_halves_48 : decode cX7_halves 48 = .ok (.aload_n 0, 1) := dc42 bqX7_halves_48 0 rfl rfl
theorem dX7_halves_49 : decode cX7_halves 49 = .ok (.getfield 10, 3) := dc180 bqX7_halves_48 1 rfl rfl rfl
theorem dX7_halves_52 : decode cX7_halves 52 = .ok (.iload_n 3, 1) := dc29 bqX7_halves_48 4 rfl rfl
theorem dX7_halves_53 : decode cX7_halves 53 = .ok (.invokestatic 212, 3) := dc184 bqX7_halves_48 5 rfl rfl rfl
theorem dX7_halves_56 : decode cX7_halves 56 = .ok (.goto 4, 3) := dc167 bqX7_halves_48 8 rfl rfl rfl
theorem dX7_halves_59 : decode cX7_halves 59 = .ok (.iload_n 3, 1) := dc29 bqX7_halves_48 11 rfl rfl
theorem dX7_halves_60 : decode cX7_halves 60 = .ok (.ireturn, 1) := dc172 bqX7_halves_48 12 rfl rfl
set_option maxRecDepth 20000 in
theorem gX7_stop_X7_within : GoodIn wsX7_stop (va_wsS RX7 59 yX7_within wsX7_within) := hs_gC (hs_gS (hs_inG 2 10 rfl rfl) (hs_inG 2 11 rfl rfl) (hs_inG 1 1 rfl rfl) inC_X7_within)
set_option maxRecDepth 20000 in
theorem gX7_stop_X7_halfUp : GoodIn wsX7_stop (va_wsS RX7 148 yX7_halfUp wsX7_halfUp) := hs_gC (hs_gS (hs_inG 3 19 rfl rfl) (hs_inG 2 234 rfl rfl) (hs_inG 1 1 rfl rfl) inC_X7_halfUp)
theorem bqX7_stop_0 : hs_bs cX7_stop 0 [27, 3, 16, 99, 184, 0, 59, 153, 0, 12, 28, 3, 4, 184, 0, 59, 154, 0, 5, 2, 172, 42] := hs_bs_of _ _ _ (by decide +kernel)
theorem dX7_stop_0 : decode cX7_stop 0 = .ok (.iload_n 1, 1) := dc27 bqX7_stop_0 0 rfl rfl
theorem dX7_stop_1 : decode cX7_stop 1 = .ok (.iconst 0, 1) := dc3 bqX7_stop_0 1 rfl rfl
theorem dX7_stop_2 : decode cX7_stop 2 = .ok (.bipush 99, 2) := dc16 bqX7_stop_0 2 rfl rfl rfl
theorem dX7_stop_4 : decode cX7_stop 4 = .ok (.invokestatic 59, 3) := dc184 bqX7_stop_0 4 rfl rfl rfl
theorem dX7_stop_7 : decode cX7_stop 7 = .ok (.ifCond .eq 12, 3) := dc153 bqX7_stop_0 7 rfl rfl rfl
theorem dX7_stop_10 : decode cX7_stop 10 = .ok (.iload_n 2, 1) := dc28 bqX7_stop_0 10 rfl rfl
theorem dX7_stop_11 : decode cX7_stop 11 = .ok (.iconst 0, 1) := dc3 bqX7_stop_0 11 rfl rfl
theorem dX7_stop_12 : decode cX7_stop 12 = .ok (.iconst 1, 1) := dc4 bqX7_stop_0 12 rfl rfl
theorem dX7_stop_13 : decode cX7_stop 13 = .ok (.invokestatic 59, 3) := dc184 bqX7_stop_0 13 rfl rfl rfl
theorem dX7_stop_16 : decode cX7_stop 16 = .ok (.ifCond .ne 5, 3) := dc154 bqX7_stop_0 16 rfl rfl rfl
theorem dX7_stop_19 : decode cX7_stop 19 = .ok (.iconst (-1), 1) := dc2 bqX7_stop_0 19 rfl rfl
theorem dX7_stop_20 : decode cX7_stop 20 = .ok (.ireturn, 1) := dc172 bqX7_stop_0 20 rfl rfl
theorem dX7_stop_21 : decode cX7_stop 21 = .ok (.aload_n 0, 1) := dc42 bqX7_stop_0 21 rfl rfl
theorem bqX7_stop_22 : hs_bs cX7_stop 22 [180, 0, 10, 180, 0, 102, 62, 3, 54, 4, 29, 54, 5, 4, 54, 6, 21, 6, 16, 99, 163, 0, 42, 29] := hs_bs_of _ _ _ (by decide +kernel)
theorem dX7_stop_22 : decode cX7_stop 22 = .ok (.getfield 10, 3) := dc180 bqX7_stop_22 0 rfl rfl rfl
theorem dX7_stop_25 : decode cX7_stop 25 = .ok (.getfield 102, 3) := dc180 bqX7_stop_22 3 rfl rfl rfl
theorem dX7_stop_28 : decode cX7_stop 28 = .ok (.istore_n 3, 1) := dc62 bqX7_stop_22 6 rfl rfl
theorem dX7_stop_29 : decode cX7_stop 29 = .ok (.iconst 0, 1) := dc3 bqX7_stop_22 7 rfl rfl
theorem dX7_stop_30 : decode cX7_stop 30 = .ok (.istore 4, 2) := dc54 bqX7_stop_22 8 rfl rfl
theorem dX7_stop_32 : decode cX7_stop 32 = .ok (.iload_n 3, 1) := dc29 bqX7_stop_22 10 rfl rfl
theorem dX7_stop_33 : decode cX7_stop 33 = .ok (.istore 5, 2) := dc54 bqX7_stop_22 11 rfl rfl
theorem dX7_stop_35 : decode cX7_stop 35 = .ok (.iconst 1, 1) := dc4 bqX7_stop_22 13 rfl rfl
theorem dX7_stop_36 : decode cX7_stop 36 = .ok (.istore 6, 2) := dc54 bqX7_stop_22 14 rfl rfl
theorem dX7_stop_38 : decode cX7_stop 38 = .ok (.iload 6, 2) := dc21 bqX7_stop_22 16 rfl rfl
theorem dX7_stop_40 : decode cX7_stop 40 = .ok (.bipush 99, 2) := dc16 bqX7_stop_22 18 rfl rfl rfl
theorem dX7_stop_42 : decode cX7_stop 42 = .ok (.if_icmp .gt 42, 3) := dc163 bqX7_stop_22 20 rfl rfl rfl
theorem dX7_stop_45 : decode cX7_stop 45 = .ok (.iload_n 3, 1) := dc29 bqX7_stop_22 23 rfl rfl
theorem bqX7_stop_46 : hs_bs cX7_stop 46 [4, 164, 0, 37, 29, 184, 0, 148, 62, 29, 21, 6, 27, 104, 96, 21, 5, 162, 0, 15, 21, 6, 54, 4] := hs_bs_of _ _ _ (by decide +kernel)
theorem dX7_stop_46 : decode cX7_stop 46 = .ok (.iconst 1, 1) := dc4 bqX7_stop_46 0 rfl rfl
theorem dX7_stop_47 : decode cX7_stop 47 = .ok (.if_icmp .le 37, 3) := dc164 bqX7_stop_46 1 rfl rfl rfl
theorem dX7_stop_50 : decode cX7_stop 50 = .ok (.iload_n 3, 1) := dc29 bqX7_stop_46 4 rfl rfl
theorem dX7_stop_51 : decode cX7_stop 51 = .ok (.invokestatic 148, 3) := dc184 bqX7_stop_46 5 rfl rfl rfl
theorem dX7_stop_54 : decode cX7_stop 54 = .ok (.istore_n 3, 1) := dc62 bqX7_stop_46 8 rfl rfl
theorem dX7_stop_55 : decode cX7_stop 55 = .ok (.iload_n 3, 1) := dc29 bqX7_stop_46 9 rfl rfl
theorem dX7_stop_56 : decode cX7_stop 56 = .ok (.iload 6, 2) := dc21 bqX7_stop_46 10 rfl rfl
theorem dX7_stop_58 : decode cX7_stop 58 = .ok (.iload_n 1, 1) := dc27 bqX7_stop_46 12 rfl rfl
theorem dX7_stop_59 : decode cX7_stop 59 = .ok (.imul, 1) := dc104 bqX7_stop_46 13 rfl rfl
theorem dX7_stop_60 : decode cX7_stop 60 = .ok (.iadd, 1) := dc96 bqX7_stop_46 14 rfl rfl
theorem dX7_stop_61 : decode cX7_stop 61 = .ok (.iload 5, 2) := dc21 bqX7_stop_46 15 rfl rfl
theorem dX7_stop_63 : decode cX7_stop 63 = .ok (.if_icmp .ge 15, 3) := dc162 bqX7_stop_46 17 rfl rfl rfl
theorem dX7_stop_66 : decode cX7_stop 66 = .ok (.iload 6, 2) := dc21 bqX7_stop_46 20 rfl rfl
theorem dX7_stop_68 : decode cX7_stop 68 = .ok (.istore 4, 2) := dc54 bqX7_stop_46 22 rfl rfl
theorem bqX7_stop_70 : hs_bs cX7_stop 70 [29, 21, 6, 27, 104, 96, 54, 5, 132, 6, 1, 167, 255, 213, 28, 154, 0, 8, 21, 4, 167, 0, 5] := hs_bs_of _ _ _ (by decide +kernel)
theorem dX7_stop_70 : decode cX7_stop 70 = .ok (.iload_n 3, 1) := dc29 bqX7_stop_70 0 rfl rfl
theorem dX7_stop_71 : decode cX7_stop 71 = .ok (.iload 6, 2) := dc21 bqX7_stop_70 1 rfl rfl
theorem dX7_stop_73 : decode cX7_stop 73 = .ok (.iload_n 1, 1) := dc27 bqX7_stop_70 3 rfl rfl
theorem dX7_stop_74 : decode cX7_stop 74 = .ok (.imul, 1) := dc104 bqX7_stop_70 4 rfl rfl
theorem dX7_stop_75 : decode cX7_stop 75 = .ok (.iadd, 1) := dc96 bqX7_stop_70 5 rfl rfl
theorem dX7_stop_76 : decode cX7_stop 76 = .ok (.istore 5, 2) := dc54 bqX7_stop_70 6 rfl rfl
theorem dX7_stop_78 : decode cX7_stop 78 = .ok (.iinc 6 1, 3) := dc132 bqX7_stop_70 8 rfl rfl rfl
theorem dX7_stop_81 : decode cX7_stop 81 = .ok (.goto (-43), 3) := dc167 bqX7_stop_70 11 rfl rfl rfl
theorem dX7_stop_84 : decode cX7_stop 84 = .ok (.iload_n 2, 1) := dc28 bqX7_stop_70 14 rfl rfl
theorem dX7_stop_85 : decode cX7_stop 85 = .ok (.ifCond .ne 8, 3) := dc154 bqX7_stop_70 15 rfl rfl rfl
theorem dX7_stop_88 : decode cX7_stop 88 = .ok (.iload 4, 2) := dc21 bqX7_stop_70 18 rfl rfl
theorem dX7_stop_90 : decode cX7_stop 90 = .ok (.goto 5, 3) := dc167 bqX7_stop_70 20 rfl rfl rfl
theorem bqX7_stop_93 : hs_bs cX7_stop 93 [21, 5, 172] := hs_bs_of _ _ _ (by decide +kernel)
theorem dX7_stop_93 : decode cX7_stop 93 = .ok (.iload 5, 2) := dc21 bqX7_stop_93 0 rfl rfl
theorem dX7_stop_95 : decode cX7_stop 95 = .ok (.ireturn, 1) := dc172 bqX7_stop_93 2 rfl rfl
set_option maxRecDepth 20000 in
theorem gX7_orders_X2_learn : GoodIn wsX7_orders (wsV RX7 155 RX2 yX2_learn wsX2_learn) := hs_gC (hs_gV (hs_inG 3 25 rfl rfl) (hs_inG 2 165 rfl rfl) (hs_inG 2 166 rfl rfl) (hs_inG 1 5 rfl rfl) inC_X2_learn)
set_option maxRecDepth 20000 in
theorem gX7_orders_X2_howMany : GoodIn wsX7_orders (wsV RX7 215 RX2 yX2_howMany wsX2_howMany) := hs_gC (hs_gV (hs_inG 3 152 rfl rfl) (hs_inG 2 169 rfl rfl) (hs_inG 2 170 rfl rfl) (hs_inG 1 5 rfl rfl) inC_X2_howMany)
set_option maxRecDepth 20000 in
theorem gX7_orders_X2_lightest : GoodIn wsX7_orders (wsV RX7 218 RX2 yX2_lightest wsX2_lightest) := hs_gC (hs_gV (hs_inG 3 153 rfl rfl) (hs_inG 3 154 rfl rfl) (hs_inG 3 155 rfl rfl) (hs_inG 1 5 rfl rfl) inC_X2_lightest)
set_option maxRecDepth 20000 in
theorem gX7_orders_X2_heaviest : GoodIn wsX7_orders (wsV RX7 221 RX2 yX2_heaviest wsX2_heaviest) := hs_gC (hs_gV (hs_inG 3 157 rfl rfl) (hs_inG 3 158 rfl rfl) (hs_inG 3 159 rfl rfl) (hs_inG 1 5 rfl rfl) inC_X2_heaviest)
set_option maxRecDepth 20000 in
theorem gX7_orders_X7_within : GoodIn wsX7_orders (va_wsS RX7 59 yX7_within wsX7_within) := hs_gC (hs_gS (hs_inG 2 10 rfl rfl) (hs_inG 2 11 rfl rfl) (hs_inG 1 1 rfl rfl) inC_X7_within)
set_option maxRecDepth 20000 in
theorem gX7_orders_X2_ofFirst : GoodIn wsX7_orders (wsV RX7 224 RX2 yX2_ofFirst wsX2_ofFirst) := hs_gC (hs_gV (hs_inG 3 161 rfl rfl) (hs_inG 3 162 rfl rfl) (hs_inG 3 163 rfl rfl) (hs_inG 1 5 rfl rfl) inC_X2_ofFirst)
theorem bqX7_orders_0 : hs_bs cX7_orders 0 [42, 180, 0, 37, 42, 180, 0, 10, 182, 0, 155, 27, 154, 0, 11, 42, 180, 0, 37, 182, 0, 215, 172, 27] := hs_bs_of _ _ _ (by decide +kernel)
theorem dX7_orders_0 : decode cX7_orders 0 = .ok (.aload_n 0, 1) := dc42 bqX7_orders_0 0 rfl rfl
theorem dX7_orders_1 : decode cX7_orders 1 = .ok (.getfield 37, 3) := dc180 bqX7_orders_0 1 rfl rfl rfl
theorem dX7_orders_4 : decode cX7_orders 4 = .ok (.aload_n 0, 1) := dc42 bqX7_orders_0 4 rfl rfl
theorem dX7_orders_5 : decode cX7_orders 5 = .ok (.getfield 10, 3) := dc180 bqX7_orders_0 5 rfl rfl rfl
theorem dX7_orders_8 : decode cX7_orders 8 = .ok (.invokevirtual 155, 3) := dc182 bqX7_orders_0 8 rfl rfl rfl
theorem dX7_orders_11 : decode cX7_orders 11 = .ok (.iload_n 1, 1) := dc27 bqX7_orders_0 11 rfl rfl
theorem dX7_orders_12 : decode cX7_orders 12 = .ok (.ifCond .ne 11, 3) := dc154 bqX7_orders_0 12 rfl rfl rfl
theorem dX7_orders_15 : decode cX7_orders 15 = .ok (.aload_n 0, 1) := dc42 bqX7_orders_0 15 rfl rfl
theorem dX7_orders_16 : decode cX7_orders 16 = .ok (.getfield 37, 3) := dc180 bqX7_orders_0 16 rfl rfl rfl
theorem dX7_orders_19 : decode cX7_orders 19 = .ok (.invokevirtual 215, 3) := dc182 bqX7_orders_0 19 rfl rfl rfl
theorem dX7_orders_22 : decode cX7_orders 22 = .ok (.ireturn, 1) := dc172 bqX7_orders_0 22 rfl rfl
theorem dX7_orders_23 : decode cX7_orders 23 = .ok (.iload_n 1, 1) := dc27 bqX7_orders_0 23 rfl rfl
theorem bqX7_orders_24 : hs_bs cX7_orders 24 [4, 160, 0, 11, 42, 180, 0, 37, 182, 0, 218, 172, 27, 5, 160, 0, 11, 42, 180, 0, 37, 182, 0, 221] := hs_bs_of _ _ _ (by decide +kernel)
theorem dX7_orders_24 : decode cX7_orders 24 = .ok (.iconst 1, 1) := dc4 bqX7_orders_24 0 rfl rfl
theorem dX7_orders_25 : decode cX7_orders 25 = .ok (.if_icmp .ne 11, 3) := dc160 bqX7_orders_24 1 rfl rfl rfl
theorem dX7_orders_28 : decode cX7_orders 28 = .ok (.aload_n 0, 1) := dc42 bqX7_orders_24 4 rfl rfl
theorem dX7_orders_29 : decode cX7_orders 29 = .ok (.getfield 37, 3) := dc180 bqX7_orders_24 5 rfl rfl rfl
theorem dX7_orders_32 : decode cX7_orders 32 = .ok (.invokevirtual 218, 3) := dc182 bqX7_orders_24 8 rfl rfl rfl
theorem dX7_orders_35 : decode cX7_orders 35 = .ok (.ireturn, 1) := dc172 bqX7_orders_24 11 rfl rfl
theorem dX7_orders_36 : decode cX7_orders 36 = .ok (.iload_n 1, 1) := dc27 bqX7_orders_24 12 rfl rfl
theorem dX7_orders_37 : decode cX7_orders 37 = .ok (.iconst 2, 1) := dc5 bqX7_orders_24 13 rfl rfl
theorem dX7_orders_38 : decode cX7_orders 38 = .ok (.if_icmp .ne 11, 3) := dc160 bqX7_orders_24 14 rfl rfl rfl
theorem dX7_orders_41 : decode cX7_orders 41 = .ok (.aload_n 0, 1) := dc42 bqX7_orders_24 17 rfl rfl
theorem dX7_orders_42 : decode cX7_orders 42 = .ok (.getfield 37, 3) := dc180 bqX7_orders_24 18 rfl rfl rfl
theorem dX7_orders_45 : decode cX7_orders 45 = .ok (.invokevirtual 221, 3) := dc182 bqX7_orders_24 21 rfl rfl rfl
theorem bqX7_orders_48 : hs_bs cX7_orders 48 [172, 27, 16, 10, 16, 9, 42, 180, 0, 10, 180, 0, 108, 96, 184, 0, 59, 153, 0, 17, 42, 180, 0, 37] := hs_bs_of _ _ _ (by decide +kernel)
theorem dX7_orders_48 : decode cX7_orders 48 = .ok (.ireturn, 1) := dc172 bqX7_orders_48 0 rfl rfl
theorem dX7_orders_49 : decode cX7_orders 49 = .ok (.iload_n 1, 1) := dc27 bqX7_orders_48 1 rfl rfl
theorem dX7_orders_50 : decode cX7_orders 50 = .ok (.bipush 10, 2) := dc16 bqX7_orders_48 2 rfl rfl rfl
theorem dX7_orders_52 : decode cX7_orders 52 = .ok (.bipush 9, 2) := dc16 bqX7_orders_48 4 rfl rfl rfl
theorem dX7_orders_54 : decode cX7_orders 54 = .ok (.aload_n 0, 1) := dc42 bqX7_orders_48 6 rfl rfl
theorem dX7_orders_55 : decode cX7_orders 55 = .ok (.getfield 10, 3) := dc180 bqX7_orders_48 7 rfl rfl rfl
theorem dX7_orders_58 : decode cX7_orders 58 = .ok (.getfield 108, 3) := dc180 bqX7_orders_48 10 rfl rfl rfl
theorem dX7_orders_61 : decode cX7_orders 61 = .ok (.iadd, 1) := dc96 bqX7_orders_48 13 rfl rfl
theorem dX7_orders_62 : decode cX7_orders 62 = .ok (.invokestatic 59, 3) := dc184 bqX7_orders_48 14 rfl rfl rfl
theorem dX7_orders_65 : decode cX7_orders 65 = .ok (.ifCond .eq 17, 3) := dc153 bqX7_orders_48 17 rfl rfl rfl
theorem dX7_orders_68 : decode cX7_orders 68 = .ok (.aload_n 0, 1) := dc42 bqX7_orders_48 20 rfl rfl
theorem dX7_orders_69 : decode cX7_orders 69 = .ok (.getfield 37, 3) := dc180 bqX7_orders_48 21 rfl rfl rfl
theorem bqX7_orders_72 : hs_bs cX7_orders 72 [27, 16, 10, 100, 182, 0, 224, 167, 0, 4, 2, 172] := hs_bs_of _ _ _ (by decide +kernel)
theorem dX7_orders_72 : decode cX7_orders 72 = .ok (.iload_n 1, 1) := dc27 bqX7_orders_72 0 rfl rfl
theorem dX7_orders_73 : decode cX7_orders 73 = .ok (.bipush 10, 2) := dc16 bqX7_orders_72 1 rfl rfl rfl
theorem dX7_orders_75 : decode cX7_orders 75 = .ok (.isub, 1) := dc100 bqX7_orders_72 3 rfl rfl
theorem dX7_orders_76 : decode cX7_orders 76 = .ok (.invokevirtual 224, 3) := dc182 bqX7_orders_72 4 rfl rfl rfl
theorem dX7_orders_79 : decode cX7_orders 79 = .ok (.goto 4, 3) := dc167 bqX7_orders_72 7 rfl rfl rfl
theorem dX7_orders_82 : decode cX7_orders 82 = .ok (.iconst (-1), 1) := dc2 bqX7_orders_72 10 rfl rfl
theorem dX7_orders_83 : decode cX7_orders 83 = .ok (.ireturn, 1) := dc172 bqX7_orders_72 11 rfl rfl
set_option maxRecDepth 20000 in
theorem gX7_next_X7_within : GoodIn wsX7_next (va_wsS RX7 59 yX7_within wsX7_within) := hs_gC (hs_gS (hs_inG 2 10 rfl rfl) (hs_inG 2 11 rfl rfl) (hs_inG 1 1 rfl rfl) inC_X7_within)
set_option maxRecDepth 20000 in
theorem gX7_next_X2_learn : GoodIn wsX7_next (wsV RX7 155 RX2 yX2_learn wsX2_learn) := hs_gC (hs_gV (hs_inG 3 25 rfl rfl) (hs_inG 2 165 rfl rfl) (hs_inG 2 166 rfl rfl) (hs_inG 1 5 rfl rfl) inC_X2_learn)
set_option maxRecDepth 20000 in
theorem gX7_next_X2_howMany : GoodIn wsX7_next (wsV RX7 215 RX2 yX2_howMany wsX2_howMany) := hs_gC (hs_gV (hs_inG 3 152 rfl rfl) (hs_inG 2 169 rfl rfl) (hs_inG 2 170 rfl rfl) (hs_inG 1 5 rfl rfl) inC_X2_howMany)
set_option maxRecDepth 20000 in
theorem gX7_next_X2_howManyWith : GoodIn wsX7_next (wsV RX7 158 RX2 yX2_howManyWith wsX2_howManyWith) := hs_gC (hs_gV (hs_inG 3 26 rfl rfl) (hs_inG 3 27 rfl rfl) (hs_inG 3 28 rfl rfl) (hs_inG 1 5 rfl rfl) inC_X2_howManyWith)
theorem bqX7_next_0 : hs_bs cX7_next 0 [27, 3, 4, 184, 0, 59, 154, 0, 5, 2, 172, 42, 180, 0, 37, 42, 180, 0, 10, 182, 0, 155, 42] := hs_bs_of _ _ _ (by decide +kernel)
theorem dX7_next_0 : decode cX7_next 0 = .ok (.iload_n 1, 1) := dc27 bqX7_next_0 0 rfl rfl
theorem dX7_next_1 : decode cX7_next 1 = .ok (.iconst 0, 1) := dc3 bqX7_next_0 1 rfl rfl
theorem dX7_next_2 : decode cX7_next 2 = .ok (.iconst 1, 1) := dc4 bqX7_next_0 2 rfl rfl
theorem dX7_next_3 : decode cX7_next 3 = .ok (.invokestatic 59, 3) := dc184 bqX7_next_0 3 rfl rfl rfl
theorem dX7_next_6 : decode cX7_next 6 = .ok (.ifCond .ne 5, 3) := dc154 bqX7_next_0 6 rfl rfl rfl
theorem dX7_next_9 : decode cX7_next 9 = .ok (.iconst (-1), 1) := dc2 bqX7_next_0 9 rfl rfl
theorem dX7_next_10 : decode cX7_next 10 = .ok (.ireturn, 1) := dc172 bqX7_next_0 10 rfl rfl
theorem dX7_next_11 : decode cX7_next 11 = .ok (.aload_n 0, 1) := dc42 bqX7_next_0 11 rfl rfl
theorem dX7_next_12 : decode cX7_next 12 = .ok (.getfield 37, 3) := dc180 bqX7_next_0 12 rfl rfl rfl
theorem dX7_next_15 : decode cX7_next 15 = .ok (.aload_n 0, 1) := dc42 bqX7_next_0 15 rfl rfl
theorem dX7_next_16 : decode cX7_next 16 = .ok (.getfield 10, 3) := dc180 bqX7_next_0 16 rfl rfl rfl
theorem dX7_next_19 : decode cX7_next 19 = .ok (.invokevirtual 155, 3) := dc182 bqX7_next_0 19 rfl rfl rfl
theorem dX7_next_22 : decode cX7_next 22 = .ok (.aload_n 0, 1) := dc42 bqX7_next_0 22 rfl rfl
theorem bqX7_next_23 : hs_bs cX7_next 23 [180, 0, 37, 182, 0, 215, 61, 16, 252, 62, 3, 54, 4, 21, 4, 42, 180, 0, 10, 180, 0, 108] := hs_bs_of _ _ _ (by decide +kernel)
theorem dX7_next_23 : decode cX7_next 23 = .ok (.getfield 37, 3) := dc180 bqX7_next_23 0 rfl rfl rfl
theorem dX7_next_26 : decode cX7_next 26 = .ok (.invokevirtual 215, 3) := dc182 bqX7_next_23 3 rfl rfl rfl
theorem dX7_next_29 : decode cX7_next 29 = .ok (.istore_n 2, 1) := dc61 bqX7_next_23 6 rfl rfl
theorem dX7_next_30 : decode cX7_next 30 = .ok (.bipush (-4), 2) := dc16 bqX7_next_23 7 rfl rfl rfl
theorem dX7_next_32 : decode cX7_next 32 = .ok (.istore_n 3, 1) := dc62 bqX7_next_23 9 rfl rfl
theorem dX7_next_33 : decode cX7_next 33 = .ok (.iconst 0, 1) := dc3 bqX7_next_23 10 rfl rfl
theorem dX7_next_34 : decode cX7_next 34 = .ok (.istore 4, 2) := dc54 bqX7_next_23 11 rfl rfl
theorem dX7_next_36 : decode cX7_next 36 = .ok (.iload 4, 2) := dc21 bqX7_next_23 13 rfl rfl
theorem dX7_next_38 : decode cX7_next 38 = .ok (.aload_n 0, 1) := dc42 bqX7_next_23 15 rfl rfl
theorem dX7_next_39 : decode cX7_next 39 = .ok (.getfield 10, 3) := dc180 bqX7_next_23 16 rfl rfl rfl
theorem dX7_next_42 : decode cX7_next 42 = .ok (.getfield 108, 3) := dc180 bqX7_next_23 19 rfl rfl rfl
theorem bqX7_next_45 : hs_bs cX7_next 45 [162, 0, 78, 21, 4, 4, 96, 54, 5, 21, 5, 42, 180, 0, 10, 180, 0, 108, 162, 0, 54, 42] := hs_bs_of _ _ _ (by decide +kernel)
theorem dX7_next_45 : decode cX7_next 45 = .ok (.if_icmp .ge 78, 3) := dc162 bqX7_next_45 0 rfl rfl rfl
theorem dX7_next_48 : decode cX7_next 48 = .ok (.iload 4, 2) := dc21 bqX7_next_45 3 rfl rfl
theorem dX7_next_50 : decode cX7_next 50 = .ok (.iconst 1, 1) := dc4 bqX7_next_45 5 rfl rfl
theorem dX7_next_51 : decode cX7_next 51 = .ok (.iadd, 1) := dc96 bqX7_next_45 6 rfl rfl
theorem dX7_next_52 : decode cX7_next 52 = .ok (.istore 5, 2) := dc54 bqX7_next_45 7 rfl rfl
theorem dX7_next_54 : decode cX7_next 54 = .ok (.iload 5, 2) := dc21 bqX7_next_45 9 rfl rfl
theorem dX7_next_56 : decode cX7_next 56 = .ok (.aload_n 0, 1) := dc42 bqX7_next_45 11 rfl rfl
theorem dX7_next_57 : decode cX7_next 57 = .ok (.getfield 10, 3) := dc180 bqX7_next_45 12 rfl rfl rfl
theorem dX7_next_60 : decode cX7_next 60 = .ok (.getfield 108, 3) := dc180 bqX7_next_45 15 rfl rfl rfl
theorem dX7_next_63 : decode cX7_next 63 = .ok (.if_icmp .ge 54, 3) := dc162 bqX7_next_45 18 rfl rfl rfl
theorem dX7_next_66 : decode cX7_next 66 = .ok (.aload_n 0, 1) := dc42 bqX7_next_45 21 rfl rfl
theorem bqX7_next_67 : hs_bs cX7_next 67 [180, 0, 37, 21, 4, 21, 5, 182, 0, 158, 42, 180, 0, 37, 21, 5, 21, 4, 182, 0, 158, 184, 0, 227] := hs_bs_of _ _ _ (by decide +kernel)
theorem dX7_next_67 : decode cX7_next 67 = .ok (.getfield 37, 3) := dc180 bqX7_next_67 0 rfl rfl rfl
theorem dX7_next_70 : decode cX7_next 70 = .ok (.iload 4, 2) := dc21 bqX7_next_67 3 rfl rfl
theorem dX7_next_72 : decode cX7_next 72 = .ok (.iload 5, 2) := dc21 bqX7_next_67 5 rfl rfl
theorem dX7_next_74 : decode cX7_next 74 = .ok (.invokevirtual 158, 3) := dc182 bqX7_next_67 7 rfl rfl rfl
theorem dX7_next_77 : decode cX7_next 77 = .ok (.aload_n 0, 1) := dc42 bqX7_next_67 10 rfl rfl
theorem dX7_next_78 : decode cX7_next 78 = .ok (.getfield 37, 3) := dc180 bqX7_next_67 11 rfl rfl rfl
theorem dX7_next_81 : decode cX7_next 81 = .ok (.iload 5, 2) := dc21 bqX7_next_67 14 rfl rfl
theorem dX7_next_83 : decode cX7_next 83 = .ok (.iload 4, 2) := dc21 bqX7_next_67 16 rfl rfl
theorem dX7_next_85 : decode cX7_next 85 = .ok (.invokevirtual 158, 3) := dc182 bqX7_next_67 18 rfl rfl rfl
theorem dX7_next_88 : decode cX7_next 88 = .ok (.invokestatic 227, 3) := dc184 bqX7_next_67 21 rfl rfl rfl
theorem bqX7_next_91 : hs_bs cX7_next 91 [54, 6, 21, 6, 28, 162, 0, 15, 21, 6, 61, 16, 10, 21, 4, 104, 21, 5, 96, 62, 132, 5, 1] := hs_bs_of _ _ _ (by decide +kernel)
theorem dX7_next_91 : decode cX7_next 91 = .ok (.istore 6, 2) := dc54 bqX7_next_91 0 rfl rfl
theorem dX7_next_93 : decode cX7_next 93 = .ok (.iload 6, 2) := dc21 bqX7_next_91 2 rfl rfl
theorem dX7_next_95 : decode cX7_next 95 = .ok (.iload_n 2, 1) := dc28 bqX7_next_91 4 rfl rfl
theorem dX7_next_96 : decode cX7_next 96 = .ok (.if_icmp .ge 15, 3) := dc162 bqX7_next_91 5 rfl rfl rfl
theorem dX7_next_99 : decode cX7_next 99 = .ok (.iload 6, 2) := dc21 bqX7_next_91 8 rfl rfl
theorem dX7_next_101 : decode cX7_next 101 = .ok (.istore_n 2, 1) := dc61 bqX7_next_91 10 rfl rfl
theorem dX7_next_102 : decode cX7_next 102 = .ok (.bipush 10, 2) := dc16 bqX7_next_91 11 rfl rfl rfl
theorem dX7_next_104 : decode cX7_next 104 = .ok (.iload 4, 2) := dc21 bqX7_next_91 13 rfl rfl
theorem dX7_next_106 : decode cX7_next 106 = .ok (.imul, 1) := dc104 bqX7_next_91 15 rfl rfl
theorem dX7_next_107 : decode cX7_next 107 = .ok (.iload 5, 2) := dc21 bqX7_next_91 16 rfl rfl
theorem dX7_next_109 : decode cX7_next 109 = .ok (.iadd, 1) := dc96 bqX7_next_91 18 rfl rfl
theorem dX7_next_110 : decode cX7_next 110 = .ok (.istore_n 3, 1) := dc62 bqX7_next_91 19 rfl rfl
theorem dX7_next_111 : decode cX7_next 111 = .ok (.iinc 5 1, 3) := dc132 bqX7_next_91 20 rfl rfl rfl
theorem bqX7_next_114 : hs_bs cX7_next 114 [167, 255, 196, 132, 4, 1, 167, 255, 172, 27, 153, 0, 9, 29, 16, 252, 160, 0, 7, 29, 167, 0, 4, 28] := hs_bs_of _ _ _ (by decide +kernel)
theorem dX7_next_114 : decode cX7_next 114 = .ok (.goto (-60), 3) := dc167 bqX7_next_114 0 rfl rfl rfl
theorem dX7_next_117 : decode cX7_next 117 = .ok (.iinc 4 1, 3) := dc132 bqX7_next_114 3 rfl rfl rfl
theorem dX7_next_120 : decode cX7_next 120 = .ok (.goto (-84), 3) := dc167 bqX7_next_114 6 rfl rfl rfl
theorem dX7_next_123 : decode cX7_next 123 = .ok (.iload_n 1, 1) := dc27 bqX7_next_114 9 rfl rfl
theorem dX7_next_124 : decode cX7_next 124 = .ok (.ifCond .eq 9, 3) := dc153 bqX7_next_114 10 rfl rfl rfl
theorem dX7_next_127 : decode cX7_next 127 = .ok (.iload_n 3, 1) := dc29 bqX7_next_114 13 rfl rfl
theorem dX7_next_128 : decode cX7_next 128 = .ok (.bipush (-4), 2) := dc16 bqX7_next_114 14 rfl rfl rfl
theorem dX7_next_130 : decode cX7_next 130 = .ok (.if_icmp .ne 7, 3) := dc160 bqX7_next_114 16 rfl rfl rfl
theorem dX7_next_133 : decode cX7_next 133 = .ok (.iload_n 3, 1) := dc29 bqX7_next_114 19 rfl rfl
theorem dX7_next_134 : decode cX7_next 134 = .ok (.goto 4, 3) := dc167 bqX7_next_114 20 rfl rfl rfl
theorem dX7_next_137 : decode cX7_next 137 = .ok (.iload_n 2, 1) := dc28 bqX7_next_114 23 rfl rfl
theorem bqX7_next_138 : hs_bs cX7_next 138 [172] := hs_bs_of _ _ _ (by decide +kernel)
theorem dX7_next_138 : decode cX7_next 138 = .ok (.ireturn, 1) := dc172 bqX7_next_138 0 rfl rfl
set_option maxRecDepth 20000 in
theorem gX7_luck_X7_isTrial : GoodIn wsX7_luck (wsV RX7 232 RX7 yX7_isTrial wsX7_isTrial) := hs_gC (hs_gV (hs_inG 3 180 rfl rfl) (hs_inG 3 182 rfl rfl) (hs_inG 0 15 rfl rfl) (hs_inG 1 1 rfl rfl) inC_X7_isTrial)
set_option maxRecDepth 20000 in
theorem gX7_luck_X6_justTo : GoodIn wsX7_luck (wsV RX7 178 RX6 yX6_justTo wsX6_justTo) := hs_gC (hs_gV (hs_inG 3 75 rfl rfl) (hs_inG 3 76 rfl rfl) (hs_inG 3 77 rfl rfl) (hs_inG 1 2 rfl rfl) inC_X6_justTo)
set_option maxRecDepth 20000 in
theorem gX7_luck_X0_majority : GoodIn wsX7_luck (wsV RX7 237 RX0 yX0_majority wsX0_majority) := hs_gC (hs_gV (hs_inG 3 185 rfl rfl) (hs_inG 3 186 rfl rfl) (hs_inG 3 187 rfl rfl) (hs_inG 1 6 rfl rfl) inC_X0_majority)
theorem bqX7_luck_0 : hs_bs cX7_luck 0 [42, 27, 28, 29, 182, 0, 232, 154, 0, 7, 20, 0, 235, 173, 42, 180, 0, 44, 27, 42, 180, 0, 10, 28] := hs_bs_of _ _ _ (by decide +kernel)
theorem dX7_luck_0 : decode cX7_luck 0 = .ok (.aload_n 0, 1) := dc42 bqX7_luck_0 0 rfl rfl
theorem dX7_luck_1 : decode cX7_luck 1 = .ok (.iload_n 1, 1) := dc27 bqX7_luck_0 1 rfl rfl
theorem dX7_luck_2 : decode cX7_luck 2 = .ok (.iload_n 2, 1) := dc28 bqX7_luck_0 2 rfl rfl
theorem dX7_luck_3 : decode cX7_luck 3 = .ok (.iload_n 3, 1) := dc29 bqX7_luck_0 3 rfl rfl
theorem dX7_luck_4 : decode cX7_luck 4 = .ok (.invokevirtual 232, 3) := dc182 bqX7_luck_0 4 rfl rfl rfl
theorem dX7_luck_7 : decode cX7_luck 7 = .ok (.ifCond .ne 7, 3) := dc154 bqX7_luck_0 7 rfl rfl rfl
theorem dX7_luck_10 : decode cX7_luck 10 = .ok (.ldc2_w 235, 3) := dc20 bqX7_luck_0 10 rfl rfl rfl
theorem dX7_luck_13 : decode cX7_luck 13 = .ok (.lreturn, 1) := dc173 bqX7_luck_0 13 rfl rfl
theorem dX7_luck_14 : decode cX7_luck 14 = .ok (.aload_n 0, 1) := dc42 bqX7_luck_0 14 rfl rfl
theorem dX7_luck_15 : decode cX7_luck 15 = .ok (.getfield 44, 3) := dc180 bqX7_luck_0 15 rfl rfl rfl
theorem dX7_luck_18 : decode cX7_luck 18 = .ok (.iload_n 1, 1) := dc27 bqX7_luck_0 18 rfl rfl
theorem dX7_luck_19 : decode cX7_luck 19 = .ok (.aload_n 0, 1) := dc42 bqX7_luck_0 19 rfl rfl
theorem dX7_luck_20 : decode cX7_luck 20 = .ok (.getfield 10, 3) := dc180 bqX7_luck_0 20 rfl rfl rfl
theorem dX7_luck_23 : decode cX7_luck 23 = .ok (.iload_n 2, 1) := dc28 bqX7_luck_0 23 rfl rfl
theorem bqX7_luck_24 : hs_bs cX7_luck 24 [182, 0, 178, 42, 180, 0, 10, 180, 0, 96, 29, 182, 0, 237, 173] := hs_bs_of _ _ _ (by decide +kernel)
theorem dX7_luck_24 : decode cX7_luck 24 = .ok (.invokevirtual 178, 3) := dc182 bqX7_luck_24 0 rfl rfl rfl
theorem dX7_luck_27 : decode cX7_luck 27 = .ok (.aload_n 0, 1) := dc42 bqX7_luck_24 3 rfl rfl
theorem dX7_luck_28 : decode cX7_luck 28 = .ok (.getfield 10, 3) := dc180 bqX7_luck_24 4 rfl rfl rfl
theorem dX7_luck_31 : decode cX7_luck 31 = .ok (.getfield 96, 3) := dc180 bqX7_luck_24 7 rfl rfl rfl
theorem dX7_luck_34 : decode cX7_luck 34 = .ok (.iload_n 3, 1) := dc29 bqX7_luck_24 10 rfl rfl
theorem dX7_luck_35 : decode cX7_luck 35 = .ok (.invokevirtual 237, 3) := dc182 bqX7_luck_24 11 rfl rfl rfl
theorem dX7_luck_38 : decode cX7_luck 38 = .ok (.lreturn, 1) := dc173 bqX7_luck_24 14 rfl rfl
set_option maxRecDepth 20000 in
theorem gX7_mean_X7_isTrial : GoodIn wsX7_mean (wsV RX7 232 RX7 yX7_isTrial wsX7_isTrial) := hs_gC (hs_gV (hs_inG 3 180 rfl rfl) (hs_inG 3 182 rfl rfl) (hs_inG 0 15 rfl rfl) (hs_inG 1 1 rfl rfl) inC_X7_isTrial)
set_option maxRecDepth 20000 in
theorem gX7_mean_X6_justTo : GoodIn wsX7_mean (wsV RX7 178 RX6 yX6_justTo wsX6_justTo) := hs_gC (hs_gV (hs_inG 3 75 rfl rfl) (hs_inG 3 76 rfl rfl) (hs_inG 3 77 rfl rfl) (hs_inG 1 2 rfl rfl) inC_X6_justTo)
set_option maxRecDepth 20000 in
theorem gX7_mean_X0_expected : GoodIn wsX7_mean (va_wsS RX7 241 yX0_expected wsX0_expected) := hs_gC (hs_gS (hs_inG 3 201 rfl rfl) (hs_inG 3 202 rfl rfl) (hs_inG 1 6 rfl rfl) inC_X0_expected)
theorem bqX7_mean_0 : hs_bs cX7_mean 0 [42, 27, 28, 29, 182, 0, 232, 154, 0, 7, 20, 0, 235, 173, 27, 42, 180, 0, 10, 28, 182, 0, 178, 42] := hs_bs_of _ _ _ (by decide +kernel)
theorem dX7_mean_0 : decode cX7_mean 0 = .ok (.aload_n 0, 1) := dc42 bqX7_mean_0 0 rfl rfl
theorem dX7_mean_1 : decode cX7_mean 1 = .ok (.iload_n 1, 1) := dc27 bqX7_mean_0 1 rfl rfl
theorem dX7_mean_2 : decode cX7_mean 2 = .ok (.iload_n 2, 1) := dc28 bqX7_mean_0 2 rfl rfl
theorem dX7_mean_3 : decode cX7_mean 3 = .ok (.iload_n 3, 1) := dc29 bqX7_mean_0 3 rfl rfl
theorem dX7_mean_4 : decode cX7_mean 4 = .ok (.invokevirtual 232, 3) := dc182 bqX7_mean_0 4 rfl rfl rfl
theorem dX7_mean_7 : decode cX7_mean 7 = .ok (.ifCond .ne 7, 3) := dc154 bqX7_mean_0 7 rfl rfl rfl
theorem dX7_mean_10 : decode cX7_mean 10 = .ok (.ldc2_w 235, 3) := dc20 bqX7_mean_0 10 rfl rfl rfl
theorem dX7_mean_13 : decode cX7_mean 13 = .ok (.lreturn, 1) := dc173 bqX7_mean_0 13 rfl rfl
theorem dX7_mean_14 : decode cX7_mean 14 = .ok (.iload_n 1, 1) := dc27 bqX7_mean_0 14 rfl rfl
theorem dX7_mean_15 : decode cX7_mean 15 = .ok (.aload_n 0, 1) := dc42 bqX7_mean_0 15 rfl rfl
theorem dX7_mean_16 : decode cX7_mean 16 = .ok (.getfield 10, 3) := dc180 bqX7_mean_0 16 rfl rfl rfl
theorem dX7_mean_19 : decode cX7_mean 19 = .ok (.iload_n 2, 1) := dc28 bqX7_mean_0 19 rfl rfl
theorem dX7_mean_20 : decode cX7_mean 20 = .ok (.invokevirtual 178, 3) := dc182 bqX7_mean_0 20 rfl rfl rfl
theorem dX7_mean_23 : decode cX7_mean 23 = .ok (.aload_n 0, 1) := dc42 bqX7_mean_0 23 rfl rfl
theorem bqX7_mean_24 : hs_bs cX7_mean 24 [180, 0, 10, 180, 0, 96, 29, 184, 0, 241, 173] := hs_bs_of _ _ _ (by decide +kernel)
theorem dX7_mean_24 : decode cX7_mean 24 = .ok (.getfield 10, 3) := dc180 bqX7_mean_24 0 rfl rfl rfl
theorem dX7_mean_27 : decode cX7_mean 27 = .ok (.getfield 96, 3) := dc180 bqX7_mean_24 3 rfl rfl rfl
theorem dX7_mean_30 : decode cX7_mean 30 = .ok (.iload_n 3, 1) := dc29 bqX7_mean_24 6 rfl rfl
theorem dX7_mean_31 : decode cX7_mean 31 = .ok (.invokestatic 241, 3) := dc184 bqX7_mean_24 7 rfl rfl rfl
theorem dX7_mean_34 : decode cX7_mean 34 = .ok (.lreturn, 1) := dc173 bqX7_mean_24 10 rfl rfl
set_option maxRecDepth 20000 in
theorem gX7_see_X6_isPerson : GoodIn wsX7_see (wsV RX7 125 RX6 yX6_isPerson wsX6_isPerson) := hs_gC (hs_gV (hs_inG 2 208 rfl rfl) (hs_inG 2 209 rfl rfl) (hs_inG 2 210 rfl rfl) (hs_inG 1 2 rfl rfl) inC_X6_isPerson)
set_option maxRecDepth 20000 in
theorem gX7_see_X6_isCut : GoodIn wsX7_see (wsV RX7 172 RX6 yX6_isCut wsX6_isCut) := hs_gC (hs_gV (hs_inG 3 52 rfl rfl) (hs_inG 3 53 rfl rfl) (hs_inG 3 54 rfl rfl) (hs_inG 1 2 rfl rfl) inC_X6_isCut)
set_option maxRecDepth 20000 in
theorem gX7_see_X7_within : GoodIn wsX7_see (va_wsS RX7 59 yX7_within wsX7_within) := hs_gC (hs_gS (hs_inG 2 10 rfl rfl) (hs_inG 2 11 rfl rfl) (hs_inG 1 1 rfl rfl) inC_X7_within)
set_option maxRecDepth 20000 in
theorem gX7_see_X6_addSeen : GoodIn wsX7_see (wsV RX7 247 RX6 yX6_addSeen wsX6_addSeen) := hs_gC (hs_gV (hs_inG 3 208 rfl rfl) (hs_inG 3 209 rfl rfl) (hs_inG 3 210 rfl rfl) (hs_inG 1 2 rfl rfl) inC_X6_addSeen)
theorem bqX7_see_0 : hs_bs cX7_see 0 [42, 180, 0, 10, 27, 182, 0, 125, 153, 0, 23, 42, 180, 0, 10, 28, 182, 0, 172, 153, 0, 12, 29, 3] := hs_bs_of _ _ _ (by decide +kernel)
theorem dX7_see_0 : decode cX7_see 0 = .ok (.aload_n 0, 1) := dc42 bqX7_see_0 0 rfl rfl
theorem dX7_see_1 : decode cX7_see 1 = .ok (.getfield 10, 3) := dc180 bqX7_see_0 1 rfl rfl rfl
theorem dX7_see_4 : decode cX7_see 4 = .ok (.iload_n 1, 1) := dc27 bqX7_see_0 4 rfl rfl
theorem dX7_see_5 : decode cX7_see 5 = .ok (.invokevirtual 125, 3) := dc182 bqX7_see_0 5 rfl rfl rfl
theorem dX7_see_8 : decode cX7_see 8 = .ok (.ifCond .eq 23, 3) := dc153 bqX7_see_0 8 rfl rfl rfl
theorem dX7_see_11 : decode cX7_see 11 = .ok (.aload_n 0, 1) := dc42 bqX7_see_0 11 rfl rfl
theorem dX7_see_12 : decode cX7_see 12 = .ok (.getfield 10, 3) := dc180 bqX7_see_0 12 rfl rfl rfl
theorem dX7_see_15 : decode cX7_see 15 = .ok (.iload_n 2, 1) := dc28 bqX7_see_0 15 rfl rfl
theorem dX7_see_16 : decode cX7_see 16 = .ok (.invokevirtual 172, 3) := dc182 bqX7_see_0 16 rfl rfl rfl
theorem dX7_see_19 : decode cX7_see 19 = .ok (.ifCond .eq 12, 3) := dc153 bqX7_see_0 19 rfl rfl rfl
theorem dX7_see_22 : decode cX7_see 22 = .ok (.iload_n 3, 1) := dc29 bqX7_see_0 22 rfl rfl
theorem dX7_see_23 : decode cX7_see 23 = .ok (.iconst 0, 1) := dc3 bqX7_see_0 23 rfl rfl
theorem bqX7_see_24 : hs_bs cX7_see 24 [5, 184, 0, 59, 154, 0, 5, 2, 172, 42, 180, 0, 10, 180, 0, 244, 16, 6, 161, 0, 6, 16, 253, 172] := hs_bs_of _ _ _ (by decide +kernel)
theorem dX7_see_24 : decode cX7_see 24 = .ok (.iconst 2, 1) := dc5 bqX7_see_24 0 rfl rfl
theorem dX7_see_25 : decode cX7_see 25 = .ok (.invokestatic 59, 3) := dc184 bqX7_see_24 1 rfl rfl rfl
theorem dX7_see_28 : decode cX7_see 28 = .ok (.ifCond .ne 5, 3) := dc154 bqX7_see_24 4 rfl rfl rfl
theorem dX7_see_31 : decode cX7_see 31 = .ok (.iconst (-1), 1) := dc2 bqX7_see_24 7 rfl rfl
theorem dX7_see_32 : decode cX7_see 32 = .ok (.ireturn, 1) := dc172 bqX7_see_24 8 rfl rfl
theorem dX7_see_33 : decode cX7_see 33 = .ok (.aload_n 0, 1) := dc42 bqX7_see_24 9 rfl rfl
theorem dX7_see_34 : decode cX7_see 34 = .ok (.getfield 10, 3) := dc180 bqX7_see_24 10 rfl rfl rfl
theorem dX7_see_37 : decode cX7_see 37 = .ok (.getfield 244, 3) := dc180 bqX7_see_24 13 rfl rfl rfl
theorem dX7_see_40 : decode cX7_see 40 = .ok (.bipush 6, 2) := dc16 bqX7_see_24 16 rfl rfl rfl
theorem dX7_see_42 : decode cX7_see 42 = .ok (.if_icmp .lt 6, 3) := dc161 bqX7_see_24 18 rfl rfl rfl
theorem dX7_see_45 : decode cX7_see 45 = .ok (.bipush (-3), 2) := dc16 bqX7_see_24 21 rfl rfl rfl
theorem dX7_see_47 : decode cX7_see 47 = .ok (.ireturn, 1) := dc172 bqX7_see_24 23 rfl rfl
theorem bqX7_see_48 : hs_bs cX7_see 48 [42, 180, 0, 10, 27, 28, 29, 182, 0, 247, 42, 180, 0, 10, 180, 0, 244, 172] := hs_bs_of _ _ _ (by decide +kernel)
theorem dX7_see_48 : decode cX7_see 48 = .ok (.aload_n 0, 1) := dc42 bqX7_see_48 0 rfl rfl
theorem dX7_see_49 : decode cX7_see 49 = .ok (.getfield 10, 3) := dc180 bqX7_see_48 1 rfl rfl rfl
theorem dX7_see_52 : decode cX7_see 52 = .ok (.iload_n 1, 1) := dc27 bqX7_see_48 4 rfl rfl
theorem dX7_see_53 : decode cX7_see 53 = .ok (.iload_n 2, 1) := dc28 bqX7_see_48 5 rfl rfl
theorem dX7_see_54 : decode cX7_see 54 = .ok (.iload_n 3, 1) := dc29 bqX7_see_48 6 rfl rfl
theorem dX7_see_55 : decode cX7_see 55 = .ok (.invokevirtual 247, 3) := dc182 bqX7_see_48 7 rfl rfl rfl
theorem dX7_see_58 : decode cX7_see 58 = .ok (.aload_n 0, 1) := dc42 bqX7_see_48 10 rfl rfl
theorem dX7_see_59 : decode cX7_see 59 = .ok (.getfield 10, 3) := dc180 bqX7_see_48 11 rfl rfl rfl
theorem dX7_see_62 : decode cX7_see 62 = .ok (.getfield 244, 3) := dc180 bqX7_see_48 14 rfl rfl rfl
theorem dX7_see_65 : decode cX7_see 65 = .ok (.ireturn, 1) := dc172 bqX7_see_48 17 rfl rfl
set_option maxRecDepth 20000 in
theorem gX7_forget_X7_within : GoodIn wsX7_forget (va_wsS RX7 59 yX7_within wsX7_within) := hs_gC (hs_gS (hs_inG 2 10 rfl rfl) (hs_inG 2 11 rfl rfl) (hs_inG 1 1 rfl rfl) inC_X7_within)
theorem bqX7_forget_0 : hs_bs cX7_forget 0 [27, 3, 42, 180, 0, 10, 180, 0, 244, 184, 0, 59, 154, 0, 5, 2, 172, 42, 180, 0, 10, 180, 0, 244] := hs_bs_of _ _ _ (by decide +kernel)
theorem dX7_forget_0 : decode cX7_forget 0 = .ok (.iload_n 1, 1) := dc27 bqX7_forget_0 0 rfl rfl
theorem dX7_forget_1 : decode cX7_forget 1 = .ok (.iconst 0, 1) := dc3 bqX7_forget_0 1 rfl rfl
theorem dX7_forget_2 : decode cX7_forget 2 = .ok (.aload_n 0, 1) := dc42 bqX7_forget_0 2 rfl rfl
theorem dX7_forget_3 : decode cX7_forget 3 = .ok (.getfield 10, 3) := dc180 bqX7_forget_0 3 rfl rfl rfl
theorem dX7_forget_6 : decode cX7_forget 6 = .ok (.getfield 244, 3) := dc180 bqX7_forget_0 6 rfl rfl rfl
theorem dX7_forget_9 : decode cX7_forget 9 = .ok (.invokestatic 59, 3) := dc184 bqX7_forget_0 9 rfl rfl rfl
theorem dX7_forget_12 : decode cX7_forget 12 = .ok (.ifCond .ne 5, 3) := dc154 bqX7_forget_0 12 rfl rfl rfl
theorem dX7_forget_15 : decode cX7_forget 15 = .ok (.iconst (-1), 1) := dc2 bqX7_forget_0 15 rfl rfl
theorem dX7_forget_16 : decode cX7_forget 16 = .ok (.ireturn, 1) := dc172 bqX7_forget_0 16 rfl rfl
theorem dX7_forget_17 : decode cX7_forget 17 = .ok (.aload_n 0, 1) := dc42 bqX7_forget_0 17 rfl rfl
theorem dX7_forget_18 : decode cX7_forget 18 = .ok (.getfield 10, 3) := dc180 bqX7_forget_0 18 rfl rfl rfl
theorem dX7_forget_21 : decode cX7_forget 21 = .ok (.getfield 244, 3) := dc180 bqX7_forget_0 21 rfl rfl rfl
theorem bqX7_forget_24 : hs_bs cX7_forget 24 [61, 42, 180, 0, 10, 27, 181, 0, 244, 28, 172] := hs_bs_of _ _ _ (by decide +kernel)
theorem dX7_forget_24 : decode cX7_forget 24 = .ok (.istore_n 2, 1) := dc61 bqX7_forget_24 0 rfl rfl
theorem dX7_forget_25 : decode cX7_forget 25 = .ok (.aload_n 0, 1) := dc42 bqX7_forget_24 1 rfl rfl
theorem dX7_forget_26 : decode cX7_forget 26 = .ok (.getfield 10, 3) := dc180 bqX7_forget_24 2 rfl rfl rfl
theorem dX7_forget_29 : decode cX7_forget 29 = .ok (.iload_n 1, 1) := dc27 bqX7_forget_24 5 rfl rfl
theorem dX7_forget_30 : decode cX7_forget 30 = .ok (.putfield 244, 3) := dc181 bqX7_forget_24 6 rfl rfl rfl
theorem dX7_forget_33 : decode cX7_forget 33 = .ok (.iload_n 2, 1) := dc28 bqX7_forget_24 9 rfl rfl
theorem dX7_forget_34 : decode cX7_forget 34 = .ok (.ireturn, 1) := dc172 bqX7_forget_24 10 rfl rfl
set_option maxRecDepth 20000 in
theorem gX7_fits_X6_isCell : GoodIn wsX7_fits (wsV RX7 118 RX6 yX6_isCell wsX6_isCell) := hs_gC (hs_gV (hs_inG 2 200 rfl rfl) (hs_inG 2 201 rfl rfl) (hs_inG 2 202 rfl rfl) (hs_inG 1 2 rfl rfl) inC_X6_isCell)
set_option maxRecDepth 20000 in
theorem gX7_fits_X6_copyFrom : GoodIn wsX7_fits (wsV RX7 89 RX6 yX6_copyFrom wsX6_copyFrom) := hs_gC (hs_gV (hs_inG 2 176 rfl rfl) (hs_inG 2 177 rfl rfl) (hs_inG 2 178 rfl rfl) (hs_inG 1 2 rfl rfl) inC_X6_copyFrom)
set_option maxRecDepth 20000 in
theorem gX7_fits_X6_isAsSeen : GoodIn wsX7_fits (wsV RX7 251 RX6 yX6_isAsSeen wsX6_isAsSeen) := hs_gC (hs_gV (hs_inG 3 220 rfl rfl) (hs_inG 3 221 rfl rfl) (hs_inG 3 222 rfl rfl) (hs_inG 1 2 rfl rfl) inC_X6_isAsSeen)
theorem bqX7_fits_0 : hs_bs cX7_fits 0 [42, 180, 0, 10, 27, 182, 0, 118, 154, 0, 5, 2, 172, 42, 180, 0, 16, 42, 180, 0, 10, 182, 0, 89] := hs_bs_of _ _ _ (by decide +kernel)
theorem dX7_fits_0 : decode cX7_fits 0 = .ok (.aload_n 0, 1) := dc42 bqX7_fits_0 0 rfl rfl
theorem dX7_fits_1 : decode cX7_fits 1 = .ok (.getfield 10, 3) := dc180 bqX7_fits_0 1 rfl rfl rfl
theorem dX7_fits_4 : decode cX7_fits 4 = .ok (.iload_n 1, 1) := dc27 bqX7_fits_0 4 rfl rfl
theorem dX7_fits_5 : decode cX7_fits 5 = .ok (.invokevirtual 118, 3) := dc182 bqX7_fits_0 5 rfl rfl rfl
theorem dX7_fits_8 : decode cX7_fits 8 = .ok (.ifCond .ne 5, 3) := dc154 bqX7_fits_0 8 rfl rfl rfl
theorem dX7_fits_11 : decode cX7_fits 11 = .ok (.iconst (-1), 1) := dc2 bqX7_fits_0 11 rfl rfl
theorem dX7_fits_12 : decode cX7_fits 12 = .ok (.ireturn, 1) := dc172 bqX7_fits_0 12 rfl rfl
theorem dX7_fits_13 : decode cX7_fits 13 = .ok (.aload_n 0, 1) := dc42 bqX7_fits_0 13 rfl rfl
theorem dX7_fits_14 : decode cX7_fits 14 = .ok (.getfield 16, 3) := dc180 bqX7_fits_0 14 rfl rfl rfl
theorem dX7_fits_17 : decode cX7_fits 17 = .ok (.aload_n 0, 1) := dc42 bqX7_fits_0 17 rfl rfl
theorem dX7_fits_18 : decode cX7_fits 18 = .ok (.getfield 10, 3) := dc180 bqX7_fits_0 18 rfl rfl rfl
theorem dX7_fits_21 : decode cX7_fits 21 = .ok (.invokevirtual 89, 3) := dc182 bqX7_fits_0 21 rfl rfl rfl
theorem bqX7_fits_24 : hs_bs cX7_fits 24 [3, 61, 3, 62, 29, 16, 9, 163, 0, 35, 42, 180, 0, 16, 180, 0, 122, 27, 29, 79, 42, 180, 0, 16] := hs_bs_of _ _ _ (by decide +kernel)
theorem dX7_fits_24 : decode cX7_fits 24 = .ok (.iconst 0, 1) := dc3 bqX7_fits_24 0 rfl rfl
theorem dX7_fits_25 : decode cX7_fits 25 = .ok (.istore_n 2, 1) := dc61 bqX7_fits_24 1 rfl rfl
theorem dX7_fits_26 : decode cX7_fits 26 = .ok (.iconst 0, 1) := dc3 bqX7_fits_24 2 rfl rfl
theorem dX7_fits_27 : decode cX7_fits 27 = .ok (.istore_n 3, 1) := dc62 bqX7_fits_24 3 rfl rfl
theorem dX7_fits_28 : decode cX7_fits 28 = .ok (.iload_n 3, 1) := dc29 bqX7_fits_24 4 rfl rfl
theorem dX7_fits_29 : decode cX7_fits 29 = .ok (.bipush 9, 2) := dc16 bqX7_fits_24 5 rfl rfl rfl
theorem dX7_fits_31 : decode cX7_fits 31 = .ok (.if_icmp .gt 35, 3) := dc163 bqX7_fits_24 7 rfl rfl rfl
theorem dX7_fits_34 : decode cX7_fits 34 = .ok (.aload_n 0, 1) := dc42 bqX7_fits_24 10 rfl rfl
theorem dX7_fits_35 : decode cX7_fits 35 = .ok (.getfield 16, 3) := dc180 bqX7_fits_24 11 rfl rfl rfl
theorem dX7_fits_38 : decode cX7_fits 38 = .ok (.getfield 122, 3) := dc180 bqX7_fits_24 14 rfl rfl rfl
theorem dX7_fits_41 : decode cX7_fits 41 = .ok (.iload_n 1, 1) := dc27 bqX7_fits_24 17 rfl rfl
theorem dX7_fits_42 : decode cX7_fits 42 = .ok (.iload_n 3, 1) := dc29 bqX7_fits_24 18 rfl rfl
theorem dX7_fits_43 : decode cX7_fits 43 = .ok (.iastore, 1) := dc79 bqX7_fits_24 19 rfl rfl
theorem dX7_fits_44 : decode cX7_fits 44 = .ok (.aload_n 0, 1) := dc42 bqX7_fits_24 20 rfl rfl
theorem dX7_fits_45 : decode cX7_fits 45 = .ok (.getfield 16, 3) := dc180 bqX7_fits_24 21 rfl rfl rfl
theorem bqX7_fits_48 : hs_bs cX7_fits 48 [182, 0, 251, 153, 0, 9, 28, 4, 29, 120, 128, 61, 132, 3, 1, 167, 255, 221, 28, 172] := hs_bs_of _ _ _ (by decide +kernel)
theorem dX7_fits_48 : decode cX7_fits 48 = .ok (.invokevirtual 251, 3) := dc182 bqX7_fits_48 0 rfl rfl rfl
theorem dX7_fits_51 : decode cX7_fits 51 = .ok (.ifCond .eq 9, 3) := dc153 bqX7_fits_48 3 rfl rfl rfl
theorem dX7_fits_54 : decode cX7_fits 54 = .ok (.iload_n 2, 1) := dc28 bqX7_fits_48 6 rfl rfl
theorem dX7_fits_55 : decode cX7_fits 55 = .ok (.iconst 1, 1) := dc4 bqX7_fits_48 7 rfl rfl
theorem dX7_fits_56 : decode cX7_fits 56 = .ok (.iload_n 3, 1) := dc29 bqX7_fits_48 8 rfl rfl
theorem dX7_fits_57 : decode cX7_fits 57 = .ok (.ishl, 1) := dc120 bqX7_fits_48 9 rfl rfl
theorem dX7_fits_58 : decode cX7_fits 58 = .ok (.ior, 1) := dc128 bqX7_fits_48 10 rfl rfl
theorem dX7_fits_59 : decode cX7_fits 59 = .ok (.istore_n 2, 1) := dc61 bqX7_fits_48 11 rfl rfl
theorem dX7_fits_60 : decode cX7_fits 60 = .ok (.iinc 3 1, 3) := dc132 bqX7_fits_48 12 rfl rfl rfl
theorem dX7_fits_63 : decode cX7_fits 63 = .ok (.goto (-35), 3) := dc167 bqX7_fits_48 15 rfl rfl rfl
theorem dX7_fits_66 : decode cX7_fits 66 = .ok (.iload_n 2, 1) := dc28 bqX7_fits_48 18 rfl rfl
theorem dX7_fits_67 : decode cX7_fits 67 = .ok (.ireturn, 1) := dc172 bqX7_fits_48 19 rfl rfl
set_option maxRecDepth 20000 in
theorem gX7_kinds_X6_isPerson : GoodIn wsX7_kinds (wsV RX7 125 RX6 yX6_isPerson wsX6_isPerson) := hs_gC (hs_gV (hs_inG 2 208 rfl rfl) (hs_inG 2 209 rfl rfl) (hs_inG 2 210 rfl rfl) (hs_inG 1 2 rfl rfl) inC_X6_isPerson)
set_option maxRecDepth 20000 in
theorem gX7_kinds_X6_copyFrom : GoodIn wsX7_kinds (wsV RX7 89 RX6 yX6_copyFrom wsX6_copyFrom) := hs_gC (hs_gV (hs_inG 2 176 rfl rfl) (hs_inG 2 177 rfl rfl) (hs_inG 2 178 rfl rfl) (hs_inG 1 2 rfl rfl) inC_X6_copyFrom)
set_option maxRecDepth 20000 in
theorem gX7_kinds_X6_isAsSeen : GoodIn wsX7_kinds (wsV RX7 251 RX6 yX6_isAsSeen wsX6_isAsSeen) := hs_gC (hs_gV (hs_inG 3 220 rfl rfl) (hs_inG 3 221 rfl rfl) (hs_inG 3 222 rfl rfl) (hs_inG 1 2 rfl rfl) inC_X6_isAsSeen)
theorem bqX7_kinds_0 : hs_bs cX7_kinds 0 [42, 180, 0, 10, 27, 182, 0, 125, 154, 0, 5, 2, 172, 42, 180, 0, 16, 42, 180, 0, 10, 182, 0, 89] := hs_bs_of _ _ _ (by decide +kernel)
theorem dX7_kinds_0 : decode cX7_kinds 0 = .ok (.aload_n 0, 1) := dc42 bqX7_kinds_0 0 rfl rfl
theorem dX7_kinds_1 : decode cX7_kinds 1 = .ok (.getfield 10, 3) := dc180 bqX7_kinds_0 1 rfl rfl rfl
theorem dX7_kinds_4 : decode cX7_kinds 4 = .ok (.iload_n 1, 1) := dc27 bqX7_kinds_0 4 rfl rfl
theorem dX7_kinds_5 : decode cX7_kinds 5 = .ok (.invokevirtual 125, 3) := dc182 bqX7_kinds_0 5 rfl rfl rfl
theorem dX7_kinds_8 : decode cX7_kinds 8 = .ok (.ifCond .ne 5, 3) := dc154 bqX7_kinds_0 8 rfl rfl rfl
theorem dX7_kinds_11 : decode cX7_kinds 11 = .ok (.iconst (-1), 1) := dc2 bqX7_kinds_0 11 rfl rfl
theorem dX7_kinds_12 : decode cX7_kinds 12 = .ok (.ireturn, 1) := dc172 bqX7_kinds_0 12 rfl rfl
theorem dX7_kinds_13 : decode cX7_kinds 13 = .ok (.aload_n 0, 1) := dc42 bqX7_kinds_0 13 rfl rfl
theorem dX7_kinds_14 : decode cX7_kinds 14 = .ok (.getfield 16, 3) := dc180 bqX7_kinds_0 14 rfl rfl rfl
theorem dX7_kinds_17 : decode cX7_kinds 17 = .ok (.aload_n 0, 1) := dc42 bqX7_kinds_0 17 rfl rfl
theorem dX7_kinds_18 : decode cX7_kinds 18 = .ok (.getfield 10, 3) := dc180 bqX7_kinds_0 18 rfl rfl rfl
theorem dX7_kinds_21 : decode cX7_kinds 21 = .ok (.invokevirtual 89, 3) := dc182 bqX7_kinds_0 21 rfl rfl rfl
theorem bqX7_kinds_24 : hs_bs cX7_kinds 24 [3, 61, 3, 62, 29, 6, 163, 0, 35, 42, 180, 0, 16, 180, 0, 128, 27, 29, 79, 42, 180, 0, 16] := hs_bs_of _ _ _ (by decide +kernel)
theorem dX7_kinds_24 : decode cX7_kinds 24 = .ok (.iconst 0, 1) := dc3 bqX7_kinds_24 0 rfl rfl
theorem dX7_kinds_25 : decode cX7_kinds 25 = .ok (.istore_n 2, 1) := dc61 bqX7_kinds_24 1 rfl rfl
theorem dX7_kinds_26 : decode cX7_kinds 26 = .ok (.iconst 0, 1) := dc3 bqX7_kinds_24 2 rfl rfl
theorem dX7_kinds_27 : decode cX7_kinds 27 = .ok (.istore_n 3, 1) := dc62 bqX7_kinds_24 3 rfl rfl
