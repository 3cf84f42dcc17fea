theorem dX8_every_9 : decode cX8_every 9 = .ok (.isub, 1) := dc100 bqX8_every_0 9 rfl rfl
theorem dX8_every_10 : decode cX8_every 10 = .ok (.ireturn, 1) := dc172 bqX8_every_0 10 rfl rfl
set_option maxRecDepth 20000 in
theorem gX8_moreLeft_X8_worthOfAll : GoodIn wsX8_moreLeft (wsV RX8 155 RX8 yX8_worthOfAll wsX8_worthOfAll) := hs_gC (hs_gV (hs_inG 5 100 rfl rfl) (hs_inG 5 102 rfl rfl) (hs_inG 0 40 rfl rfl) (hs_inG 1 8 rfl rfl) inC_X8_worthOfAll)
set_option maxRecDepth 20000 in
theorem gX8_moreLeft_X8_every : GoodIn wsX8_moreLeft (wsV RX8 158 RX8 yX8_every wsX8_every) := hs_gC (hs_gV (hs_inG 5 127 rfl rfl) (hs_inG 5 129 rfl rfl) (hs_inG 0 45 rfl rfl) (hs_inG 1 8 rfl rfl) inC_X8_every)
theorem bqX8_moreLeft_0 : hs_bs cX8_moreLeft 0 [42, 27, 28, 182, 0, 155, 42, 27, 42, 182, 0, 158, 28, 2, 130, 126, 182, 0, 155, 100, 172] := hs_bs_of _ _ _ (by decide +kernel)
theorem dX8_moreLeft_0 : decode cX8_moreLeft 0 = .ok (.aload_n 0, 1) := dc42 bqX8_moreLeft_0 0 rfl rfl
theorem dX8_moreLeft_1 : decode cX8_moreLeft 1 = .ok (.iload_n 1, 1) := dc27 bqX8_moreLeft_0 1 rfl rfl
theorem dX8_moreLeft_2 : decode cX8_moreLeft 2 = .ok (.iload_n 2, 1) := dc28 bqX8_moreLeft_0 2 rfl rfl
theorem dX8_moreLeft_3 : decode cX8_moreLeft 3 = .ok (.invokevirtual 155, 3) := dc182 bqX8_moreLeft_0 3 rfl rfl rfl
theorem dX8_moreLeft_6 : decode cX8_moreLeft 6 = .ok (.aload_n 0, 1) := dc42 bqX8_moreLeft_0 6 rfl rfl
theorem dX8_moreLeft_7 : decode cX8_moreLeft 7 = .ok (.iload_n 1, 1) := dc27 bqX8_moreLeft_0 7 rfl rfl
theorem dX8_moreLeft_8 : decode cX8_moreLeft 8 = .ok (.aload_n 0, 1) := dc42 bqX8_moreLeft_0 8 rfl rfl
theorem dX8_moreLeft_9 : decode cX8_moreLeft 9 = .ok (.invokevirtual 158, 3) := dc182 bqX8_moreLeft_0 9 rfl rfl rfl
theorem dX8_moreLeft_12 : decode cX8_moreLeft 12 = .ok (.iload_n 2, 1) := dc28 bqX8_moreLeft_0 12 rfl rfl
theorem dX8_moreLeft_13 : decode cX8_moreLeft 13 = .ok (.iconst (-1), 1) := dc2 bqX8_moreLeft_0 13 rfl rfl
theorem dX8_moreLeft_14 : decode cX8_moreLeft 14 = .ok (.ixor, 1) := dc130 bqX8_moreLeft_0 14 rfl rfl
theorem dX8_moreLeft_15 : decode cX8_moreLeft 15 = .ok (.iand, 1) := dc126 bqX8_moreLeft_0 15 rfl rfl
theorem dX8_moreLeft_16 : decode cX8_moreLeft 16 = .ok (.invokevirtual 155, 3) := dc182 bqX8_moreLeft_0 16 rfl rfl rfl
theorem dX8_moreLeft_19 : decode cX8_moreLeft 19 = .ok (.isub, 1) := dc100 bqX8_moreLeft_0 19 rfl rfl
theorem dX8_moreLeft_20 : decode cX8_moreLeft 20 = .ok (.ireturn, 1) := dc172 bqX8_moreLeft_0 20 rfl rfl
theorem bqX8_sizeOf_0 : hs_bs cX8_sizeOf 0 [26, 156, 0, 8, 26, 116, 167, 0, 4, 26, 172] := hs_bs_of _ _ _ (by decide +kernel)
theorem dX8_sizeOf_0 : decode cX8_sizeOf 0 = .ok (.iload_n 0, 1) := dc26 bqX8_sizeOf_0 0 rfl rfl
theorem dX8_sizeOf_1 : decode cX8_sizeOf 1 = .ok (.ifCond .ge 8, 3) := dc156 bqX8_sizeOf_0 1 rfl rfl rfl
theorem dX8_sizeOf_4 : decode cX8_sizeOf 4 = .ok (.iload_n 0, 1) := dc26 bqX8_sizeOf_0 4 rfl rfl
theorem dX8_sizeOf_5 : decode cX8_sizeOf 5 = .ok (.ineg, 1) := dc116 bqX8_sizeOf_0 5 rfl rfl
theorem dX8_sizeOf_6 : decode cX8_sizeOf 6 = .ok (.goto 4, 3) := dc167 bqX8_sizeOf_0 6 rfl rfl rfl
theorem dX8_sizeOf_9 : decode cX8_sizeOf 9 = .ok (.iload_n 0, 1) := dc26 bqX8_sizeOf_0 9 rfl rfl
theorem dX8_sizeOf_10 : decode cX8_sizeOf 10 = .ok (.ireturn, 1) := dc172 bqX8_sizeOf_0 10 rfl rfl
theorem bqX8_leftOf_0 : hs_bs cX8_leftOf 0 [4, 26, 120, 4, 100, 172] := hs_bs_of _ _ _ (by decide +kernel)
theorem dX8_leftOf_0 : decode cX8_leftOf 0 = .ok (.iconst 1, 1) := dc4 bqX8_leftOf_0 0 rfl rfl
theorem dX8_leftOf_1 : decode cX8_leftOf 1 = .ok (.iload_n 0, 1) := dc26 bqX8_leftOf_0 1 rfl rfl
theorem dX8_leftOf_2 : decode cX8_leftOf 2 = .ok (.ishl, 1) := dc120 bqX8_leftOf_0 2 rfl rfl
theorem dX8_leftOf_3 : decode cX8_leftOf 3 = .ok (.iconst 1, 1) := dc4 bqX8_leftOf_0 3 rfl rfl
theorem dX8_leftOf_4 : decode cX8_leftOf 4 = .ok (.isub, 1) := dc100 bqX8_leftOf_0 4 rfl rfl
theorem dX8_leftOf_5 : decode cX8_leftOf 5 = .ok (.ireturn, 1) := dc172 bqX8_leftOf_0 5 rfl rfl
set_option maxRecDepth 20000 in
theorem gX8_findOf_X8_leftOf : GoodIn wsX8_findOf (va_wsS RX8 161 yX8_leftOf wsX8_leftOf) := hs_gC (hs_gS (hs_inG 5 120 rfl rfl) (hs_inG 5 121 rfl rfl) (hs_inG 1 8 rfl rfl) inC_X8_leftOf)
set_option maxRecDepth 20000 in
theorem gX8_findOf_X8_moreLeft : GoodIn wsX8_findOf (wsV RX8 164 RX8 yX8_moreLeft wsX8_moreLeft) := hs_gC (hs_gV (hs_inG 5 123 rfl rfl) (hs_inG 5 125 rfl rfl) (hs_inG 0 44 rfl rfl) (hs_inG 1 8 rfl rfl) inC_X8_moreLeft)
set_option maxRecDepth 20000 in
theorem gX8_findOf_X8_sizeOf : GoodIn wsX8_findOf (va_wsS RX8 167 yX8_sizeOf wsX8_sizeOf) := hs_gC (hs_gS (hs_inG 5 131 rfl rfl) (hs_inG 5 132 rfl rfl) (hs_inG 1 8 rfl rfl) inC_X8_sizeOf)
theorem bqX8_findOf_0 : hs_bs cX8_findOf 0 [42, 27, 28, 184, 0, 161, 182, 0, 164, 62, 29, 184, 0, 167, 42, 180, 0, 13, 16, 13, 46, 163, 0, 7] := hs_bs_of _ _ _ (by decide +kernel)
theorem dX8_findOf_0 : decode cX8_findOf 0 = .ok (.aload_n 0, 1) := dc42 bqX8_findOf_0 0 rfl rfl
theorem dX8_findOf_1 : decode cX8_findOf 1 = .ok (.iload_n 1, 1) := dc27 bqX8_findOf_0 1 rfl rfl
theorem dX8_findOf_2 : decode cX8_findOf 2 = .ok (.iload_n 2, 1) := dc28 bqX8_findOf_0 2 rfl rfl
theorem dX8_findOf_3 : decode cX8_findOf 3 = .ok (.invokestatic 161, 3) := dc184 bqX8_findOf_0 3 rfl rfl rfl
theorem dX8_findOf_6 : decode cX8_findOf 6 = .ok (.invokevirtual 164, 3) := dc182 bqX8_findOf_0 6 rfl rfl rfl
theorem dX8_findOf_9 : decode cX8_findOf 9 = .ok (.istore_n 3, 1) := dc62 bqX8_findOf_0 9 rfl rfl
theorem dX8_findOf_10 : decode cX8_findOf 10 = .ok (.iload_n 3, 1) := dc29 bqX8_findOf_0 10 rfl rfl
theorem dX8_findOf_11 : decode cX8_findOf 11 = .ok (.invokestatic 167, 3) := dc184 bqX8_findOf_0 11 rfl rfl rfl
theorem dX8_findOf_14 : decode cX8_findOf 14 = .ok (.aload_n 0, 1) := dc42 bqX8_findOf_0 14 rfl rfl
theorem dX8_findOf_15 : decode cX8_findOf 15 = .ok (.getfield 13, 3) := dc180 bqX8_findOf_0 15 rfl rfl rfl
theorem dX8_findOf_18 : decode cX8_findOf 18 = .ok (.bipush 13, 2) := dc16 bqX8_findOf_0 18 rfl rfl rfl
theorem dX8_findOf_20 : decode cX8_findOf 20 = .ok (.iaload, 1) := dc46 bqX8_findOf_0 20 rfl rfl
theorem dX8_findOf_21 : decode cX8_findOf 21 = .ok (.if_icmp .gt 7, 3) := dc163 bqX8_findOf_0 21 rfl rfl rfl
theorem bqX8_findOf_24 : hs_bs cX8_findOf 24 [3, 167, 0, 12, 29, 158, 0, 7, 4, 167, 0, 4, 5, 172] := hs_bs_of _ _ _ (by decide +kernel)
theorem dX8_findOf_24 : decode cX8_findOf 24 = .ok (.iconst 0, 1) := dc3 bqX8_findOf_24 0 rfl rfl
theorem dX8_findOf_25 : decode cX8_findOf 25 = .ok (.goto 12, 3) := dc167 bqX8_findOf_24 1 rfl rfl rfl
theorem dX8_findOf_28 : decode cX8_findOf 28 = .ok (.iload_n 3, 1) := dc29 bqX8_findOf_24 4 rfl rfl
theorem dX8_findOf_29 : decode cX8_findOf 29 = .ok (.ifCond .le 7, 3) := dc158 bqX8_findOf_24 5 rfl rfl rfl
theorem dX8_findOf_32 : decode cX8_findOf 32 = .ok (.iconst 1, 1) := dc4 bqX8_findOf_24 8 rfl rfl
theorem dX8_findOf_33 : decode cX8_findOf 33 = .ok (.goto 4, 3) := dc167 bqX8_findOf_24 9 rfl rfl rfl
theorem dX8_findOf_36 : decode cX8_findOf 36 = .ok (.iconst 2, 1) := dc5 bqX8_findOf_24 12 rfl rfl
theorem dX8_findOf_37 : decode cX8_findOf 37 = .ok (.ireturn, 1) := dc172 bqX8_findOf_24 13 rfl rfl
set_option maxRecDepth 20000 in
theorem gX8_justTo_X8_findOf : GoodIn wsX8_justTo (wsV RX8 170 RX8 yX8_findOf wsX8_findOf) := hs_gC (hs_gV (hs_inG 5 116 rfl rfl) (hs_inG 5 118 rfl rfl) (hs_inG 0 43 rfl rfl) (hs_inG 1 8 rfl rfl) inC_X8_findOf)
set_option maxRecDepth 20000 in
theorem gX8_justTo_X8_flag : GoodIn wsX8_justTo (va_wsS RX8 173 yX8_flag wsX8_flag) := hs_gC (hs_gS (hs_inG 5 142 rfl rfl) (hs_inG 5 143 rfl rfl) (hs_inG 1 8 rfl rfl) inC_X8_flag)
theorem bqX8_justTo_0 : hs_bs cX8_justTo 0 [3, 61, 3, 62, 29, 42, 180, 0, 63, 162, 0, 31, 28, 42, 29, 27, 182, 0, 170, 154, 0, 7, 4] := hs_bs_of _ _ _ (by decide +kernel)
theorem dX8_justTo_0 : decode cX8_justTo 0 = .ok (.iconst 0, 1) := dc3 bqX8_justTo_0 0 rfl rfl
theorem dX8_justTo_1 : decode cX8_justTo 1 = .ok (.istore_n 2, 1) := dc61 bqX8_justTo_0 1 rfl rfl
theorem dX8_justTo_2 : decode cX8_justTo 2 = .ok (.iconst 0, 1) := dc3 bqX8_justTo_0 2 rfl rfl
theorem dX8_justTo_3 : decode cX8_justTo 3 = .ok (.istore_n 3, 1) := dc62 bqX8_justTo_0 3 rfl rfl
theorem dX8_justTo_4 : decode cX8_justTo 4 = .ok (.iload_n 3, 1) := dc29 bqX8_justTo_0 4 rfl rfl
theorem dX8_justTo_5 : decode cX8_justTo 5 = .ok (.aload_n 0, 1) := dc42 bqX8_justTo_0 5 rfl rfl
theorem dX8_justTo_6 : decode cX8_justTo 6 = .ok (.getfield 63, 3) := dc180 bqX8_justTo_0 6 rfl rfl rfl
theorem dX8_justTo_9 : decode cX8_justTo 9 = .ok (.if_icmp .ge 31, 3) := dc162 bqX8_justTo_0 9 rfl rfl rfl
theorem dX8_justTo_12 : decode cX8_justTo 12 = .ok (.iload_n 2, 1) := dc28 bqX8_justTo_0 12 rfl rfl
theorem dX8_justTo_13 : decode cX8_justTo 13 = .ok (.aload_n 0, 1) := dc42 bqX8_justTo_0 13 rfl rfl
theorem dX8_justTo_14 : decode cX8_justTo 14 = .ok (.iload_n 3, 1) := dc29 bqX8_justTo_0 14 rfl rfl
theorem dX8_justTo_15 : decode cX8_justTo 15 = .ok (.iload_n 1, 1) := dc27 bqX8_justTo_0 15 rfl rfl
theorem dX8_justTo_16 : decode cX8_justTo 16 = .ok (.invokevirtual 170, 3) := dc182 bqX8_justTo_0 16 rfl rfl rfl
theorem dX8_justTo_19 : decode cX8_justTo 19 = .ok (.ifCond .ne 7, 3) := dc154 bqX8_justTo_0 19 rfl rfl rfl
theorem dX8_justTo_22 : decode cX8_justTo 22 = .ok (.iconst 1, 1) := dc4 bqX8_justTo_0 22 rfl rfl
theorem bqX8_justTo_23 : hs_bs cX8_justTo 23 [167, 0, 4, 3, 184, 0, 173, 29, 120, 128, 61, 132, 3, 1, 167, 255, 223, 28, 172] := hs_bs_of _ _ _ (by decide +kernel)
theorem dX8_justTo_23 : decode cX8_justTo 23 = .ok (.goto 4, 3) := dc167 bqX8_justTo_23 0 rfl rfl rfl
theorem dX8_justTo_26 : decode cX8_justTo 26 = .ok (.iconst 0, 1) := dc3 bqX8_justTo_23 3 rfl rfl
theorem dX8_justTo_27 : decode cX8_justTo 27 = .ok (.invokestatic 173, 3) := dc184 bqX8_justTo_23 4 rfl rfl rfl
theorem dX8_justTo_30 : decode cX8_justTo 30 = .ok (.iload_n 3, 1) := dc29 bqX8_justTo_23 7 rfl rfl
theorem dX8_justTo_31 : decode cX8_justTo 31 = .ok (.ishl, 1) := dc120 bqX8_justTo_23 8 rfl rfl
theorem dX8_justTo_32 : decode cX8_justTo 32 = .ok (.ior, 1) := dc128 bqX8_justTo_23 9 rfl rfl
theorem dX8_justTo_33 : decode cX8_justTo 33 = .ok (.istore_n 2, 1) := dc61 bqX8_justTo_23 10 rfl rfl
theorem dX8_justTo_34 : decode cX8_justTo 34 = .ok (.iinc 3 1, 3) := dc132 bqX8_justTo_23 11 rfl rfl rfl
theorem dX8_justTo_37 : decode cX8_justTo 37 = .ok (.goto (-33), 3) := dc167 bqX8_justTo_23 14 rfl rfl rfl
theorem dX8_justTo_40 : decode cX8_justTo 40 = .ok (.iload_n 2, 1) := dc28 bqX8_justTo_23 17 rfl rfl
theorem dX8_justTo_41 : decode cX8_justTo 41 = .ok (.ireturn, 1) := dc172 bqX8_justTo_23 18 rfl rfl
theorem bqX8_bitsOf_0 : hs_bs cX8_bitsOf 0 [3, 60, 3, 61, 28, 16, 8, 162, 0, 17, 27, 26, 28, 122, 4, 126, 96, 60, 132, 2, 1, 167, 255, 239] := hs_bs_of _ _ _ (by decide +kernel)
theorem dX8_bitsOf_0 : decode cX8_bitsOf 0 = .ok (.iconst 0, 1) := dc3 bqX8_bitsOf_0 0 rfl rfl
theorem dX8_bitsOf_1 : decode cX8_bitsOf 1 = .ok (.istore_n 1, 1) := dc60 bqX8_bitsOf_0 1 rfl rfl
theorem dX8_bitsOf_2 : decode cX8_bitsOf 2 = .ok (.iconst 0, 1) := dc3 bqX8_bitsOf_0 2 rfl rfl
theorem dX8_bitsOf_3 : decode cX8_bitsOf 3 = .ok (.istore_n 2, 1) := dc61 bqX8_bitsOf_0 3 rfl rfl
theorem dX8_bitsOf_4 : decode cX8_bitsOf 4 = .ok (.iload_n 2, 1) := dc28 bqX8_bitsOf_0 4 rfl rfl
theorem dX8_bitsOf_5 : decode cX8_bitsOf 5 = .ok (.bipush 8, 2) := dc16 bqX8_bitsOf_0 5 rfl rfl rfl
theorem dX8_bitsOf_7 : decode cX8_bitsOf 7 = .ok (.if_icmp .ge 17, 3) := dc162 bqX8_bitsOf_0 7 rfl rfl rfl
theorem dX8_bitsOf_10 : decode cX8_bitsOf 10 = .ok (.iload_n 1, 1) := dc27 bqX8_bitsOf_0 10 rfl rfl
theorem dX8_bitsOf_11 : decode cX8_bitsOf 11 = .ok (.iload_n 0, 1) := dc26 bqX8_bitsOf_0 11 rfl rfl
theorem dX8_bitsOf_12 : decode cX8_bitsOf 12 = .ok (.iload_n 2, 1) := dc28 bqX8_bitsOf_0 12 rfl rfl
theorem dX8_bitsOf_13 : decode cX8_bitsOf 13 = .ok (.ishr, 1) := dc122 bqX8_bitsOf_0 13 rfl rfl
theorem dX8_bitsOf_14 : decode cX8_bitsOf 14 = .ok (.iconst 1, 1) := dc4 bqX8_bitsOf_0 14 rfl rfl
theorem dX8_bitsOf_15 : decode cX8_bitsOf 15 = .ok (.iand, 1) := dc126 bqX8_bitsOf_0 15 rfl rfl
theorem dX8_bitsOf_16 : decode cX8_bitsOf 16 = .ok (.iadd, 1) := dc96 bqX8_bitsOf_0 16 rfl rfl
theorem dX8_bitsOf_17 : decode cX8_bitsOf 17 = .ok (.istore_n 1, 1) := dc60 bqX8_bitsOf_0 17 rfl rfl
theorem dX8_bitsOf_18 : decode cX8_bitsOf 18 = .ok (.iinc 2 1, 3) := dc132 bqX8_bitsOf_0 18 rfl rfl rfl
theorem dX8_bitsOf_21 : decode cX8_bitsOf 21 = .ok (.goto (-17), 3) := dc167 bqX8_bitsOf_0 21 rfl rfl rfl
theorem bqX8_bitsOf_24 : hs_bs cX8_bitsOf 24 [27, 172] := hs_bs_of _ _ _ (by decide +kernel)
theorem dX8_bitsOf_24 : decode cX8_bitsOf 24 = .ok (.iload_n 1, 1) := dc27 bqX8_bitsOf_24 0 rfl rfl
theorem dX8_bitsOf_25 : decode cX8_bitsOf 25 = .ok (.ireturn, 1) := dc172 bqX8_bitsOf_24 1 rfl rfl
theorem bqX8_allWeights_0 : hs_bs cX8_allWeights 0 [3, 60, 3, 61, 28, 42, 180, 0, 13, 3, 46, 162, 0, 20, 27, 42, 180, 0, 13, 4, 28, 96, 46, 96] := hs_bs_of _ _ _ (by decide +kernel)
theorem dX8_allWeights_0 : decode cX8_allWeights 0 = .ok (.iconst 0, 1) := dc3 bqX8_allWeights_0 0 rfl rfl
theorem dX8_allWeights_1 : decode cX8_allWeights 1 = .ok (.istore_n 1, 1) := dc60 bqX8_allWeights_0 1 rfl rfl
theorem dX8_allWeights_2 : decode cX8_allWeights 2 = .ok (.iconst 0, 1) := dc3 bqX8_allWeights_0 2 rfl rfl
theorem dX8_allWeights_3 : decode cX8_allWeights 3 = .ok (.istore_n 2, 1) := dc61 bqX8_allWeights_0 3 rfl rfl
theorem dX8_allWeights_4 : decode cX8_allWeights 4 = .ok (.iload_n 2, 1) := dc28 bqX8_allWeights_0 4 rfl rfl
theorem dX8_allWeights_5 : decode cX8_allWeights 5 = .ok (.aload_n 0, 1) := dc42 bqX8_allWeights_0 5 rfl rfl
theorem dX8_allWeights_6 : decode cX8_allWeights 6 = .ok (.getfield 13, 3) := dc180 bqX8_allWeights_0 6 rfl rfl rfl
theorem dX8_allWeights_9 : decode cX8_allWeights 9 = .ok (.iconst 0, 1) := dc3 bqX8_allWeights_0 9 rfl rfl
theorem dX8_allWeights_10 : decode cX8_allWeights 10 = .ok (.iaload, 1) := dc46 bqX8_allWeights_0 10 rfl rfl
theorem dX8_allWeights_11 : decode cX8_allWeights 11 = .ok (.if_icmp .ge 20, 3) := dc162 bqX8_allWeights_0 11 rfl rfl rfl
theorem dX8_allWeights_14 : decode cX8_allWeights 14 = .ok (.iload_n 1, 1) := dc27 bqX8_allWeights_0 14 rfl rfl
theorem dX8_allWeights_15 : decode cX8_allWeights 15 = .ok (.aload_n 0, 1) := dc42 bqX8_allWeights_0 15 rfl rfl
theorem dX8_allWeights_16 : decode cX8_allWeights 16 = .ok (.getfield 13, 3) := dc180 bqX8_allWeights_0 16 rfl rfl rfl
theorem dX8_allWeights_19 : decode cX8_allWeights 19 = .ok (.iconst 1, 1) := dc4 bqX8_allWeights_0 19 rfl rfl
theorem dX8_allWeights_20 : decode cX8_allWeights 20 = .ok (.iload_n 2, 1) := dc28 bqX8_allWeights_0 20 rfl rfl
theorem dX8_allWeights_21 : decode cX8_allWeights 21 = .ok (.iadd, 1) := dc96 bqX8_allWeights_0 21 rfl rfl
theorem dX8_allWeights_22 : decode cX8_allWeights 22 = .ok (.iaload, 1) := dc46 bqX8_allWeights_0 22 rfl rfl
theorem dX8_allWeights_23 : decode cX8_allWeights 23 = .ok (.iadd, 1) := dc96 bqX8_allWeights_0 23 rfl rfl
theorem bqX8_allWeights_24 : hs_bs cX8_allWeights 24 [60, 132, 2, 1, 167, 255, 232, 27, 172] := hs_bs_of _ _ _ (by decide +kernel)
theorem dX8_allWeights_24 : decode cX8_allWeights 24 = .ok (.istore_n 1, 1) := dc60 bqX8_allWeights_24 0 rfl rfl
theorem dX8_allWeights_25 : decode cX8_allWeights 25 = .ok (.iinc 2 1, 3) := dc132 bqX8_allWeights_24 1 rfl rfl rfl
theorem dX8_allWeights_28 : decode cX8_allWeights 28 = .ok (.goto (-24), 3) := dc167 bqX8_allWeights_24 4 rfl rfl rfl
theorem dX8_allWeights_31 : decode cX8_allWeights 31 = .ok (.iload_n 1, 1) := dc27 bqX8_allWeights_24 7 rfl rfl
theorem dX8_allWeights_32 : decode cX8_allWeights 32 = .ok (.ireturn, 1) := dc172 bqX8_allWeights_24 8 rfl rfl
set_option maxRecDepth 20000 in
theorem gX8_rule_X8_starts : GoodIn wsX8_rule (wsV RX8 177 RX8 yX8_starts wsX8_starts) := hs_gC (hs_gV (hs_inG 5 32 rfl rfl) (hs_inG 5 34 rfl rfl) (hs_inG 0 35 rfl rfl) (hs_inG 1 8 rfl rfl) inC_X8_starts)
set_option maxRecDepth 20000 in
theorem gX8_rule_X8_allWeights : GoodIn wsX8_rule (wsV RX8 180 RX8 yX8_allWeights wsX8_allWeights) := hs_gC (hs_gV (hs_inG 5 36 rfl rfl) (hs_inG 5 38 rfl rfl) (hs_inG 0 36 rfl rfl) (hs_inG 1 8 rfl rfl) inC_X8_allWeights)
theorem bqX8_rule_0 : hs_bs cX8_rule 0 [42, 182, 0, 177, 27] := hs_bs_of _ _ _ (by decide +kernel)
theorem dX8_rule_0 : decode cX8_rule 0 = .ok (.aload_n 0, 1) := dc42 bqX8_rule_0 0 rfl rfl
theorem dX8_rule_1 : decode cX8_rule 1 = .ok (.invokevirtual 177, 3) := dc182 bqX8_rule_0 1 rfl rfl rfl
theorem dX8_rule_4 : decode cX8_rule 4 = .ok (.iload_n 1, 1) := dc27 bqX8_rule_0 4 rfl rfl
theorem dX8_rule_5 : decode cX8_rule 5 = .ok (.tableswitch 89 0 7 #[47, 54, 59, 59, 59, 71, 76, 84], 47) := by decide +kernel
theorem bqX8_rule_52 : hs_bs cX8_rule 52 [42, 180, 0, 7, 3, 46, 172, 42, 180, 0, 63, 172, 42, 180, 0, 7, 16, 13, 27, 96, 5, 100, 46, 172] := hs_bs_of _ _ _ (by decide +kernel)
theorem dX8_rule_52 : decode cX8_rule 52 = .ok (.aload_n 0, 1) := dc42 bqX8_rule_52 0 rfl rfl
theorem dX8_rule_53 : decode cX8_rule 53 = .ok (.getfield 7, 3) := dc180 bqX8_rule_52 1 rfl rfl rfl
theorem dX8_rule_56 : decode cX8_rule 56 = .ok (.iconst 0, 1) := dc3 bqX8_rule_52 4 rfl rfl
theorem dX8_rule_57 : decode cX8_rule 57 = .ok (.iaload, 1) := dc46 bqX8_rule_52 5 rfl rfl
theorem dX8_rule_58 : decode cX8_rule 58 = .ok (.ireturn, 1) := dc172 bqX8_rule_52 6 rfl rfl
theorem dX8_rule_59 : decode cX8_rule 59 = .ok (.aload_n 0, 1) := dc42 bqX8_rule_52 7 rfl rfl
theorem dX8_rule_60 : decode cX8_rule 60 = .ok (.getfield 63, 3) := dc180 bqX8_rule_52 8 rfl rfl rfl
theorem dX8_rule_63 : decode cX8_rule 63 = .ok (.ireturn, 1) := dc172 bqX8_rule_52 11 rfl rfl
theorem dX8_rule_64 : decode cX8_rule 64 = .ok (.aload_n 0, 1) := dc42 bqX8_rule_52 12 rfl rfl
theorem dX8_rule_65 : decode cX8_rule 65 = .ok (.getfield 7, 3) := dc180 bqX8_rule_52 13 rfl rfl rfl
theorem dX8_rule_68 : decode cX8_rule 68 = .ok (.bipush 13, 2) := dc16 bqX8_rule_52 16 rfl rfl rfl
theorem dX8_rule_70 : decode cX8_rule 70 = .ok (.iload_n 1, 1) := dc27 bqX8_rule_52 18 rfl rfl
theorem dX8_rule_71 : decode cX8_rule 71 = .ok (.iadd, 1) := dc96 bqX8_rule_52 19 rfl rfl
theorem dX8_rule_72 : decode cX8_rule 72 = .ok (.iconst 2, 1) := dc5 bqX8_rule_52 20 rfl rfl
theorem dX8_rule_73 : decode cX8_rule 73 = .ok (.isub, 1) := dc100 bqX8_rule_52 21 rfl rfl
theorem dX8_rule_74 : decode cX8_rule 74 = .ok (.iaload, 1) := dc46 bqX8_rule_52 22 rfl rfl
theorem dX8_rule_75 : decode cX8_rule 75 = .ok (.ireturn, 1) := dc172 bqX8_rule_52 23 rfl rfl
theorem bqX8_rule_76 : hs_bs cX8_rule 76 [42, 180, 0, 66, 172, 42, 180, 0, 7, 16, 16, 46, 172, 42, 182, 0, 180, 172, 2, 172] := hs_bs_of _ _ _ (by decide +kernel)
theorem dX8_rule_76 : decode cX8_rule 76 = .ok (.aload_n 0, 1) := dc42 bqX8_rule_76 0 rfl rfl
theorem dX8_rule_77 : decode cX8_rule 77 = .ok (.getfield 66, 3) := dc180 bqX8_rule_76 1 rfl rfl rfl
theorem dX8_rule_80 : decode cX8_rule 80 = .ok (.ireturn, 1) := dc172 bqX8_rule_76 4 rfl rfl
theorem dX8_rule_81 : decode cX8_rule 81 = .ok (.aload_n 0, 1) := dc42 bqX8_rule_76 5 rfl rfl
theorem dX8_rule_82 : decode cX8_rule 82 = .ok (.getfield 7, 3) := dc180 bqX8_rule_76 6 rfl rfl rfl
theorem dX8_rule_85 : decode cX8_rule 85 = .ok (.bipush 16, 2) := dc16 bqX8_rule_76 9 rfl rfl rfl
theorem dX8_rule_87 : decode cX8_rule 87 = .ok (.iaload, 1) := dc46 bqX8_rule_76 11 rfl rfl
theorem dX8_rule_88 : decode cX8_rule 88 = .ok (.ireturn, 1) := dc172 bqX8_rule_76 12 rfl rfl
theorem dX8_rule_89 : decode cX8_rule 89 = .ok (.aload_n 0, 1) := dc42 bqX8_rule_76 13 rfl rfl
theorem dX8_rule_90 : decode cX8_rule 90 = .ok (.invokevirtual 180, 3) := dc182 bqX8_rule_76 14 rfl rfl rfl
theorem dX8_rule_93 : decode cX8_rule 93 = .ok (.ireturn, 1) := dc172 bqX8_rule_76 17 rfl rfl
theorem dX8_rule_94 : decode cX8_rule 94 = .ok (.iconst (-1), 1) := dc2 bqX8_rule_76 18 rfl rfl
theorem dX8_rule_95 : decode cX8_rule 95 = .ok (.ireturn, 1) := dc172 bqX8_rule_76 19 rfl rfl
set_option maxRecDepth 20000 in
theorem gX8_cell_X8_isCell : GoodIn wsX8_cell (wsV RX8 183 RX8 yX8_isCell wsX8_isCell) := hs_gC (hs_gV (hs_inG 5 44 rfl rfl) (hs_inG 5 46 rfl rfl) (hs_inG 0 37 rfl rfl) (hs_inG 1 8 rfl rfl) inC_X8_isCell)
theorem bqX8_cell_0 : hs_bs cX8_cell 0 [42, 27, 182, 0, 183, 153, 0, 14, 42, 180, 0, 7, 4, 27, 96, 46, 167, 0, 4, 2, 172] := hs_bs_of _ _ _ (by decide +kernel)
theorem dX8_cell_0 : decode cX8_cell 0 = .ok (.aload_n 0, 1) := dc42 bqX8_cell_0 0 rfl rfl
theorem dX8_cell_1 : decode cX8_cell 1 = .ok (.iload_n 1, 1) := dc27 bqX8_cell_0 1 rfl rfl
theorem dX8_cell_2 : decode cX8_cell 2 = .ok (.invokevirtual 183, 3) := dc182 bqX8_cell_0 2 rfl rfl rfl
theorem dX8_cell_5 : decode cX8_cell 5 = .ok (.ifCond .eq 14, 3) := dc153 bqX8_cell_0 5 rfl rfl rfl
theorem dX8_cell_8 : decode cX8_cell 8 = .ok (.aload_n 0, 1) := dc42 bqX8_cell_0 8 rfl rfl
theorem dX8_cell_9 : decode cX8_cell 9 = .ok (.getfield 7, 3) := dc180 bqX8_cell_0 9 rfl rfl rfl
theorem dX8_cell_12 : decode cX8_cell 12 = .ok (.iconst 1, 1) := dc4 bqX8_cell_0 12 rfl rfl
theorem dX8_cell_13 : decode cX8_cell 13 = .ok (.iload_n 1, 1) := dc27 bqX8_cell_0 13 rfl rfl
theorem dX8_cell_14 : decode cX8_cell 14 = .ok (.iadd, 1) := dc96 bqX8_cell_0 14 rfl rfl
theorem dX8_cell_15 : decode cX8_cell 15 = .ok (.iaload, 1) := dc46 bqX8_cell_0 15 rfl rfl
theorem dX8_cell_16 : decode cX8_cell 16 = .ok (.goto 4, 3) := dc167 bqX8_cell_0 16 rfl rfl rfl
theorem dX8_cell_19 : decode cX8_cell 19 = .ok (.iconst (-1), 1) := dc2 bqX8_cell_0 19 rfl rfl
theorem dX8_cell_20 : decode cX8_cell 20 = .ok (.ireturn, 1) := dc172 bqX8_cell_0 20 rfl rfl
set_option maxRecDepth 20000 in
theorem gX8_person_X8_isPerson : GoodIn wsX8_person (wsV RX8 187 RX8 yX8_isPerson wsX8_isPerson) := hs_gC (hs_gV (hs_inG 5 52 rfl rfl) (hs_inG 5 54 rfl rfl) (hs_inG 0 38 rfl rfl) (hs_inG 1 8 rfl rfl) inC_X8_isPerson)
theorem bqX8_person_0 : hs_bs cX8_person 0 [42, 27, 182, 0, 187, 153, 0, 15, 42, 180, 0, 7, 16, 9, 27, 96, 46, 167, 0, 4, 2, 172] := hs_bs_of _ _ _ (by decide +kernel)
theorem dX8_person_0 : decode cX8_person 0 = .ok (.aload_n 0, 1) := dc42 bqX8_person_0 0 rfl rfl
theorem dX8_person_1 : decode cX8_person 1 = .ok (.iload_n 1, 1) := dc27 bqX8_person_0 1 rfl rfl
theorem dX8_person_2 : decode cX8_person 2 = .ok (.invokevirtual 187, 3) := dc182 bqX8_person_0 2 rfl rfl rfl
theorem dX8_person_5 : decode cX8_person 5 = .ok (.ifCond .eq 15, 3) := dc153 bqX8_person_0 5 rfl rfl rfl
theorem dX8_person_8 : decode cX8_person 8 = .ok (.aload_n 0, 1) := dc42 bqX8_person_0 8 rfl rfl
theorem dX8_person_9 : decode cX8_person 9 = .ok (.getfield 7, 3) := dc180 bqX8_person_0 9 rfl rfl rfl
theorem dX8_person_12 : decode cX8_person 12 = .ok (.bipush 9, 2) := dc16 bqX8_person_0 12 rfl rfl rfl
theorem dX8_person_14 : decode cX8_person 14 = .ok (.iload_n 1, 1) := dc27 bqX8_person_0 14 rfl rfl
theorem dX8_person_15 : decode cX8_person 15 = .ok (.iadd, 1) := dc96 bqX8_person_0 15 rfl rfl
theorem dX8_person_16 : decode cX8_person 16 = .ok (.iaload, 1) := dc46 bqX8_person_0 16 rfl rfl
theorem dX8_person_17 : decode cX8_person 17 = .ok (.goto 4, 3) := dc167 bqX8_person_0 17 rfl rfl rfl
theorem dX8_person_20 : decode cX8_person 20 = .ok (.iconst (-1), 1) := dc2 bqX8_person_0 20 rfl rfl
theorem dX8_person_21 : decode cX8_person 21 = .ok (.ireturn, 1) := dc172 bqX8_person_0 21 rfl rfl
set_option maxRecDepth 20000 in
theorem gX8_pair_X8_in : GoodIn wsX8_pair (va_wsS RX8 71 yX8_in wsX8_in) := hs_gC (hs_gS (hs_inG 4 182 rfl rfl) (hs_inG 4 183 rfl rfl) (hs_inG 1 8 rfl rfl) inC_X8_in)
theorem bqX8_pair_0 : hs_bs cX8_pair 0 [27, 133, 9, 42, 180, 0, 7, 16, 16, 46, 4, 100, 133, 184, 0, 71, 153, 0, 15, 42, 180, 0, 7] := hs_bs_of _ _ _ (by decide +kernel)
theorem dX8_pair_0 : decode cX8_pair 0 = .ok (.iload_n 1, 1) := dc27 bqX8_pair_0 0 rfl rfl
theorem dX8_pair_1 : decode cX8_pair 1 = .ok (.i2l, 1) := dc133 bqX8_pair_0 1 rfl rfl
theorem dX8_pair_2 : decode cX8_pair 2 = .ok (.lconst 0, 1) := dc9 bqX8_pair_0 2 rfl rfl
theorem dX8_pair_3 : decode cX8_pair 3 = .ok (.aload_n 0, 1) := dc42 bqX8_pair_0 3 rfl rfl
theorem dX8_pair_4 : decode cX8_pair 4 = .ok (.getfield 7, 3) := dc180 bqX8_pair_0 4 rfl rfl rfl
theorem dX8_pair_7 : decode cX8_pair 7 = .ok (.bipush 16, 2) := dc16 bqX8_pair_0 7 rfl rfl rfl
theorem dX8_pair_9 : decode cX8_pair 9 = .ok (.iaload, 1) := dc46 bqX8_pair_0 9 rfl rfl
theorem dX8_pair_10 : decode cX8_pair 10 = .ok (.iconst 1, 1) := dc4 bqX8_pair_0 10 rfl rfl
theorem dX8_pair_11 : decode cX8_pair 11 = .ok (.isub, 1) := dc100 bqX8_pair_0 11 rfl rfl
theorem dX8_pair_12 : decode cX8_pair 12 = .ok (.i2l, 1) := dc133 bqX8_pair_0 12 rfl rfl
theorem dX8_pair_13 : decode cX8_pair 13 = .ok (.invokestatic 71, 3) := dc184 bqX8_pair_0 13 rfl rfl rfl
theorem dX8_pair_16 : decode cX8_pair 16 = .ok (.ifCond .eq 15, 3) := dc153 bqX8_pair_0 16 rfl rfl rfl
theorem dX8_pair_19 : decode cX8_pair 19 = .ok (.aload_n 0, 1) := dc42 bqX8_pair_0 19 rfl rfl
theorem dX8_pair_20 : decode cX8_pair 20 = .ok (.getfield 7, 3) := dc180 bqX8_pair_0 20 rfl rfl rfl
theorem bqX8_pair_23 : hs_bs cX8_pair 23 [16, 17, 27, 96, 46, 167, 0, 4, 2, 172] := hs_bs_of _ _ _ (by decide +kernel)
theorem dX8_pair_23 : decode cX8_pair 23 = .ok (.bipush 17, 2) := dc16 bqX8_pair_23 0 rfl rfl rfl
theorem dX8_pair_25 : decode cX8_pair 25 = .ok (.iload_n 1, 1) := dc27 bqX8_pair_23 2 rfl rfl
theorem dX8_pair_26 : decode cX8_pair 26 = .ok (.iadd, 1) := dc96 bqX8_pair_23 3 rfl rfl
theorem dX8_pair_27 : decode cX8_pair 27 = .ok (.iaload, 1) := dc46 bqX8_pair_23 4 rfl rfl
theorem dX8_pair_28 : decode cX8_pair 28 = .ok (.goto 4, 3) := dc167 bqX8_pair_23 5 rfl rfl rfl
theorem dX8_pair_31 : decode cX8_pair 31 = .ok (.iconst (-1), 1) := dc2 bqX8_pair_23 8 rfl rfl
theorem dX8_pair_32 : decode cX8_pair 32 = .ok (.ireturn, 1) := dc172 bqX8_pair_23 9 rfl rfl
theorem bqX8_becomes_0 : hs_bs cX8_becomes 0 [42, 180, 0, 7, 27, 46, 62, 42, 180, 0, 7, 27, 28, 79, 29, 172] := hs_bs_of _ _ _ (by decide +kernel)
theorem dX8_becomes_0 : decode cX8_becomes 0 = .ok (.aload_n 0, 1) := dc42 bqX8_becomes_0 0 rfl rfl
theorem dX8_becomes_1 : decode cX8_becomes 1 = .ok (.getfield 7, 3) := dc180 bqX8_becomes_0 1 rfl rfl rfl
theorem dX8_becomes_4 : decode cX8_becomes 4 = .ok (.iload_n 1, 1) := dc27 bqX8_becomes_0 4 rfl rfl
theorem dX8_becomes_5 : decode cX8_becomes 5 = .ok (.iaload, 1) := dc46 bqX8_becomes_0 5 rfl rfl
theorem dX8_becomes_6 : decode cX8_becomes 6 = .ok (.istore_n 3, 1) := dc62 bqX8_becomes_0 6 rfl rfl
theorem dX8_becomes_7 : decode cX8_becomes 7 = .ok (.aload_n 0, 1) := dc42 bqX8_becomes_0 7 rfl rfl
theorem dX8_becomes_8 : decode cX8_becomes 8 = .ok (.getfield 7, 3) := dc180 bqX8_becomes_0 8 rfl rfl rfl
theorem dX8_becomes_11 : decode cX8_becomes 11 = .ok (.iload_n 1, 1) := dc27 bqX8_becomes_0 11 rfl rfl
theorem dX8_becomes_12 : decode cX8_becomes 12 = .ok (.iload_n 2, 1) := dc28 bqX8_becomes_0 12 rfl rfl
theorem dX8_becomes_13 : decode cX8_becomes 13 = .ok (.iastore, 1) := dc79 bqX8_becomes_0 13 rfl rfl
theorem dX8_becomes_14 : decode cX8_becomes 14 = .ok (.iload_n 3, 1) := dc29 bqX8_becomes_0 14 rfl rfl
theorem dX8_becomes_15 : decode cX8_becomes 15 = .ok (.ireturn, 1) := dc172 bqX8_becomes_0 15 rfl rfl
set_option maxRecDepth 20000 in
theorem gX8_weigh_X8_isCell : GoodIn wsX8_weigh (wsV RX8 183 RX8 yX8_isCell wsX8_isCell) := hs_gC (hs_gV (hs_inG 5 44 rfl rfl) (hs_inG 5 46 rfl rfl) (hs_inG 0 37 rfl rfl) (hs_inG 1 8 rfl rfl) inC_X8_isCell)
set_option maxRecDepth 20000 in
theorem gX8_weigh_X8_in : GoodIn wsX8_weigh (va_wsS RX8 71 yX8_in wsX8_in) := hs_gC (hs_gS (hs_inG 4 182 rfl rfl) (hs_inG 4 183 rfl rfl) (hs_inG 1 8 rfl rfl) inC_X8_in)
set_option maxRecDepth 20000 in
theorem gX8_weigh_X8_becomes : GoodIn wsX8_weigh (wsV RX8 192 RX8 yX8_becomes wsX8_becomes) := hs_gC (hs_gV (hs_inG 5 65 rfl rfl) (hs_inG 5 67 rfl rfl) (hs_inG 0 39 rfl rfl) (hs_inG 1 8 rfl rfl) inC_X8_becomes)
theorem bqX8_weigh_0 : hs_bs cX8_weigh 0 [42, 27, 182, 0, 183, 153, 0, 26, 28, 133, 9, 20, 0, 190, 184, 0, 71, 153, 0, 14, 42, 4, 27, 96] := hs_bs_of _ _ _ (by decide +kernel)
theorem dX8_weigh_0 : decode cX8_weigh 0 = .ok (.aload_n 0, 1) := dc42 bqX8_weigh_0 0 rfl rfl
theorem dX8_weigh_1 : decode cX8_weigh 1 = .ok (.iload_n 1, 1) := dc27 bqX8_weigh_0 1 rfl rfl
theorem dX8_weigh_2 : decode cX8_weigh 2 = .ok (.invokevirtual 183, 3) := dc182 bqX8_weigh_0 2 rfl rfl rfl
theorem dX8_weigh_5 : decode cX8_weigh 5 = .ok (.ifCond .eq 26, 3) := dc153 bqX8_weigh_0 5 rfl rfl rfl
theorem dX8_weigh_8 : decode cX8_weigh 8 = .ok (.iload_n 2, 1) := dc28 bqX8_weigh_0 8 rfl rfl
theorem dX8_weigh_9 : decode cX8_weigh 9 = .ok (.i2l, 1) := dc133 bqX8_weigh_0 9 rfl rfl
theorem dX8_weigh_10 : decode cX8_weigh 10 = .ok (.lconst 0, 1) := dc9 bqX8_weigh_0 10 rfl rfl
theorem dX8_weigh_11 : decode cX8_weigh 11 = .ok (.ldc2_w 190, 3) := dc20 bqX8_weigh_0 11 rfl rfl rfl
theorem dX8_weigh_14 : decode cX8_weigh 14 = .ok (.invokestatic 71, 3) := dc184 bqX8_weigh_0 14 rfl rfl rfl
theorem dX8_weigh_17 : decode cX8_weigh 17 = .ok (.ifCond .eq 14, 3) := dc153 bqX8_weigh_0 17 rfl rfl rfl
theorem dX8_weigh_20 : decode cX8_weigh 20 = .ok (.aload_n 0, 1) := dc42 bqX8_weigh_0 20 rfl rfl
theorem dX8_weigh_21 : decode cX8_weigh 21 = .ok (.iconst 1, 1) := dc4 bqX8_weigh_0 21 rfl rfl
theorem dX8_weigh_22 : decode cX8_weigh 22 = .ok (.iload_n 1, 1) := dc27 bqX8_weigh_0 22 rfl rfl
theorem dX8_weigh_23 : decode cX8_weigh 23 = .ok (.iadd, 1) := dc96 bqX8_weigh_0 23 rfl rfl
theorem bqX8_weigh_24 : hs_bs cX8_weigh 24 [28, 182, 0, 192, 167, 0, 4, 2, 172] := hs_bs_of _ _ _ (by decide +kernel)
theorem dX8_weigh_24 : decode cX8_weigh 24 = .ok (.iload_n 2, 1) := dc28 bqX8_weigh_24 0 rfl rfl
theorem dX8_weigh_25 : decode cX8_weigh 25 = .ok (.invokevirtual 192, 3) := dc182 bqX8_weigh_24 1 rfl rfl rfl
theorem dX8_weigh_28 : decode cX8_weigh 28 = .ok (.goto 4, 3) := dc167 bqX8_weigh_24 4 rfl rfl rfl
theorem dX8_weigh_31 : decode cX8_weigh 31 = .ok (.iconst (-1), 1) := dc2 bqX8_weigh_24 7 rfl rfl
theorem dX8_weigh_32 : decode cX8_weigh 32 = .ok (.ireturn, 1) := dc172 bqX8_weigh_24 8 rfl rfl
set_option maxRecDepth 20000 in
theorem gX8_split_X8_isCell : GoodIn wsX8_split (wsV RX8 183 RX8 yX8_isCell wsX8_isCell) := hs_gC (hs_gV (hs_inG 5 44 rfl rfl) (hs_inG 5 46 rfl rfl) (hs_inG 0 37 rfl rfl) (hs_inG 1 8 rfl rfl) inC_X8_isCell)
theorem bqX8_split_0 : hs_bs cX8_split 0 [42, 27, 182, 0, 183, 154, 0, 5, 2, 172, 42, 180, 0, 7, 3, 46, 16, 8, 160, 0, 6, 16, 253, 172] := hs_bs_of _ _ _ (by decide +kernel)
theorem dX8_split_0 : decode cX8_split 0 = .ok (.aload_n 0, 1) := dc42 bqX8_split_0 0 rfl rfl
theorem dX8_split_1 : decode cX8_split 1 = .ok (.iload_n 1, 1) := dc27 bqX8_split_0 1 rfl rfl
theorem dX8_split_2 : decode cX8_split 2 = .ok (.invokevirtual 183, 3) := dc182 bqX8_split_0 2 rfl rfl rfl
theorem dX8_split_5 : decode cX8_split 5 = .ok (.ifCond .ne 5, 3) := dc154 bqX8_split_0 5 rfl rfl rfl
theorem dX8_split_8 : decode cX8_split 8 = .ok (.iconst (-1), 1) := dc2 bqX8_split_0 8 rfl rfl
theorem dX8_split_9 : decode cX8_split 9 = .ok (.ireturn, 1) := dc172 bqX8_split_0 9 rfl rfl
theorem dX8_split_10 : decode cX8_split 10 = .ok (.aload_n 0, 1) := dc42 bqX8_split_0 10 rfl rfl
theorem dX8_split_11 : decode cX8_split 11 = .ok (.getfield 7, 3) := dc180 bqX8_split_0 11 rfl rfl rfl
theorem dX8_split_14 : decode cX8_split 14 = .ok (.iconst 0, 1) := dc3 bqX8_split_0 14 rfl rfl
theorem dX8_split_15 : decode cX8_split 15 = .ok (.iaload, 1) := dc46 bqX8_split_0 15 rfl rfl
theorem dX8_split_16 : decode cX8_split 16 = .ok (.bipush 8, 2) := dc16 bqX8_split_0 16 rfl rfl rfl
theorem dX8_split_18 : decode cX8_split 18 = .ok (.if_icmp .ne 6, 3) := dc160 bqX8_split_0 18 rfl rfl rfl
theorem dX8_split_21 : decode cX8_split 21 = .ok (.bipush (-3), 2) := dc16 bqX8_split_0 21 rfl rfl rfl
theorem dX8_split_23 : decode cX8_split 23 = .ok (.ireturn, 1) := dc172 bqX8_split_0 23 rfl rfl
theorem bqX8_split_24 : hs_bs cX8_split 24 [42, 180, 0, 7, 3, 46, 61, 28, 27, 164, 0, 27, 42, 180, 0, 7, 4, 28, 96, 42, 180, 0, 7, 4] := hs_bs_of _ _ _ (by decide +kernel)
theorem dX8_split_24 : decode cX8_split 24 = .ok (.aload_n 0, 1) := dc42 bqX8_split_24 0 rfl rfl
theorem dX8_split_25 : decode cX8_split 25 = .ok (.getfield 7, 3) := dc180 bqX8_split_24 1 rfl rfl rfl
theorem dX8_split_28 : decode cX8_split 28 = .ok (.iconst 0, 1) := dc3 bqX8_split_24 4 rfl rfl
theorem dX8_split_29 : decode cX8_split 29 = .ok (.iaload, 1) := dc46 bqX8_split_24 5 rfl rfl
theorem dX8_split_30 : decode cX8_split 30 = .ok (.istore_n 2, 1) := dc61 bqX8_split_24 6 rfl rfl
theorem dX8_split_31 : decode cX8_split 31 = .ok (.iload_n 2, 1) := dc28 bqX8_split_24 7 rfl rfl
theorem dX8_split_32 : decode cX8_split 32 = .ok (.iload_n 1, 1) := dc27 bqX8_split_24 8 rfl rfl
theorem dX8_split_33 : decode cX8_split 33 = .ok (.if_icmp .le 27, 3) := dc164 bqX8_split_24 9 rfl rfl rfl
theorem dX8_split_36 : decode cX8_split 36 = .ok (.aload_n 0, 1) := dc42 bqX8_split_24 12 rfl rfl
theorem dX8_split_37 : decode cX8_split 37 = .ok (.getfield 7, 3) := dc180 bqX8_split_24 13 rfl rfl rfl
theorem dX8_split_40 : decode cX8_split 40 = .ok (.iconst 1, 1) := dc4 bqX8_split_24 16 rfl rfl
theorem dX8_split_41 : decode cX8_split 41 = .ok (.iload_n 2, 1) := dc28 bqX8_split_24 17 rfl rfl
theorem dX8_split_42 : decode cX8_split 42 = .ok (.iadd, 1) := dc96 bqX8_split_24 18 rfl rfl
theorem dX8_split_43 : decode cX8_split 43 = .ok (.aload_n 0, 1) := dc42 bqX8_split_24 19 rfl rfl
theorem dX8_split_44 : decode cX8_split 44 = .ok (.getfield 7, 3) := dc180 bqX8_split_24 20 rfl rfl rfl
theorem dX8_split_47 : decode cX8_split 47 = .ok (.iconst 1, 1) := dc4 bqX8_split_24 23 rfl rfl
theorem bqX8_split_48 : hs_bs cX8_split 48 [28, 96, 4, 100, 46, 79, 132, 2, 255, 167, 255, 230, 42, 180, 0, 7, 4, 27, 96, 46, 61, 42] := hs_bs_of _ _ _ (by decide +kernel)
theorem dX8_split_48 : decode cX8_split 48 = .ok (.iload_n 2, 1) := dc28 bqX8_split_48 0 rfl rfl
theorem dX8_split_49 : decode cX8_split 49 = .ok (.iadd, 1) := dc96 bqX8_split_48 1 rfl rfl
theorem dX8_split_50 : decode cX8_split 50 = .ok (.iconst 1, 1) := dc4 bqX8_split_48 2 rfl rfl
theorem dX8_split_51 : decode cX8_split 51 = .ok (.isub, 1) := dc100 bqX8_split_48 3 rfl rfl
theorem dX8_split_52 : decode cX8_split 52 = .ok (.iaload, 1) := dc46 bqX8_split_48 4 rfl rfl
theorem dX8_split_53 : decode cX8_split 53 = .ok (.iastore, 1) := dc79 bqX8_split_48 5 rfl rfl
theorem dX8_split_54 : decode cX8_split 54 = .ok (.iinc 2 (-1), 3) := dc132 bqX8_split_48 6 rfl rfl rfl
theorem dX8_split_57 : decode cX8_split 57 = .ok (.goto (-26), 3) := dc167 bqX8_split_48 9 rfl rfl rfl
theorem dX8_split_60 : decode cX8_split 60 = .ok (.aload_n 0, 1) := dc42 bqX8_split_48 12 rfl rfl
theorem dX8_split_61 : decode cX8_split 61 = .ok (.getfield 7, 3) := dc180 bqX8_split_48 13 rfl rfl rfl
theorem dX8_split_64 : decode cX8_split 64 = .ok (.iconst 1, 1) := dc4 bqX8_split_48 16 rfl rfl
theorem dX8_split_65 : decode cX8_split 65 = .ok (.iload_n 1, 1) := dc27 bqX8_split_48 17 rfl rfl
theorem dX8_split_66 : decode cX8_split 66 = .ok (.iadd, 1) := dc96 bqX8_split_48 18 rfl rfl
theorem dX8_split_67 : decode cX8_split 67 = .ok (.iaload, 1) := dc46 bqX8_split_48 19 rfl rfl
theorem dX8_split_68 : decode cX8_split 68 = .ok (.istore_n 2, 1) := dc61 bqX8_split_48 20 rfl rfl
theorem dX8_split_69 : decode cX8_split 69 = .ok (.aload_n 0, 1) := dc42 bqX8_split_48 21 rfl rfl
theorem bqX8_split_70 : hs_bs cX8_split 70 [180, 0, 7, 4, 27, 96, 28, 28, 5, 108, 100, 79, 42, 180, 0, 7, 4, 27, 96, 4, 96, 28, 5, 108] := hs_bs_of _ _ _ (by decide +kernel)
theorem dX8_split_70 : decode cX8_split 70 = .ok (.getfield 7, 3) := dc180 bqX8_split_70 0 rfl rfl rfl
theorem dX8_split_73 : decode cX8_split 73 = .ok (.iconst 1, 1) := dc4 bqX8_split_70 3 rfl rfl
theorem dX8_split_74 : decode cX8_split 74 = .ok (.iload_n 1, 1) := dc27 bqX8_split_70 4 rfl rfl
theorem dX8_split_75 : decode cX8_split 75 = .ok (.iadd, 1) := dc96 bqX8_split_70 5 rfl rfl
theorem dX8_split_76 : decode cX8_split 76 = .ok (.iload_n 2, 1) := dc28 bqX8_split_70 6 rfl rfl
theorem dX8_split_77 : decode cX8_split 77 = .ok (.iload_n 2, 1) := dc28 bqX8_split_70 7 rfl rfl
theorem dX8_split_78 : decode cX8_split 78 = .ok (.iconst 2, 1) := dc5 bqX8_split_70 8 rfl rfl
theorem dX8_split_79 : decode cX8_split 79 = .ok (.idiv, 1) := dc108 bqX8_split_70 9 rfl rfl
theorem dX8_split_80 : decode cX8_split 80 = .ok (.isub, 1) := dc100 bqX8_split_70 10 rfl rfl
theorem dX8_split_81 : decode cX8_split 81 = .ok (.iastore, 1) := dc79 bqX8_split_70 11 rfl rfl
theorem dX8_split_82 : decode cX8_split 82 = .ok (.aload_n 0, 1) := dc42 bqX8_split_70 12 rfl rfl
theorem dX8_split_83 : decode cX8_split 83 = .ok (.getfield 7, 3) := dc180 bqX8_split_70 13 rfl rfl rfl
theorem dX8_split_86 : decode cX8_split 86 = .ok (.iconst 1, 1) := dc4 bqX8_split_70 16 rfl rfl
theorem dX8_split_87 : decode cX8_split 87 = .ok (.iload_n 1, 1) := dc27 bqX8_split_70 17 rfl rfl
theorem dX8_split_88 : decode cX8_split 88 = .ok (.iadd, 1) := dc96 bqX8_split_70 18 rfl rfl
theorem dX8_split_89 : decode cX8_split 89 = .ok (.iconst 1, 1) := dc4 bqX8_split_70 19 rfl rfl
theorem dX8_split_90 : decode cX8_split 90 = .ok (.iadd, 1) := dc96 bqX8_split_70 20 rfl rfl
theorem dX8_split_91 : decode cX8_split 91 = .ok (.iload_n 2, 1) := dc28 bqX8_split_70 21 rfl rfl
theorem dX8_split_92 : decode cX8_split 92 = .ok (.iconst 2, 1) := dc5 bqX8_split_70 22 rfl rfl
theorem dX8_split_93 : decode cX8_split 93 = .ok (.idiv, 1) := dc108 bqX8_split_70 23 rfl rfl
theorem bqX8_split_94 : hs_bs cX8_split 94 [79, 42, 180, 0, 7, 3, 92, 46, 4, 96, 79, 42, 180, 0, 7, 3, 46, 172] := hs_bs_of _ _ _ (by decide +kernel)
theorem dX8_split_94 : decode cX8_split 94 = .ok (.iastore, 1) := dc79 bqX8_split_94 0 rfl rfl
theorem dX8_split_95 : decode cX8_split 95 = .ok (.aload_n 0, 1) := dc42 bqX8_split_94 1 rfl rfl
theorem dX8_split_96 : decode cX8_split 96 = .ok (.getfield 7, 3) := dc180 bqX8_split_94 2 rfl rfl rfl
theorem dX8_split_99 : decode cX8_split 99 = .ok (.iconst 0, 1) := dc3 bqX8_split_94 5 rfl rfl
theorem dX8_split_100 : decode cX8_split 100 = .ok (.dup2, 1) := dc92 bqX8_split_94 6 rfl rfl
theorem dX8_split_101 : decode cX8_split 101 = .ok (.iaload, 1) := dc46 bqX8_split_94 7 rfl rfl
theorem dX8_split_102 : decode cX8_split 102 = .ok (.iconst 1, 1) := dc4 bqX8_split_94 8 rfl rfl
theorem dX8_split_103 : decode cX8_split 103 = .ok (.iadd, 1) := dc96 bqX8_split_94 9 rfl rfl
theorem dX8_split_104 : decode cX8_split 104 = .ok (.iastore, 1) := dc79 bqX8_split_94 10 rfl rfl
theorem dX8_split_105 : decode cX8_split 105 = .ok (.aload_n 0, 1) := dc42 bqX8_split_94 11 rfl rfl
theorem dX8_split_106 : decode cX8_split 106 = .ok (.getfield 7, 3) := dc180 bqX8_split_94 12 rfl rfl rfl
theorem dX8_split_109 : decode cX8_split 109 = .ok (.iconst 0, 1) := dc3 bqX8_split_94 15 rfl rfl
theorem dX8_split_110 : decode cX8_split 110 = .ok (.iaload, 1) := dc46 bqX8_split_94 16 rfl rfl
theorem dX8_split_111 : decode cX8_split 111 = .ok (.ireturn, 1) := dc172 bqX8_split_94 17 rfl rfl
set_option maxRecDepth 20000 in
theorem gX8_join_X8_in : GoodIn wsX8_join (va_wsS RX8 71 yX8_in wsX8_in) := hs_gC (hs_gS (hs_inG 4 182 rfl rfl) (hs_inG 4 183 rfl rfl) (hs_inG 1 8 rfl rfl) inC_X8_in)
theorem bqX8_join_0 : hs_bs cX8_join 0 [27, 133, 9, 42, 180, 0, 7, 3, 46, 5, 100, 133, 184, 0, 71, 154, 0, 5, 2, 172, 42, 180, 0, 7] := hs_bs_of _ _ _ (by decide +kernel)
theorem dX8_join_0 : decode cX8_join 0 = .ok (.iload_n 1, 1) := dc27 bqX8_join_0 0 rfl rfl
theorem dX8_join_1 : decode cX8_join 1 = .ok (.i2l, 1) := dc133 bqX8_join_0 1 rfl rfl
theorem dX8_join_2 : decode cX8_join 2 = .ok (.lconst 0, 1) := dc9 bqX8_join_0 2 rfl rfl
theorem dX8_join_3 : decode cX8_join 3 = .ok (.aload_n 0, 1) := dc42 bqX8_join_0 3 rfl rfl
theorem dX8_join_4 : decode cX8_join 4 = .ok (.getfield 7, 3) := dc180 bqX8_join_0 4 rfl rfl rfl
theorem dX8_join_7 : decode cX8_join 7 = .ok (.iconst 0, 1) := dc3 bqX8_join_0 7 rfl rfl
theorem dX8_join_8 : decode cX8_join 8 = .ok (.iaload, 1) := dc46 bqX8_join_0 8 rfl rfl
theorem dX8_join_9 : decode cX8_join 9 = .ok (.iconst 2, 1) := dc5 bqX8_join_0 9 rfl rfl
theorem dX8_join_10 : decode cX8_join 10 = .ok (.isub, 1) := dc100 bqX8_join_0 10 rfl rfl
theorem dX8_join_11 : decode cX8_join 11 = .ok (.i2l, 1) := dc133 bqX8_join_0 11 rfl rfl
theorem dX8_join_12 : decode cX8_join 12 = .ok (.invokestatic 71, 3) := dc184 bqX8_join_0 12 rfl rfl rfl
theorem dX8_join_15 : decode cX8_join 15 = .ok (.ifCond .ne 5, 3) := dc154 bqX8_join_0 15 rfl rfl rfl
theorem dX8_join_18 : decode cX8_join 18 = .ok (.iconst (-1), 1) := dc2 bqX8_join_0 18 rfl rfl
theorem dX8_join_19 : decode cX8_join 19 = .ok (.ireturn, 1) := dc172 bqX8_join_0 19 rfl rfl
theorem dX8_join_20 : decode cX8_join 20 = .ok (.aload_n 0, 1) := dc42 bqX8_join_0 20 rfl rfl
theorem dX8_join_21 : decode cX8_join 21 = .ok (.getfield 7, 3) := dc180 bqX8_join_0 21 rfl rfl rfl
theorem bqX8_join_24 : hs_bs cX8_join 24 [3, 46, 5, 160, 0, 6, 16, 254, 172, 42, 180, 0, 7, 4, 27, 96, 46, 42, 180, 0, 7, 4, 27, 96] := hs_bs_of _ _ _ (by decide +kernel)
theorem dX8_join_24 : decode cX8_join 24 = .ok (.iconst 0, 1) := dc3 bqX8_join_24 0 rfl rfl
theorem dX8_join_25 : decode cX8_join 25 = .ok (.iaload, 1) := dc46 bqX8_join_24 1 rfl rfl
theorem dX8_join_26 : decode cX8_join 26 = .ok (.iconst 2, 1) := dc5 bqX8_join_24 2 rfl rfl
theorem dX8_join_27 : decode cX8_join 27 = .ok (.if_icmp .ne 6, 3) := dc160 bqX8_join_24 3 rfl rfl rfl
theorem dX8_join_30 : decode cX8_join 30 = .ok (.bipush (-2), 2) := dc16 bqX8_join_24 6 rfl rfl rfl
theorem dX8_join_32 : decode cX8_join 32 = .ok (.ireturn, 1) := dc172 bqX8_join_24 8 rfl rfl
theorem dX8_join_33 : decode cX8_join 33 = .ok (.aload_n 0, 1) := dc42 bqX8_join_24 9 rfl rfl
theorem dX8_join_34 : decode cX8_join 34 = .ok (.getfield 7, 3) := dc180 bqX8_join_24 10 rfl rfl rfl
theorem dX8_join_37 : decode cX8_join 37 = .ok (.iconst 1, 1) := dc4 bqX8_join_24 13 rfl rfl
theorem dX8_join_38 : decode cX8_join 38 = .ok (.iload_n 1, 1) := dc27 bqX8_join_24 14 rfl rfl
theorem dX8_join_39 : decode cX8_join 39 = .ok (.iadd, 1) := dc96 bqX8_join_24 15 rfl rfl
theorem dX8_join_40 : decode cX8_join 40 = .ok (.iaload, 1) := dc46 bqX8_join_24 16 rfl rfl
theorem dX8_join_41 : decode cX8_join 41 = .ok (.aload_n 0, 1) := dc42 bqX8_join_24 17 rfl rfl
theorem dX8_join_42 : decode cX8_join 42 = .ok (.getfield 7, 3) := dc180 bqX8_join_24 18 rfl rfl rfl
theorem dX8_join_45 : decode cX8_join 45 = .ok (.iconst 1, 1) := dc4 bqX8_join_24 21 rfl rfl
theorem dX8_join_46 : decode cX8_join 46 = .ok (.iload_n 1, 1) := dc27 bqX8_join_24 22 rfl rfl
theorem dX8_join_47 : decode cX8_join 47 = .ok (.iadd, 1) := dc96 bqX8_join_24 23 rfl rfl
theorem bqX8_join_48 : hs_bs cX8_join 48 [4, 96, 46, 96, 61, 42, 180, 0, 7, 4, 27, 96, 28, 16, 9, 164, 0, 8, 16, 9, 167, 0, 4, 28] := hs_bs_of _ _ _ (by decide +kernel)
theorem dX8_join_48 : decode cX8_join 48 = .ok (.iconst 1, 1) := dc4 bqX8_join_48 0 rfl rfl
theorem dX8_join_49 : decode cX8_join 49 = .ok (.iadd, 1) := dc96 bqX8_join_48 1 rfl rfl
theorem dX8_join_50 : decode cX8_join 50 = .ok (.iaload, 1) := dc46 bqX8_join_48 2 rfl rfl
theorem dX8_join_51 : decode cX8_join 51 = .ok (.iadd, 1) := dc96 bqX8_join_48 3 rfl rfl
theorem dX8_join_52 : decode cX8_join 52 = .ok (.istore_n 2, 1) := dc61 bqX8_join_48 4 rfl rfl
theorem dX8_join_53 : decode cX8_join 53 = .ok (.aload_n 0, 1) := dc42 bqX8_join_48 5 rfl rfl
theorem dX8_join_54 : decode cX8_join 54 = .ok (.getfield 7, 3) := dc180 bqX8_join_48 6 rfl rfl rfl
theorem dX8_join_57 : decode cX8_join 57 = .ok (.iconst 1, 1) := dc4 bqX8_join_48 9 rfl rfl
theorem dX8_join_58 : decode cX8_join 58 = .ok (.iload_n 1, 1) := dc27 bqX8_join_48 10 rfl rfl
theorem dX8_join_59 : decode cX8_join 59 = .ok (.iadd, 1) := dc96 bqX8_join_48 11 rfl rfl
theorem dX8_join_60 : decode cX8_join 60 = .ok (.iload_n 2, 1) := dc28 bqX8_join_48 12 rfl rfl
theorem dX8_join_61 : decode cX8_join 61 = .ok (.bipush 9, 2) := dc16 bqX8_join_48 13 rfl rfl rfl
theorem dX8_join_63 : decode cX8_join 63 = .ok (.if_icmp .le 8, 3) := dc164 bqX8_join_48 15 rfl rfl rfl
theorem dX8_join_66 : decode cX8_join 66 = .ok (.bipush 9, 2) := dc16 bqX8_join_48 18 rfl rfl rfl
theorem dX8_join_68 : decode cX8_join 68 = .ok (.goto 4, 3) := dc167 bqX8_join_48 20 rfl rfl rfl
theorem dX8_join_71 : decode cX8_join 71 = .ok (.iload_n 2, 1) := dc28 bqX8_join_48 23 rfl rfl
theorem bqX8_join_72 : hs_bs cX8_join 72 [79, 42, 180, 0, 7, 3, 92, 46, 4, 100, 79, 27, 4, 96, 62, 29, 42, 180, 0, 7, 3, 46] := hs_bs_of _ _ _ (by decide +kernel)
theorem dX8_join_72 : decode cX8_join 72 = .ok (.iastore, 1) := dc79 bqX8_join_72 0 rfl rfl
theorem dX8_join_73 : decode cX8_join 73 = .ok (.aload_n 0, 1) := dc42 bqX8_join_72 1 rfl rfl
theorem dX8_join_74 : decode cX8_join 74 = .ok (.getfield 7, 3) := dc180 bqX8_join_72 2 rfl rfl rfl
theorem dX8_join_77 : decode cX8_join 77 = .ok (.iconst 0, 1) := dc3 bqX8_join_72 5 rfl rfl
theorem dX8_join_78 : decode cX8_join 78 = .ok (.dup2, 1) := dc92 bqX8_join_72 6 rfl rfl
theorem dX8_join_79 : decode cX8_join 79 = .ok (.iaload, 1) := dc46 bqX8_join_72 7 rfl rfl
theorem dX8_join_80 : decode cX8_join 80 = .ok (.iconst 1, 1) := dc4 bqX8_join_72 8 rfl rfl
theorem dX8_join_81 : decode cX8_join 81 = .ok (.isub, 1) := dc100 bqX8_join_72 9 rfl rfl
theorem dX8_join_82 : decode cX8_join 82 = .ok (.iastore, 1) := dc79 bqX8_join_72 10 rfl rfl
theorem dX8_join_83 : decode cX8_join 83 = .ok (.iload_n 1, 1) := dc27 bqX8_join_72 11 rfl rfl
theorem dX8_join_84 : decode cX8_join 84 = .ok (.iconst 1, 1) := dc4 bqX8_join_72 12 rfl rfl
theorem dX8_join_85 : decode cX8_join 85 = .ok (.iadd, 1) := dc96 bqX8_join_72 13 rfl rfl
theorem dX8_join_86 : decode cX8_join 86 = .ok (.istore_n 3, 1) := dc62 bqX8_join_72 14 rfl rfl
theorem dX8_join_87 : decode cX8_join 87 = .ok (.iload_n 3, 1) := dc29 bqX8_join_72 15 rfl rfl
theorem dX8_join_88 : decode cX8_join 88 = .ok (.aload_n 0, 1) := dc42 bqX8_join_72 16 rfl rfl
theorem dX8_join_89 : decode cX8_join 89 = .ok (.getfield 7, 3) := dc180 bqX8_join_72 17 rfl rfl rfl
theorem dX8_join_92 : decode cX8_join 92 = .ok (.iconst 0, 1) := dc3 bqX8_join_72 20 rfl rfl
theorem dX8_join_93 : decode cX8_join 93 = .ok (.iaload, 1) := dc46 bqX8_join_72 21 rfl rfl
theorem bqX8_join_94 : hs_bs cX8_join 94 [162, 0, 27, 42, 180, 0, 7, 4, 29, 96, 42, 180, 0, 7, 4, 29, 96, 4, 96, 46, 79, 132, 3, 1] := hs_bs_of _ _ _ (by decide +kernel)
theorem dX8_join_94 : decode cX8_join 94 = .ok (.if_icmp .ge 27, 3) := dc162 bqX8_join_94 0 rfl rfl rfl
theorem dX8_join_97 : decode cX8_join 97 = .ok (.aload_n 0, 1) := dc42 bqX8_join_94 3 rfl rfl
theorem dX8_join_98 : decode cX8_join 98 = .ok (.getfield 7, 3) := dc180 bqX8_join_94 4 rfl rfl rfl
theorem dX8_join_101 : decode cX8_join 101 = .ok (.iconst 1, 1) := dc4 bqX8_join_94 7 rfl rfl
theorem dX8_join_102 : decode cX8_join 102 = .ok (.iload_n 3, 1) := dc29 bqX8_join_94 8 rfl rfl
theorem dX8_join_103 : decode cX8_join 103 = .ok (.iadd, 1) := dc96 bqX8_join_94 9 rfl rfl
theorem dX8_join_104 : decode cX8_join 104 = .ok (.aload_n 0, 1) := dc42 bqX8_join_94 10 rfl rfl
theorem dX8_join_105 : decode cX8_join 105 = .ok (.getfield 7, 3) := dc180 bqX8_join_94 11 rfl rfl rfl
theorem dX8_join_108 : decode cX8_join 108 = .ok (.iconst 1, 1) := dc4 bqX8_join_94 14 rfl rfl
theorem dX8_join_109 : decode cX8_join 109 = .ok (.iload_n 3, 1) := dc29 bqX8_join_94 15 rfl rfl
theorem dX8_join_110 : decode cX8_join 110 = .ok (.iadd, 1) := dc96 bqX8_join_94 16 rfl rfl
theorem dX8_join_111 : decode cX8_join 111 = .ok (.iconst 1, 1) := dc4 bqX8_join_94 17 rfl rfl
theorem dX8_join_112 : decode cX8_join 112 = .ok (.iadd, 1) := dc96 bqX8_join_94 18 rfl rfl
theorem dX8_join_113 : decode cX8_join 113 = .ok (.iaload, 1) := dc46 bqX8_join_94 19 rfl rfl
theorem dX8_join_114 : decode cX8_join 114 = .ok (.iastore, 1) := dc79 bqX8_join_94 20 rfl rfl
theorem dX8_join_115 : decode cX8_join 115 = .ok (.iinc 3 1, 3) := dc132 bqX8_join_94 21 rfl rfl rfl
theorem bqX8_join_118 : hs_bs cX8_join 118 [167, 255, 225, 42, 180, 0, 7, 3, 46, 172] := hs_bs_of _ _ _ (by decide +kernel)
theorem dX8_join_118 : decode cX8_join 118 = .ok (.goto (-31), 3) := dc167 bqX8_join_118 0 rfl rfl rfl
theorem dX8_join_121 : decode cX8_join 121 = .ok (.aload_n 0, 1) := dc42 bqX8_join_118 3 rfl rfl
theorem dX8_join_122 : decode cX8_join 122 = .ok (.getfield 7, 3) := dc180 bqX8_join_118 4 rfl rfl rfl
theorem dX8_join_125 : decode cX8_join 125 = .ok (.iconst 0, 1) := dc3 bqX8_join_118 7 rfl rfl
theorem dX8_join_126 : decode cX8_join 126 = .ok (.iaload, 1) := dc46 bqX8_join_118 8 rfl rfl
theorem dX8_join_127 : decode cX8_join 127 = .ok (.ireturn, 1) := dc172 bqX8_join_118 9 rfl rfl
set_option maxRecDepth 20000 in
theorem gX8_teach_X8_isPerson : GoodIn wsX8_teach (wsV RX8 187 RX8 yX8_isPerson wsX8_isPerson) := hs_gC (hs_gV (hs_inG 5 52 rfl rfl) (hs_inG 5 54 rfl rfl) (hs_inG 0 38 rfl rfl) (hs_inG 1 8 rfl rfl) inC_X8_isPerson)
set_option maxRecDepth 20000 in
theorem gX8_teach_X8_in : GoodIn wsX8_teach (va_wsS RX8 71 yX8_in wsX8_in) := hs_gC (hs_gS (hs_inG 4 182 rfl rfl) (hs_inG 4 183 rfl rfl) (hs_inG 1 8 rfl rfl) inC_X8_in)
set_option maxRecDepth 20000 in
theorem gX8_teach_X8_becomes : GoodIn wsX8_teach (wsV RX8 192 RX8 yX8_becomes wsX8_becomes) := hs_gC (hs_gV (hs_inG 5 65 rfl rfl) (hs_inG 5 67 rfl rfl) (hs_inG 0 39 rfl rfl) (hs_inG 1 8 rfl rfl) inC_X8_becomes)
theorem bqX8_teach_0 : hs_bs cX8_teach 0 [42, 27, 182, 0, 187, 153, 0, 27, 28, 133, 9, 20, 0, 195, 184, 0, 71, 153, 0, 15, 42, 16, 9, 27] := hs_bs_of _ _ _ (by decide +kernel)
theorem dX8_teach_0 : decode cX8_teach 0 = .ok (.aload_n 0, 1) := dc42 bqX8_teach_0 0 rfl rfl
theorem dX8_teach_1 : decode cX8_teach 1 = .ok (.iload_n 1, 1) := dc27 bqX8_teach_0 1 rfl rfl
theorem dX8_teach_2 : decode cX8_teach 2 = .ok (.invokevirtual 187, 3) := dc182 bqX8_teach_0 2 rfl rfl rfl
theorem dX8_teach_5 : decode cX8_teach 5 = .ok (.ifCond .eq 27, 3) := dc153 bqX8_teach_0 5 rfl rfl rfl
theorem dX8_teach_8 : decode cX8_teach 8 = .ok (.iload_n 2, 1) := dc28 bqX8_teach_0 8 rfl rfl
theorem dX8_teach_9 : decode cX8_teach 9 = .ok (.i2l, 1) := dc133 bqX8_teach_0 9 rfl rfl
theorem dX8_teach_10 : decode cX8_teach 10 = .ok (.lconst 0, 1) := dc9 bqX8_teach_0 10 rfl rfl
theorem dX8_teach_11 : decode cX8_teach 11 = .ok (.ldc2_w 195, 3) := dc20 bqX8_teach_0 11 rfl rfl rfl
theorem dX8_teach_14 : decode cX8_teach 14 = .ok (.invokestatic 71, 3) := dc184 bqX8_teach_0 14 rfl rfl rfl
theorem dX8_teach_17 : decode cX8_teach 17 = .ok (.ifCond .eq 15, 3) := dc153 bqX8_teach_0 17 rfl rfl rfl
theorem dX8_teach_20 : decode cX8_teach 20 = .ok (.aload_n 0, 1) := dc42 bqX8_teach_0 20 rfl rfl
theorem dX8_teach_21 : decode cX8_teach 21 = .ok (.bipush 9, 2) := dc16 bqX8_teach_0 21 rfl rfl rfl
theorem dX8_teach_23 : decode cX8_teach 23 = .ok (.iload_n 1, 1) := dc27 bqX8_teach_0 23 rfl rfl
theorem bqX8_teach_24 : hs_bs cX8_teach 24 [96, 28, 182, 0, 192, 167, 0, 4, 2, 172] := hs_bs_of _ _ _ (by decide +kernel)
theorem dX8_teach_24 : decode cX8_teach 24 = .ok (.iadd, 1) := dc96 bqX8_teach_24 0 rfl rfl
theorem dX8_teach_25 : decode cX8_teach 25 = .ok (.iload_n 2, 1) := dc28 bqX8_teach_24 1 rfl rfl
theorem dX8_teach_26 : decode cX8_teach 26 = .ok (.invokevirtual 192, 3) := dc182 bqX8_teach_24 2 rfl rfl rfl
theorem dX8_teach_29 : decode cX8_teach 29 = .ok (.goto 4, 3) := dc167 bqX8_teach_24 5 rfl rfl rfl
theorem dX8_teach_32 : decode cX8_teach 32 = .ok (.iconst (-1), 1) := dc2 bqX8_teach_24 8 rfl rfl
theorem dX8_teach_33 : decode cX8_teach 33 = .ok (.ireturn, 1) := dc172 bqX8_teach_24 9 rfl rfl
set_option maxRecDepth 20000 in
theorem gX8_set_X8_in : GoodIn wsX8_set (va_wsS RX8 71 yX8_in wsX8_in) := hs_gC (hs_gS (hs_inG 4 182 rfl rfl) (hs_inG 4 183 rfl rfl) (hs_inG 1 8 rfl rfl) inC_X8_in)
set_option maxRecDepth 20000 in
theorem gX8_set_X8_becomes : GoodIn wsX8_set (wsV RX8 192 RX8 yX8_becomes wsX8_becomes) := hs_gC (hs_gV (hs_inG 5 65 rfl rfl) (hs_inG 5 67 rfl rfl) (hs_inG 0 39 rfl rfl) (hs_inG 1 8 rfl rfl) inC_X8_becomes)
theorem bqX8_set_0 : hs_bs cX8_set 0 [27, 133, 20, 0, 197, 20, 0, 195, 184, 0, 71, 153, 0, 40, 28, 133, 9, 27, 5, 160, 0, 9] := hs_bs_of _ _ _ (by decide +kernel)
theorem dX8_set_0 : decode cX8_set 0 = .ok (.iload_n 1, 1) := dc27 bqX8_set_0 0 rfl rfl
theorem dX8_set_1 : decode cX8_set 1 = .ok (.i2l, 1) := dc133 bqX8_set_0 1 rfl rfl
theorem dX8_set_2 : decode cX8_set 2 = .ok (.ldc2_w 197, 3) := dc20 bqX8_set_0 2 rfl rfl rfl
theorem dX8_set_5 : decode cX8_set 5 = .ok (.ldc2_w 195, 3) := dc20 bqX8_set_0 5 rfl rfl rfl
theorem dX8_set_8 : decode cX8_set 8 = .ok (.invokestatic 71, 3) := dc184 bqX8_set_0 8 rfl rfl rfl
theorem dX8_set_11 : decode cX8_set 11 = .ok (.ifCond .eq 40, 3) := dc153 bqX8_set_0 11 rfl rfl rfl
theorem dX8_set_14 : decode cX8_set 14 = .ok (.iload_n 2, 1) := dc28 bqX8_set_0 14 rfl rfl
theorem dX8_set_15 : decode cX8_set 15 = .ok (.i2l, 1) := dc133 bqX8_set_0 15 rfl rfl
theorem dX8_set_16 : decode cX8_set 16 = .ok (.lconst 0, 1) := dc9 bqX8_set_0 16 rfl rfl
theorem dX8_set_17 : decode cX8_set 17 = .ok (.iload_n 1, 1) := dc27 bqX8_set_0 17 rfl rfl
theorem dX8_set_18 : decode cX8_set 18 = .ok (.iconst 2, 1) := dc5 bqX8_set_0 18 rfl rfl
theorem dX8_set_19 : decode cX8_set 19 = .ok (.if_icmp .ne 9, 3) := dc160 bqX8_set_0 19 rfl rfl rfl
theorem bqX8_set_22 : hs_bs cX8_set 22 [20, 0, 190, 167, 0, 6, 20, 0, 199, 184, 0, 71, 153, 0, 17, 42, 16, 13, 27, 96, 5, 100, 28] := hs_bs_of _ _ _ (by decide +kernel)
theorem dX8_set_22 : decode cX8_set 22 = .ok (.ldc2_w 190, 3) := dc20 bqX8_set_22 0 rfl rfl rfl
theorem dX8_set_25 : decode cX8_set 25 = .ok (.goto 6, 3) := dc167 bqX8_set_22 3 rfl rfl rfl
theorem dX8_set_28 : decode cX8_set 28 = .ok (.ldc2_w 199, 3) := dc20 bqX8_set_22 6 rfl rfl rfl
theorem dX8_set_31 : decode cX8_set 31 = .ok (.invokestatic 71, 3) := dc184 bqX8_set_22 9 rfl rfl rfl
theorem dX8_set_34 : decode cX8_set 34 = .ok (.ifCond .eq 17, 3) := dc153 bqX8_set_22 12 rfl rfl rfl
theorem dX8_set_37 : decode cX8_set 37 = .ok (.aload_n 0, 1) := dc42 bqX8_set_22 15 rfl rfl
theorem dX8_set_38 : decode cX8_set 38 = .ok (.bipush 13, 2) := dc16 bqX8_set_22 16 rfl rfl rfl
theorem dX8_set_40 : decode cX8_set 40 = .ok (.iload_n 1, 1) := dc27 bqX8_set_22 18 rfl rfl
theorem dX8_set_41 : decode cX8_set 41 = .ok (.iadd, 1) := dc96 bqX8_set_22 19 rfl rfl
theorem dX8_set_42 : decode cX8_set 42 = .ok (.iconst 2, 1) := dc5 bqX8_set_22 20 rfl rfl
theorem dX8_set_43 : decode cX8_set 43 = .ok (.isub, 1) := dc100 bqX8_set_22 21 rfl rfl
theorem dX8_set_44 : decode cX8_set 44 = .ok (.iload_n 2, 1) := dc28 bqX8_set_22 22 rfl rfl
theorem bqX8_set_45 : hs_bs cX8_set 45 [182, 0, 192, 167, 0, 4, 2, 172] := hs_bs_of _ _ _ (by decide +kernel)
theorem dX8_set_45 : decode cX8_set 45 = .ok (.invokevirtual 192, 3) := dc182 bqX8_set_45 0 rfl rfl rfl
theorem dX8_set_48 : decode cX8_set 48 = .ok (.goto 4, 3) := dc167 bqX8_set_45 3 rfl rfl rfl
theorem dX8_set_51 : decode cX8_set 51 = .ok (.iconst (-1), 1) := dc2 bqX8_set_45 6 rfl rfl
theorem dX8_set_52 : decode cX8_set 52 = .ok (.ireturn, 1) := dc172 bqX8_set_45 7 rfl rfl
theorem bqX8_appeal_0 : hs_bs cX8_appeal 0 [42, 180, 0, 7, 16, 14, 46, 5, 162, 0, 6, 16, 254, 172, 42, 180, 0, 7, 16, 14, 92, 46, 42] := hs_bs_of _ _ _ (by decide +kernel)
theorem dX8_appeal_0 : decode cX8_appeal 0 = .ok (.aload_n 0, 1) := dc42 bqX8_appeal_0 0 rfl rfl
theorem dX8_appeal_1 : decode cX8_appeal 1 = .ok (.getfield 7, 3) := dc180 bqX8_appeal_0 1 rfl rfl rfl
theorem dX8_appeal_4 : decode cX8_appeal 4 = .ok (.bipush 14, 2) := dc16 bqX8_appeal_0 4 rfl rfl rfl
theorem dX8_appeal_6 : decode cX8_appeal 6 = .ok (.iaload, 1) := dc46 bqX8_appeal_0 6 rfl rfl
theorem dX8_appeal_7 : decode cX8_appeal 7 = .ok (.iconst 2, 1) := dc5 bqX8_appeal_0 7 rfl rfl
theorem dX8_appeal_8 : decode cX8_appeal 8 = .ok (.if_icmp .ge 6, 3) := dc162 bqX8_appeal_0 8 rfl rfl rfl
theorem dX8_appeal_11 : decode cX8_appeal 11 = .ok (.bipush (-2), 2) := dc16 bqX8_appeal_0 11 rfl rfl rfl
theorem dX8_appeal_13 : decode cX8_appeal 13 = .ok (.ireturn, 1) := dc172 bqX8_appeal_0 13 rfl rfl
theorem dX8_appeal_14 : decode cX8_appeal 14 = .ok (.aload_n 0, 1) := dc42 bqX8_appeal_0 14 rfl rfl
theorem dX8_appeal_15 : decode cX8_appeal 15 = .ok (.getfield 7, 3) := dc180 bqX8_appeal_0 15 rfl rfl rfl
theorem dX8_appeal_18 : decode cX8_appeal 18 = .ok (.bipush 14, 2) := dc16 bqX8_appeal_0 18 rfl rfl rfl
theorem dX8_appeal_20 : decode cX8_appeal 20 = .ok (.dup2, 1) := dc92 bqX8_appeal_0 20 rfl rfl
theorem dX8_appeal_21 : decode cX8_appeal 21 = .ok (.iaload, 1) := dc46 bqX8_appeal_0 21 rfl rfl
theorem dX8_appeal_22 : decode cX8_appeal 22 = .ok (.aload_n 0, 1) := dc42 bqX8_appeal_0 22 rfl rfl
theorem bqX8_appeal_23 : hs_bs cX8_appeal 23 [180, 0, 7, 16, 14, 46, 5, 108, 100, 79, 42, 180, 0, 7, 16, 15, 92, 46, 4, 96, 79, 42] := hs_bs_of _ _ _ (by decide +kernel)
theorem dX8_appeal_23 : decode cX8_appeal 23 = .ok (.getfield 7, 3) := dc180 bqX8_appeal_23 0 rfl rfl rfl
theorem dX8_appeal_26 : decode cX8_appeal 26 = .ok (.bipush 14, 2) := dc16 bqX8_appeal_23 3 rfl rfl rfl
theorem dX8_appeal_28 : decode cX8_appeal 28 = .ok (.iaload, 1) := dc46 bqX8_appeal_23 5 rfl rfl
theorem dX8_appeal_29 : decode cX8_appeal 29 = .ok (.iconst 2, 1) := dc5 bqX8_appeal_23 6 rfl rfl
theorem dX8_appeal_30 : decode cX8_appeal 30 = .ok (.idiv, 1) := dc108 bqX8_appeal_23 7 rfl rfl
theorem dX8_appeal_31 : decode cX8_appeal 31 = .ok (.isub, 1) := dc100 bqX8_appeal_23 8 rfl rfl
theorem dX8_appeal_32 : decode cX8_appeal 32 = .ok (.iastore, 1) := dc79 bqX8_appeal_23 9 rfl rfl
theorem dX8_appeal_33 : decode cX8_appeal 33 = .ok (.aload_n 0, 1) := dc42 bqX8_appeal_23 10 rfl rfl
theorem dX8_appeal_34 : decode cX8_appeal 34 = .ok (.getfield 7, 3) := dc180 bqX8_appeal_23 11 rfl rfl rfl
theorem dX8_appeal_37 : decode cX8_appeal 37 = .ok (.bipush 15, 2) := dc16 bqX8_appeal_23 14 rfl rfl rfl
theorem dX8_appeal_39 : decode cX8_appeal 39 = .ok (.dup2, 1) := dc92 bqX8_appeal_23 16 rfl rfl
theorem dX8_appeal_40 : decode cX8_appeal 40 = .ok (.iaload, 1) := dc46 bqX8_appeal_23 17 rfl rfl
theorem dX8_appeal_41 : decode cX8_appeal 41 = .ok (.iconst 1, 1) := dc4 bqX8_appeal_23 18 rfl rfl
theorem dX8_appeal_42 : decode cX8_appeal 42 = .ok (.iadd, 1) := dc96 bqX8_appeal_23 19 rfl rfl
theorem dX8_appeal_43 : decode cX8_appeal 43 = .ok (.iastore, 1) := dc79 bqX8_appeal_23 20 rfl rfl
theorem dX8_appeal_44 : decode cX8_appeal 44 = .ok (.aload_n 0, 1) := dc42 bqX8_appeal_23 21 rfl rfl
theorem bqX8_appeal_45 : hs_bs cX8_appeal 45 [180, 0, 7, 16, 14, 46, 172] := hs_bs_of _ _ _ (by decide +kernel)
theorem dX8_appeal_45 : decode cX8_appeal 45 = .ok (.getfield 7, 3) := dc180 bqX8_appeal_45 0 rfl rfl rfl
theorem dX8_appeal_48 : decode cX8_appeal 48 = .ok (.bipush 14, 2) := dc16 bqX8_appeal_45 3 rfl rfl rfl
theorem dX8_appeal_50 : decode cX8_appeal 50 = .ok (.iaload, 1) := dc46 bqX8_appeal_45 5 rfl rfl
theorem dX8_appeal_51 : decode cX8_appeal 51 = .ok (.ireturn, 1) := dc172 bqX8_appeal_45 6 rfl rfl
theorem bqX8_isOrder_0 : hs_bs cX8_isOrder 0 [27, 62, 3, 54, 4, 28, 4, 100, 54, 5, 21, 5, 155, 0, 37, 42, 180, 0, 26, 21, 5, 29, 28, 112] := hs_bs_of _ _ _ (by decide +kernel)
theorem dX8_isOrder_0 : decode cX8_isOrder 0 = .ok (.iload_n 1, 1) := dc27 bqX8_isOrder_0 0 rfl rfl
theorem dX8_isOrder_1 : decode cX8_isOrder 1 = .ok (.istore_n 3, 1) := dc62 bqX8_isOrder_0 1 rfl rfl
theorem dX8_isOrder_2 : decode cX8_isOrder 2 = .ok (.iconst 0, 1) := dc3 bqX8_isOrder_0 2 rfl rfl
theorem dX8_isOrder_3 : decode cX8_isOrder 3 = .ok (.istore 4, 2) := dc54 bqX8_isOrder_0 3 rfl rfl
theorem dX8_isOrder_5 : decode cX8_isOrder 5 = .ok (.iload_n 2, 1) := dc28 bqX8_isOrder_0 5 rfl rfl
theorem dX8_isOrder_6 : decode cX8_isOrder 6 = .ok (.iconst 1, 1) := dc4 bqX8_isOrder_0 6 rfl rfl
theorem dX8_isOrder_7 : decode cX8_isOrder 7 = .ok (.isub, 1) := dc100 bqX8_isOrder_0 7 rfl rfl
theorem dX8_isOrder_8 : decode cX8_isOrder 8 = .ok (.istore 5, 2) := dc54 bqX8_isOrder_0 8 rfl rfl
theorem dX8_isOrder_10 : decode cX8_isOrder 10 = .ok (.iload 5, 2) := dc21 bqX8_isOrder_0 10 rfl rfl
theorem dX8_isOrder_12 : decode cX8_isOrder 12 = .ok (.ifCond .lt 37, 3) := dc155 bqX8_isOrder_0 12 rfl rfl rfl
theorem dX8_isOrder_15 : decode cX8_isOrder 15 = .ok (.aload_n 0, 1) := dc42 bqX8_isOrder_0 15 rfl rfl
theorem dX8_isOrder_16 : decode cX8_isOrder 16 = .ok (.getfield 26, 3) := dc180 bqX8_isOrder_0 16 rfl rfl rfl
theorem dX8_isOrder_19 : decode cX8_isOrder 19 = .ok (.iload 5, 2) := dc21 bqX8_isOrder_0 19 rfl rfl
theorem dX8_isOrder_21 : decode cX8_isOrder 21 = .ok (.iload_n 3, 1) := dc29 bqX8_isOrder_0 21 rfl rfl
theorem dX8_isOrder_22 : decode cX8_isOrder 22 = .ok (.iload_n 2, 1) := dc28 bqX8_isOrder_0 22 rfl rfl
theorem dX8_isOrder_23 : decode cX8_isOrder 23 = .ok (.irem, 1) := dc112 bqX8_isOrder_0 23 rfl rfl
theorem bqX8_isOrder_24 : hs_bs cX8_isOrder 24 [79, 29, 28, 108, 62, 21, 4, 4, 42, 180, 0, 26, 21, 5, 46, 120, 128, 54, 4, 132, 5, 255] := hs_bs_of _ _ _ (by decide +kernel)
theorem dX8_isOrder_24 : decode cX8_isOrder 24 = .ok (.iastore, 1) := dc79 bqX8_isOrder_24 0 rfl rfl
theorem dX8_isOrder_25 : decode cX8_isOrder 25 = .ok (.iload_n 3, 1) := dc29 bqX8_isOrder_24 1 rfl rfl
theorem dX8_isOrder_26 : decode cX8_isOrder 26 = .ok (.iload_n 2, 1) := dc28 bqX8_isOrder_24 2 rfl rfl
theorem dX8_isOrder_27 : decode cX8_isOrder 27 = .ok (.idiv, 1) := dc108 bqX8_isOrder_24 3 rfl rfl
theorem dX8_isOrder_28 : decode cX8_isOrder 28 = .ok (.istore_n 3, 1) := dc62 bqX8_isOrder_24 4 rfl rfl
theorem dX8_isOrder_29 : decode cX8_isOrder 29 = .ok (.iload 4, 2) := dc21 bqX8_isOrder_24 5 rfl rfl
theorem dX8_isOrder_31 : decode cX8_isOrder 31 = .ok (.iconst 1, 1) := dc4 bqX8_isOrder_24 7 rfl rfl
theorem dX8_isOrder_32 : decode cX8_isOrder 32 = .ok (.aload_n 0, 1) := dc42 bqX8_isOrder_24 8 rfl rfl
theorem dX8_isOrder_33 : decode cX8_isOrder 33 = .ok (.getfield 26, 3) := dc180 bqX8_isOrder_24 9 rfl rfl rfl
theorem dX8_isOrder_36 : decode cX8_isOrder 36 = .ok (.iload 5, 2) := dc21 bqX8_isOrder_24 12 rfl rfl
theorem dX8_isOrder_38 : decode cX8_isOrder 38 = .ok (.iaload, 1) := dc46 bqX8_isOrder_24 14 rfl rfl
theorem dX8_isOrder_39 : decode cX8_isOrder 39 = .ok (.ishl, 1) := dc120 bqX8_isOrder_24 15 rfl rfl
theorem dX8_isOrder_40 : decode cX8_isOrder 40 = .ok (.ior, 1) := dc128 bqX8_isOrder_24 16 rfl rfl
theorem dX8_isOrder_41 : decode cX8_isOrder 41 = .ok (.istore 4, 2) := dc54 bqX8_isOrder_24 17 rfl rfl
theorem dX8_isOrder_43 : decode cX8_isOrder 43 = .ok (.iinc 5 (-1), 3) := dc132 bqX8_isOrder_24 19 rfl rfl rfl
theorem bqX8_isOrder_46 : hs_bs cX8_isOrder 46 [167, 255, 220, 21, 4, 4, 28, 120, 4, 100, 160, 0, 7, 4, 167, 0, 4, 3, 172] := hs_bs_of _ _ _ (by decide +kernel)
theorem dX8_isOrder_46 : decode cX8_isOrder 46 = .ok (.goto (-36), 3) := dc167 bqX8_isOrder_46 0 rfl rfl rfl
theorem dX8_isOrder_49 : decode cX8_isOrder 49 = .ok (.iload 4, 2) := dc21 bqX8_isOrder_46 3 rfl rfl
theorem dX8_isOrder_51 : decode cX8_isOrder 51 = .ok (.iconst 1, 1) := dc4 bqX8_isOrder_46 5 rfl rfl
theorem dX8_isOrder_52 : decode cX8_isOrder 52 = .ok (.iload_n 2, 1) := dc28 bqX8_isOrder_46 6 rfl rfl
theorem dX8_isOrder_53 : decode cX8_isOrder 53 = .ok (.ishl, 1) := dc120 bqX8_isOrder_46 7 rfl rfl
theorem dX8_isOrder_54 : decode cX8_isOrder 54 = .ok (.iconst 1, 1) := dc4 bqX8_isOrder_46 8 rfl rfl
theorem dX8_isOrder_55 : decode cX8_isOrder 55 = .ok (.isub, 1) := dc100 bqX8_isOrder_46 9 rfl rfl
theorem dX8_isOrder_56 : decode cX8_isOrder 56 = .ok (.if_icmp .ne 7, 3) := dc160 bqX8_isOrder_46 10 rfl rfl rfl
theorem dX8_isOrder_59 : decode cX8_isOrder 59 = .ok (.iconst 1, 1) := dc4 bqX8_isOrder_46 13 rfl rfl
theorem dX8_isOrder_60 : decode cX8_isOrder 60 = .ok (.goto 4, 3) := dc167 bqX8_isOrder_46 14 rfl rfl rfl
theorem dX8_isOrder_63 : decode cX8_isOrder 63 = .ok (.iconst 0, 1) := dc3 bqX8_isOrder_46 17 rfl rfl
theorem dX8_isOrder_64 : decode cX8_isOrder 64 = .ok (.ireturn, 1) := dc172 bqX8_isOrder_46 18 rfl rfl
theorem bqX8_placeOf_0 : hs_bs cX8_placeOf 0 [3, 62, 3, 54, 4, 21, 4, 28, 162, 0, 27, 42, 180, 0, 26, 21, 4, 46, 27, 160, 0, 8, 21, 4] := hs_bs_of _ _ _ (by decide +kernel)
theorem dX8_placeOf_0 : decode cX8_placeOf 0 = .ok (.iconst 0, 1) := dc3 bqX8_placeOf_0 0 rfl rfl
theorem dX8_placeOf_1 : decode cX8_placeOf 1 = .ok (.istore_n 3, 1) := dc62 bqX8_placeOf_0 1 rfl rfl
theorem dX8_placeOf_2 : decode cX8_placeOf 2 = .ok (.iconst 0, 1) := dc3 bqX8_placeOf_0 2 rfl rfl
theorem dX8_placeOf_3 : decode cX8_placeOf 3 = .ok (.istore 4, 2) := dc54 bqX8_placeOf_0 3 rfl rfl
theorem dX8_placeOf_5 : decode cX8_placeOf 5 = .ok (.iload 4, 2) := dc21 bqX8_placeOf_0 5 rfl rfl
theorem dX8_placeOf_7 : decode cX8_placeOf 7 = .ok (.iload_n 2, 1) := dc28 bqX8_placeOf_0 7 rfl rfl
theorem dX8_placeOf_8 : decode cX8_placeOf 8 = .ok (.if_icmp .ge 27, 3) := dc162 bqX8_placeOf_0 8 rfl rfl rfl
theorem dX8_placeOf_11 : decode cX8_placeOf 11 = .ok (.aload_n 0, 1) := dc42 bqX8_placeOf_0 11 rfl rfl
theorem dX8_placeOf_12 : decode cX8_placeOf 12 = .ok (.getfield 26, 3) := dc180 bqX8_placeOf_0 12 rfl rfl rfl
theorem dX8_placeOf_15 : decode cX8_placeOf 15 = .ok (.iload 4, 2) := dc21 bqX8_placeOf_0 15 rfl rfl
theorem dX8_placeOf_17 : decode cX8_placeOf 17 = .ok (.iaload, 1) := dc46 bqX8_placeOf_0 17 rfl rfl
theorem dX8_placeOf_18 : decode cX8_placeOf 18 = .ok (.iload_n 1, 1) := dc27 bqX8_placeOf_0 18 rfl rfl
theorem dX8_placeOf_19 : decode cX8_placeOf 19 = .ok (.if_icmp .ne 8, 3) := dc160 bqX8_placeOf_0 19 rfl rfl rfl
theorem dX8_placeOf_22 : decode cX8_placeOf 22 = .ok (.iload 4, 2) := dc21 bqX8_placeOf_0 22 rfl rfl
theorem bqX8_placeOf_24 : hs_bs cX8_placeOf 24 [167, 0, 4, 29, 62, 132, 4, 1, 167, 255, 229, 29, 172] := hs_bs_of _ _ _ (by decide +kernel)
theorem dX8_placeOf_24 : decode cX8_placeOf 24 = .ok (.goto 4, 3) := dc167 bqX8_placeOf_24 0 rfl rfl rfl
theorem dX8_placeOf_27 : decode cX8_placeOf 27 = .ok (.iload_n 3, 1) := dc29 bqX8_placeOf_24 3 rfl rfl
theorem dX8_placeOf_28 : decode cX8_placeOf 28 = .ok (.istore_n 3, 1) := dc62 bqX8_placeOf_24 4 rfl rfl
theorem dX8_placeOf_29 : decode cX8_placeOf 29 = .ok (.iinc 4 1, 3) := dc132 bqX8_placeOf_24 5 rfl rfl rfl
theorem dX8_placeOf_32 : decode cX8_placeOf 32 = .ok (.goto (-27), 3) := dc167 bqX8_placeOf_24 8 rfl rfl rfl
theorem dX8_placeOf_35 : decode cX8_placeOf 35 = .ok (.iload_n 3, 1) := dc29 bqX8_placeOf_24 11 rfl rfl
theorem dX8_placeOf_36 : decode cX8_placeOf 36 = .ok (.ireturn, 1) := dc172 bqX8_placeOf_24 12 rfl rfl
set_option maxRecDepth 20000 in
theorem gX8_isTold_X8_placeOf : GoodIn wsX8_isTold (wsV RX8 201 RX8 yX8_placeOf wsX8_placeOf) := hs_gC (hs_gV (hs_inG 5 20 rfl rfl) (hs_inG 5 22 rfl rfl) (hs_inG 0 34 rfl rfl) (hs_inG 1 8 rfl rfl) inC_X8_placeOf)
theorem bqX8_isTold_0 : hs_bs cX8_isTold 0 [4, 61, 3, 62, 29, 42, 180, 0, 13, 16, 16, 46, 162, 0, 56, 28, 153, 0, 44, 42, 42, 180, 0, 13] := hs_bs_of _ _ _ (by decide +kernel)
theorem dX8_isTold_0 : decode cX8_isTold 0 = .ok (.iconst 1, 1) := dc4 bqX8_isTold_0 0 rfl rfl
theorem dX8_isTold_1 : decode cX8_isTold 1 = .ok (.istore_n 2, 1) := dc61 bqX8_isTold_0 1 rfl rfl
theorem dX8_isTold_2 : decode cX8_isTold 2 = .ok (.iconst 0, 1) := dc3 bqX8_isTold_0 2 rfl rfl
theorem dX8_isTold_3 : decode cX8_isTold 3 = .ok (.istore_n 3, 1) := dc62 bqX8_isTold_0 3 rfl rfl
theorem dX8_isTold_4 : decode cX8_isTold 4 = .ok (.iload_n 3, 1) := dc29 bqX8_isTold_0 4 rfl rfl
theorem dX8_isTold_5 : decode cX8_isTold 5 = .ok (.aload_n 0, 1) := dc42 bqX8_isTold_0 5 rfl rfl
theorem dX8_isTold_6 : decode cX8_isTold 6 = .ok (.getfield 13, 3) := dc180 bqX8_isTold_0 6 rfl rfl rfl
theorem dX8_isTold_9 : decode cX8_isTold 9 = .ok (.bipush 16, 2) := dc16 bqX8_isTold_0 9 rfl rfl rfl
theorem dX8_isTold_11 : decode cX8_isTold 11 = .ok (.iaload, 1) := dc46 bqX8_isTold_0 11 rfl rfl
theorem dX8_isTold_12 : decode cX8_isTold 12 = .ok (.if_icmp .ge 56, 3) := dc162 bqX8_isTold_0 12 rfl rfl rfl
theorem dX8_isTold_15 : decode cX8_isTold 15 = .ok (.iload_n 2, 1) := dc28 bqX8_isTold_0 15 rfl rfl
theorem dX8_isTold_16 : decode cX8_isTold 16 = .ok (.ifCond .eq 44, 3) := dc153 bqX8_isTold_0 16 rfl rfl rfl
theorem dX8_isTold_19 : decode cX8_isTold 19 = .ok (.aload_n 0, 1) := dc42 bqX8_isTold_0 19 rfl rfl
theorem dX8_isTold_20 : decode cX8_isTold 20 = .ok (.aload_n 0, 1) := dc42 bqX8_isTold_0 20 rfl rfl
theorem dX8_isTold_21 : decode cX8_isTold 21 = .ok (.getfield 13, 3) := dc180 bqX8_isTold_0 21 rfl rfl rfl
theorem bqX8_isTold_24 : hs_bs cX8_isTold 24 [16, 17, 29, 96, 46, 16, 10, 108, 27, 182, 0, 201, 42, 42, 180, 0, 13, 16, 17, 29, 96, 46, 16, 10] := hs_bs_of _ _ _ (by decide +kernel)
theorem dX8_isTold_24 : decode cX8_isTold 24 = .ok (.bipush 17, 2) := dc16 bqX8_isTold_24 0 rfl rfl rfl
theorem dX8_isTold_26 : decode cX8_isTold 26 = .ok (.iload_n 3, 1) := dc29 bqX8_isTold_24 2 rfl rfl
theorem dX8_isTold_27 : decode cX8_isTold 27 = .ok (.iadd, 1) := dc96 bqX8_isTold_24 3 rfl rfl
theorem dX8_isTold_28 : decode cX8_isTold 28 = .ok (.iaload, 1) := dc46 bqX8_isTold_24 4 rfl rfl
theorem dX8_isTold_29 : decode cX8_isTold 29 = .ok (.bipush 10, 2) := dc16 bqX8_isTold_24 5 rfl rfl rfl
theorem dX8_isTold_31 : decode cX8_isTold 31 = .ok (.idiv, 1) := dc108 bqX8_isTold_24 7 rfl rfl
theorem dX8_isTold_32 : decode cX8_isTold 32 = .ok (.iload_n 1, 1) := dc27 bqX8_isTold_24 8 rfl rfl
theorem dX8_isTold_33 : decode cX8_isTold 33 = .ok (.invokevirtual 201, 3) := dc182 bqX8_isTold_24 9 rfl rfl rfl
theorem dX8_isTold_36 : decode cX8_isTold 36 = .ok (.aload_n 0, 1) := dc42 bqX8_isTold_24 12 rfl rfl
theorem dX8_isTold_37 : decode cX8_isTold 37 = .ok (.aload_n 0, 1) := dc42 bqX8_isTold_24 13 rfl rfl
theorem dX8_isTold_38 : decode cX8_isTold 38 = .ok (.getfield 13, 3) := dc180 bqX8_isTold_24 14 rfl rfl rfl
theorem dX8_isTold_41 : decode cX8_isTold 41 = .ok (.bipush 17, 2) := dc16 bqX8_isTold_24 17 rfl rfl rfl
theorem dX8_isTold_43 : decode cX8_isTold 43 = .ok (.iload_n 3, 1) := dc29 bqX8_isTold_24 19 rfl rfl
theorem dX8_isTold_44 : decode cX8_isTold 44 = .ok (.iadd, 1) := dc96 bqX8_isTold_24 20 rfl rfl
theorem dX8_isTold_45 : decode cX8_isTold 45 = .ok (.iaload, 1) := dc46 bqX8_isTold_24 21 rfl rfl
theorem dX8_isTold_46 : decode cX8_isTold 46 = .ok (.bipush 10, 2) := dc16 bqX8_isTold_24 22 rfl rfl rfl
theorem bqX8_isTold_48 : hs_bs cX8_isTold 48 [112, 27, 182, 0, 201, 162, 0, 7, 4, 167, 0, 4, 3, 61, 132, 3, 1, 167, 255, 195, 28, 172] := hs_bs_of _ _ _ (by decide +kernel)
theorem dX8_isTold_48 : decode cX8_isTold 48 = .ok (.irem, 1) := dc112 bqX8_isTold_48 0 rfl rfl
theorem dX8_isTold_49 : decode cX8_isTold 49 = .ok (.iload_n 1, 1) := dc27 bqX8_isTold_48 1 rfl rfl
theorem dX8_isTold_50 : decode cX8_isTold 50 = .ok (.invokevirtual 201, 3) := dc182 bqX8_isTold_48 2 rfl rfl rfl
theorem dX8_isTold_53 : decode cX8_isTold 53 = .ok (.if_icmp .ge 7, 3) := dc162 bqX8_isTold_48 5 rfl rfl rfl
theorem dX8_isTold_56 : decode cX8_isTold 56 = .ok (.iconst 1, 1) := dc4 bqX8_isTold_48 8 rfl rfl
theorem dX8_isTold_57 : decode cX8_isTold 57 = .ok (.goto 4, 3) := dc167 bqX8_isTold_48 9 rfl rfl rfl
theorem dX8_isTold_60 : decode cX8_isTold 60 = .ok (.iconst 0, 1) := dc3 bqX8_isTold_48 12 rfl rfl
theorem dX8_isTold_61 : decode cX8_isTold 61 = .ok (.istore_n 2, 1) := dc61 bqX8_isTold_48 13 rfl rfl
theorem dX8_isTold_62 : decode cX8_isTold 62 = .ok (.iinc 3 1, 3) := dc132 bqX8_isTold_48 14 rfl rfl rfl
theorem dX8_isTold_65 : decode cX8_isTold 65 = .ok (.goto (-61), 3) := dc167 bqX8_isTold_48 17 rfl rfl rfl
theorem dX8_isTold_68 : decode cX8_isTold 68 = .ok (.iload_n 2, 1) := dc28 bqX8_isTold_48 20 rfl rfl
theorem dX8_isTold_69 : decode cX8_isTold 69 = .ok (.ireturn, 1) := dc172 bqX8_isTold_48 21 rfl rfl
theorem bqX8_power_0 : hs_bs cX8_power 0 [4, 61, 3, 62, 29, 27, 162, 0, 13, 28, 26, 104, 61, 132, 3, 1, 167, 255, 244, 28, 172] := hs_bs_of _ _ _ (by decide +kernel)
theorem dX8_power_0 : decode cX8_power 0 = .ok (.iconst 1, 1) := dc4 bqX8_power_0 0 rfl rfl
theorem dX8_power_1 : decode cX8_power 1 = .ok (.istore_n 2, 1) := dc61 bqX8_power_0 1 rfl rfl
theorem dX8_power_2 : decode cX8_power 2 = .ok (.iconst 0, 1) := dc3 bqX8_power_0 2 rfl rfl
theorem dX8_power_3 : decode cX8_power 3 = .ok (.istore_n 3, 1) := dc62 bqX8_power_0 3 rfl rfl
theorem dX8_power_4 : decode cX8_power 4 = .ok (.iload_n 3, 1) := dc29 bqX8_power_0 4 rfl rfl
theorem dX8_power_5 : decode cX8_power 5 = .ok (.iload_n 1, 1) := dc27 bqX8_power_0 5 rfl rfl
theorem dX8_power_6 : decode cX8_power 6 = .ok (.if_icmp .ge 13, 3) := dc162 bqX8_power_0 6 rfl rfl rfl
theorem dX8_power_9 : decode cX8_power 9 = .ok (.iload_n 2, 1) := dc28 bqX8_power_0 9 rfl rfl
theorem dX8_power_10 : decode cX8_power 10 = .ok (.iload_n 0, 1) := dc26 bqX8_power_0 10 rfl rfl
theorem dX8_power_11 : decode cX8_power 11 = .ok (.imul, 1) := dc104 bqX8_power_0 11 rfl rfl
theorem dX8_power_12 : decode cX8_power 12 = .ok (.istore_n 2, 1) := dc61 bqX8_power_0 12 rfl rfl
theorem dX8_power_13 : decode cX8_power 13 = .ok (.iinc 3 1, 3) := dc132 bqX8_power_0 13 rfl rfl rfl
theorem dX8_power_16 : decode cX8_power 16 = .ok (.goto (-12), 3) := dc167 bqX8_power_0 16 rfl rfl rfl
theorem dX8_power_19 : decode cX8_power 19 = .ok (.iload_n 2, 1) := dc28 bqX8_power_0 19 rfl rfl
theorem dX8_power_20 : decode cX8_power 20 = .ok (.ireturn, 1) := dc172 bqX8_power_0 20 rfl rfl
set_option maxRecDepth 20000 in
theorem gX8_findOrders_X8_power : GoodIn wsX8_findOrders (va_wsS RX8 213 yX8_power wsX8_power) := hs_gC (hs_gS (hs_inG 5 9 rfl rfl) (hs_inG 5 10 rfl rfl) (hs_inG 1 8 rfl rfl) inC_X8_power)
set_option maxRecDepth 20000 in
theorem gX8_findOrders_X8_isOrder : GoodIn wsX8_findOrders (wsV RX8 216 RX8 yX8_isOrder wsX8_isOrder) := hs_gC (hs_gV (hs_inG 5 12 rfl rfl) (hs_inG 5 14 rfl rfl) (hs_inG 0 32 rfl rfl) (hs_inG 1 8 rfl rfl) inC_X8_isOrder)
set_option maxRecDepth 20000 in
theorem gX8_findOrders_X8_isTold : GoodIn wsX8_findOrders (wsV RX8 220 RX8 yX8_isTold wsX8_isTold) := hs_gC (hs_gV (hs_inG 5 16 rfl rfl) (hs_inG 5 18 rfl rfl) (hs_inG 0 33 rfl rfl) (hs_inG 1 8 rfl rfl) inC_X8_isTold)
theorem bqX8_findOrders_0 : hs_bs cX8_findOrders 0 [42, 3, 181, 0, 149, 42, 3, 181, 0, 204, 42, 3, 181, 0, 207, 42, 3, 181, 0, 210, 3, 61, 28] := hs_bs_of _ _ _ (by decide +kernel)
theorem dX8_findOrders_0 : decode cX8_findOrders 0 = .ok (.aload_n 0, 1) := dc42 bqX8_findOrders_0 0 rfl rfl
theorem dX8_findOrders_1 : decode cX8_findOrders 1 = .ok (.iconst 0, 1) := dc3 bqX8_findOrders_0 1 rfl rfl
theorem dX8_findOrders_2 : decode cX8_findOrders 2 = .ok (.putfield 149, 3) := dc181 bqX8_findOrders_0 2 rfl rfl rfl
theorem dX8_findOrders_5 : decode cX8_findOrders 5 = .ok (.aload_n 0, 1) := dc42 bqX8_findOrders_0 5 rfl rfl
theorem dX8_findOrders_6 : decode cX8_findOrders 6 = .ok (.iconst 0, 1) := dc3 bqX8_findOrders_0 6 rfl rfl
theorem dX8_findOrders_7 : decode cX8_findOrders 7 = .ok (.putfield 204, 3) := dc181 bqX8_findOrders_0 7 rfl rfl rfl
theorem dX8_findOrders_10 : decode cX8_findOrders 10 = .ok (.aload_n 0, 1) := dc42 bqX8_findOrders_0 10 rfl rfl
theorem dX8_findOrders_11 : decode cX8_findOrders 11 = .ok (.iconst 0, 1) := dc3 bqX8_findOrders_0 11 rfl rfl
theorem dX8_findOrders_12 : decode cX8_findOrders 12 = .ok (.putfield 207, 3) := dc181 bqX8_findOrders_0 12 rfl rfl rfl
theorem dX8_findOrders_15 : decode cX8_findOrders 15 = .ok (.aload_n 0, 1) := dc42 bqX8_findOrders_0 15 rfl rfl
theorem dX8_findOrders_16 : decode cX8_findOrders 16 = .ok (.iconst 0, 1) := dc3 bqX8_findOrders_0 16 rfl rfl
theorem dX8_findOrders_17 : decode cX8_findOrders 17 = .ok (.putfield 210, 3) := dc181 bqX8_findOrders_0 17 rfl rfl rfl
theorem dX8_findOrders_20 : decode cX8_findOrders 20 = .ok (.iconst 0, 1) := dc3 bqX8_findOrders_0 20 rfl rfl
theorem dX8_findOrders_21 : decode cX8_findOrders 21 = .ok (.istore_n 2, 1) := dc61 bqX8_findOrders_0 21 rfl rfl
theorem dX8_findOrders_22 : decode cX8_findOrders 22 = .ok (.iload_n 2, 1) := dc28 bqX8_findOrders_0 22 rfl rfl
theorem bqX8_findOrders_23 : hs_bs cX8_findOrders 23 [16, 25, 162, 0, 16, 42, 180, 0, 29, 28, 3, 79, 132, 2, 1, 167, 255, 240, 3, 61, 28, 27, 27] := hs_bs_of _ _ _ (by decide +kernel)
theorem dX8_findOrders_23 : decode cX8_findOrders 23 = .ok (.bipush 25, 2) := dc16 bqX8_findOrders_23 0 rfl rfl rfl
theorem dX8_findOrders_25 : decode cX8_findOrders 25 = .ok (.if_icmp .ge 16, 3) := dc162 bqX8_findOrders_23 2 rfl rfl rfl
theorem dX8_findOrders_28 : decode cX8_findOrders 28 = .ok (.aload_n 0, 1) := dc42 bqX8_findOrders_23 5 rfl rfl
theorem dX8_findOrders_29 : decode cX8_findOrders 29 = .ok (.getfield 29, 3) := dc180 bqX8_findOrders_23 6 rfl rfl rfl
theorem dX8_findOrders_32 : decode cX8_findOrders 32 = .ok (.iload_n 2, 1) := dc28 bqX8_findOrders_23 9 rfl rfl
theorem dX8_findOrders_33 : decode cX8_findOrders 33 = .ok (.iconst 0, 1) := dc3 bqX8_findOrders_23 10 rfl rfl
theorem dX8_findOrders_34 : decode cX8_findOrders 34 = .ok (.iastore, 1) := dc79 bqX8_findOrders_23 11 rfl rfl
theorem dX8_findOrders_35 : decode cX8_findOrders 35 = .ok (.iinc 2 1, 3) := dc132 bqX8_findOrders_23 12 rfl rfl rfl
theorem dX8_findOrders_38 : decode cX8_findOrders 38 = .ok (.goto (-16), 3) := dc167 bqX8_findOrders_23 15 rfl rfl rfl
theorem dX8_findOrders_41 : decode cX8_findOrders 41 = .ok (.iconst 0, 1) := dc3 bqX8_findOrders_23 18 rfl rfl
theorem dX8_findOrders_42 : decode cX8_findOrders 42 = .ok (.istore_n 2, 1) := dc61 bqX8_findOrders_23 19 rfl rfl
theorem dX8_findOrders_43 : decode cX8_findOrders 43 = .ok (.iload_n 2, 1) := dc28 bqX8_findOrders_23 20 rfl rfl
theorem dX8_findOrders_44 : decode cX8_findOrders 44 = .ok (.iload_n 1, 1) := dc27 bqX8_findOrders_23 21 rfl rfl
theorem dX8_findOrders_45 : decode cX8_findOrders 45 = .ok (.iload_n 1, 1) := dc27 bqX8_findOrders_23 22 rfl rfl
theorem bqX8_findOrders_46 : hs_bs cX8_findOrders 46 [184, 0, 213, 162, 0, 146, 42, 28, 27, 182, 0, 216, 153, 0, 131, 42, 27, 182, 0, 220, 153, 0, 123, 42] := hs_bs_of _ _ _ (by decide +kernel)
theorem dX8_findOrders_46 : decode cX8_findOrders 46 = .ok (.invokestatic 213, 3) := dc184 bqX8_findOrders_46 0 rfl rfl rfl
theorem dX8_findOrders_49 : decode cX8_findOrders 49 = .ok (.if_icmp .ge 146, 3) := dc162 bqX8_findOrders_46 3 rfl rfl rfl
theorem dX8_findOrders_52 : decode cX8_findOrders 52 = .ok (.aload_n 0, 1) := dc42 bqX8_findOrders_46 6 rfl rfl
theorem dX8_findOrders_53 : decode cX8_findOrders 53 = .ok (.iload_n 2, 1) := dc28 bqX8_findOrders_46 7 rfl rfl
theorem dX8_findOrders_54 : decode cX8_findOrders 54 = .ok (.iload_n 1, 1) := dc27 bqX8_findOrders_46 8 rfl rfl
theorem dX8_findOrders_55 : decode cX8_findOrders 55 = .ok (.invokevirtual 216, 3) := dc182 bqX8_findOrders_46 9 rfl rfl rfl
theorem dX8_findOrders_58 : decode cX8_findOrders 58 = .ok (.ifCond .eq 131, 3) := dc153 bqX8_findOrders_46 12 rfl rfl rfl
theorem dX8_findOrders_61 : decode cX8_findOrders 61 = .ok (.aload_n 0, 1) := dc42 bqX8_findOrders_46 15 rfl rfl
theorem dX8_findOrders_62 : decode cX8_findOrders 62 = .ok (.iload_n 1, 1) := dc27 bqX8_findOrders_46 16 rfl rfl
theorem dX8_findOrders_63 : decode cX8_findOrders 63 = .ok (.invokevirtual 220, 3) := dc182 bqX8_findOrders_46 17 rfl rfl rfl
theorem dX8_findOrders_66 : decode cX8_findOrders 66 = .ok (.ifCond .eq 123, 3) := dc153 bqX8_findOrders_46 20 rfl rfl rfl
theorem dX8_findOrders_69 : decode cX8_findOrders 69 = .ok (.aload_n 0, 1) := dc42 bqX8_findOrders_46 23 rfl rfl
theorem bqX8_findOrders_70 : hs_bs cX8_findOrders 70 [42, 180, 0, 149, 154, 0, 7, 28, 167, 0, 7, 42, 180, 0, 204, 181, 0, 204, 42, 89, 180, 0, 149, 4] := hs_bs_of _ _ _ (by decide +kernel)
theorem dX8_findOrders_70 : decode cX8_findOrders 70 = .ok (.aload_n 0, 1) := dc42 bqX8_findOrders_70 0 rfl rfl
theorem dX8_findOrders_71 : decode cX8_findOrders 71 = .ok (.getfield 149, 3) := dc180 bqX8_findOrders_70 1 rfl rfl rfl
theorem dX8_findOrders_74 : decode cX8_findOrders 74 = .ok (.ifCond .ne 7, 3) := dc154 bqX8_findOrders_70 4 rfl rfl rfl
theorem dX8_findOrders_77 : decode cX8_findOrders 77 = .ok (.iload_n 2, 1) := dc28 bqX8_findOrders_70 7 rfl rfl
theorem dX8_findOrders_78 : decode cX8_findOrders 78 = .ok (.goto 7, 3) := dc167 bqX8_findOrders_70 8 rfl rfl rfl
theorem dX8_findOrders_81 : decode cX8_findOrders 81 = .ok (.aload_n 0, 1) := dc42 bqX8_findOrders_70 11 rfl rfl
theorem dX8_findOrders_82 : decode cX8_findOrders 82 = .ok (.getfield 204, 3) := dc180 bqX8_findOrders_70 12 rfl rfl rfl
theorem dX8_findOrders_85 : decode cX8_findOrders 85 = .ok (.putfield 204, 3) := dc181 bqX8_findOrders_70 15 rfl rfl rfl
theorem dX8_findOrders_88 : decode cX8_findOrders 88 = .ok (.aload_n 0, 1) := dc42 bqX8_findOrders_70 18 rfl rfl
theorem dX8_findOrders_89 : decode cX8_findOrders 89 = .ok (.dup, 1) := dc89 bqX8_findOrders_70 19 rfl rfl
theorem dX8_findOrders_90 : decode cX8_findOrders 90 = .ok (.getfield 149, 3) := dc180 bqX8_findOrders_70 20 rfl rfl rfl
theorem dX8_findOrders_93 : decode cX8_findOrders 93 = .ok (.iconst 1, 1) := dc4 bqX8_findOrders_70 23 rfl rfl
theorem bqX8_findOrders_94 : hs_bs cX8_findOrders 94 [96, 181, 0, 149, 42, 89, 180, 0, 207, 4, 42, 180, 0, 26, 3, 46, 120, 128, 181, 0, 207, 42, 89] := hs_bs_of _ _ _ (by decide +kernel)
theorem dX8_findOrders_94 : decode cX8_findOrders 94 = .ok (.iadd, 1) := dc96 bqX8_findOrders_94 0 rfl rfl
theorem dX8_findOrders_95 : decode cX8_findOrders 95 = .ok (.putfield 149, 3) := dc181 bqX8_findOrders_94 1 rfl rfl rfl
theorem dX8_findOrders_98 : decode cX8_findOrders 98 = .ok (.aload_n 0, 1) := dc42 bqX8_findOrders_94 4 rfl rfl
theorem dX8_findOrders_99 : decode cX8_findOrders 99 = .ok (.dup, 1) := dc89 bqX8_findOrders_94 5 rfl rfl
theorem dX8_findOrders_100 : decode cX8_findOrders 100 = .ok (.getfield 207, 3) := dc180 bqX8_findOrders_94 6 rfl rfl rfl
theorem dX8_findOrders_103 : decode cX8_findOrders 103 = .ok (.iconst 1, 1) := dc4 bqX8_findOrders_94 9 rfl rfl
theorem dX8_findOrders_104 : decode cX8_findOrders 104 = .ok (.aload_n 0, 1) := dc42 bqX8_findOrders_94 10 rfl rfl
theorem dX8_findOrders_105 : decode cX8_findOrders 105 = .ok (.getfield 26, 3) := dc180 bqX8_findOrders_94 11 rfl rfl rfl
theorem dX8_findOrders_108 : decode cX8_findOrders 108 = .ok (.iconst 0, 1) := dc3 bqX8_findOrders_94 14 rfl rfl
theorem dX8_findOrders_109 : decode cX8_findOrders 109 = .ok (.iaload, 1) := dc46 bqX8_findOrders_94 15 rfl rfl
theorem dX8_findOrders_110 : decode cX8_findOrders 110 = .ok (.ishl, 1) := dc120 bqX8_findOrders_94 16 rfl rfl
theorem dX8_findOrders_111 : decode cX8_findOrders 111 = .ok (.ior, 1) := dc128 bqX8_findOrders_94 17 rfl rfl
theorem dX8_findOrders_112 : decode cX8_findOrders 112 = .ok (.putfield 207, 3) := dc181 bqX8_findOrders_94 18 rfl rfl rfl
theorem dX8_findOrders_115 : decode cX8_findOrders 115 = .ok (.aload_n 0, 1) := dc42 bqX8_findOrders_94 21 rfl rfl
theorem dX8_findOrders_116 : decode cX8_findOrders 116 = .ok (.dup, 1) := dc89 bqX8_findOrders_94 22 rfl rfl
theorem bqX8_findOrders_117 : hs_bs cX8_findOrders 117 [180, 0, 210, 4, 42, 180, 0, 26, 27, 4, 100, 46, 120, 128, 181, 0, 210, 3, 62, 29, 27, 162, 0, 51] := hs_bs_of _ _ _ (by decide +kernel)
theorem dX8_findOrders_117 : decode cX8_findOrders 117 = .ok (.getfield 210, 3) := dc180 bqX8_findOrders_117 0 rfl rfl rfl
theorem dX8_findOrders_120 : decode cX8_findOrders 120 = .ok (.iconst 1, 1) := dc4 bqX8_findOrders_117 3 rfl rfl
theorem dX8_findOrders_121 : decode cX8_findOrders 121 = .ok (.aload_n 0, 1) := dc42 bqX8_findOrders_117 4 rfl rfl
theorem dX8_findOrders_122 : decode cX8_findOrders 122 = .ok (.getfield 26, 3) := dc180 bqX8_findOrders_117 5 rfl rfl rfl
theorem dX8_findOrders_125 : decode cX8_findOrders 125 = .ok (.iload_n 1, 1) := dc27 bqX8_findOrders_117 8 rfl rfl
theorem dX8_findOrders_126 : decode cX8_findOrders 126 = .ok (.iconst 1, 1) := dc4 bqX8_findOrders_117 9 rfl rfl
theorem dX8_findOrders_127 : decode cX8_findOrders 127 = .ok (.isub, 1) := dc100 bqX8_findOrders_117 10 rfl rfl
theorem dX8_findOrders_128 : decode cX8_findOrders 128 = .ok (.iaload, 1) := dc46 bqX8_findOrders_117 11 rfl rfl
theorem dX8_findOrders_129 : decode cX8_findOrders 129 = .ok (.ishl, 1) := dc120 bqX8_findOrders_117 12 rfl rfl
theorem dX8_findOrders_130 : decode cX8_findOrders 130 = .ok (.ior, 1) := dc128 bqX8_findOrders_117 13 rfl rfl
theorem dX8_findOrders_131 : decode cX8_findOrders 131 = .ok (.putfield 210, 3) := dc181 bqX8_findOrders_117 14 rfl rfl rfl
theorem dX8_findOrders_134 : decode cX8_findOrders 134 = .ok (.iconst 0, 1) := dc3 bqX8_findOrders_117 17 rfl rfl
theorem dX8_findOrders_135 : decode cX8_findOrders 135 = .ok (.istore_n 3, 1) := dc62 bqX8_findOrders_117 18 rfl rfl
theorem dX8_findOrders_136 : decode cX8_findOrders 136 = .ok (.iload_n 3, 1) := dc29 bqX8_findOrders_117 19 rfl rfl
theorem dX8_findOrders_137 : decode cX8_findOrders 137 = .ok (.iload_n 1, 1) := dc27 bqX8_findOrders_117 20 rfl rfl
theorem dX8_findOrders_138 : decode cX8_findOrders 138 = .ok (.if_icmp .ge 51, 3) := dc162 bqX8_findOrders_117 21 rfl rfl rfl
theorem bqX8_findOrders_141 : hs_bs cX8_findOrders 141 [29, 4, 96, 54, 4, 21, 4, 27, 162, 0, 34, 42, 180, 0, 29, 8, 42, 180, 0, 26, 29, 46, 104, 42] := hs_bs_of _ _ _ (by decide +kernel)
theorem dX8_findOrders_141 : decode cX8_findOrders 141 = .ok (.iload_n 3, 1) := dc29 bqX8_findOrders_141 0 rfl rfl
theorem dX8_findOrders_142 : decode cX8_findOrders 142 = .ok (.iconst 1, 1) := dc4 bqX8_findOrders_141 1 rfl rfl
theorem dX8_findOrders_143 : decode cX8_findOrders 143 = .ok (.iadd, 1) := dc96 bqX8_findOrders_141 2 rfl rfl
theorem dX8_findOrders_144 : decode cX8_findOrders 144 = .ok (.istore 4, 2) := dc54 bqX8_findOrders_141 3 rfl rfl
theorem dX8_findOrders_146 : decode cX8_findOrders 146 = .ok (.iload 4, 2) := dc21 bqX8_findOrders_141 5 rfl rfl
theorem dX8_findOrders_148 : decode cX8_findOrders 148 = .ok (.iload_n 1, 1) := dc27 bqX8_findOrders_141 7 rfl rfl
theorem dX8_findOrders_149 : decode cX8_findOrders 149 = .ok (.if_icmp .ge 34, 3) := dc162 bqX8_findOrders_141 8 rfl rfl rfl
theorem dX8_findOrders_152 : decode cX8_findOrders 152 = .ok (.aload_n 0, 1) := dc42 bqX8_findOrders_141 11 rfl rfl
theorem dX8_findOrders_153 : decode cX8_findOrders 153 = .ok (.getfield 29, 3) := dc180 bqX8_findOrders_141 12 rfl rfl rfl
theorem dX8_findOrders_156 : decode cX8_findOrders 156 = .ok (.iconst 5, 1) := dc8 bqX8_findOrders_141 15 rfl rfl
theorem dX8_findOrders_157 : decode cX8_findOrders 157 = .ok (.aload_n 0, 1) := dc42 bqX8_findOrders_141 16 rfl rfl
theorem dX8_findOrders_158 : decode cX8_findOrders 158 = .ok (.getfield 26, 3) := dc180 bqX8_findOrders_141 17 rfl rfl rfl
theorem dX8_findOrders_161 : decode cX8_findOrders 161 = .ok (.iload_n 3, 1) := dc29 bqX8_findOrders_141 20 rfl rfl
theorem dX8_findOrders_162 : decode cX8_findOrders 162 = .ok (.iaload, 1) := dc46 bqX8_findOrders_141 21 rfl rfl
theorem dX8_findOrders_163 : decode cX8_findOrders 163 = .ok (.imul, 1) := dc104 bqX8_findOrders_141 22 rfl rfl
theorem dX8_findOrders_164 : decode cX8_findOrders 164 = .ok (.aload_n 0, 1) := dc42 bqX8_findOrders_141 23 rfl rfl
theorem bqX8_findOrders_165 : hs_bs cX8_findOrders 165 [180, 0, 26, 21, 4, 46, 96, 92, 46, 4, 96, 79, 132, 4, 1, 167, 255, 222, 132, 3, 1, 167, 255, 206] := hs_bs_of _ _ _ (by decide +kernel)
theorem dX8_findOrders_165 : decode cX8_findOrders 165 = .ok (.getfield 26, 3) := dc180 bqX8_findOrders_165 0 rfl rfl rfl
theorem dX8_findOrders_168 : decode cX8_findOrders 168 = .ok (.iload 4, 2) := dc21 bqX8_findOrders_165 3 rfl rfl
theorem dX8_findOrders_170 : decode cX8_findOrders 170 = .ok (.iaload, 1) := dc46 bqX8_findOrders_165 5 rfl rfl
theorem dX8_findOrders_171 : decode cX8_findOrders 171 = .ok (.iadd, 1) := dc96 bqX8_findOrders_165 6 rfl rfl
theorem dX8_findOrders_172 : decode cX8_findOrders 172 = .ok (.dup2, 1) := dc92 bqX8_findOrders_165 7 rfl rfl
theorem dX8_findOrders_173 : decode cX8_findOrders 173 = .ok (.iaload, 1) := dc46 bqX8_findOrders_165 8 rfl rfl
theorem dX8_findOrders_174 : decode cX8_findOrders 174 = .ok (.iconst 1, 1) := dc4 bqX8_findOrders_165 9 rfl rfl
theorem dX8_findOrders_175 : decode cX8_findOrders 175 = .ok (.iadd, 1) := dc96 bqX8_findOrders_165 10 rfl rfl
theorem dX8_findOrders_176 : decode cX8_findOrders 176 = .ok (.iastore, 1) := dc79 bqX8_findOrders_165 11 rfl rfl
theorem dX8_findOrders_177 : decode cX8_findOrders 177 = .ok (.iinc 4 1, 3) := dc132 bqX8_findOrders_165 12 rfl rfl rfl
theorem dX8_findOrders_180 : decode cX8_findOrders 180 = .ok (.goto (-34), 3) := dc167 bqX8_findOrders_165 15 rfl rfl rfl
theorem dX8_findOrders_183 : decode cX8_findOrders 183 = .ok (.iinc 3 1, 3) := dc132 bqX8_findOrders_165 18 rfl rfl rfl
theorem dX8_findOrders_186 : decode cX8_findOrders 186 = .ok (.goto (-50), 3) := dc167 bqX8_findOrders_165 21 rfl rfl rfl
theorem bqX8_findOrders_189 : hs_bs cX8_findOrders 189 [132, 2, 1, 167, 255, 107, 177] := hs_bs_of _ _ _ (by decide +kernel)
theorem dX8_findOrders_189 : decode cX8_findOrders 189 = .ok (.iinc 2 1, 3) := dc132 bqX8_findOrders_189 0 rfl rfl rfl
theorem dX8_findOrders_192 : decode cX8_findOrders 192 = .ok (.goto (-149), 3) := dc167 bqX8_findOrders_189 3 rfl rfl rfl
theorem dX8_findOrders_195 : decode cX8_findOrders 195 = .ok (.return_, 1) := dc177 bqX8_findOrders_189 6 rfl rfl
set_option maxRecDepth 20000 in
theorem gX8_lighter_X8_in : GoodIn wsX8_lighter (va_wsS RX8 71 yX8_in wsX8_in) := hs_gC (hs_gS (hs_inG 4 182 rfl rfl) (hs_inG 4 183 rfl rfl) (hs_inG 1 8 rfl rfl) inC_X8_in)
set_option maxRecDepth 20000 in
theorem gX8_lighter_X8_starts : GoodIn wsX8_lighter (wsV RX8 177 RX8 yX8_starts wsX8_starts) := hs_gC (hs_gV (hs_inG 5 32 rfl rfl) (hs_inG 5 34 rfl rfl) (hs_inG 0 35 rfl rfl) (hs_inG 1 8 rfl rfl) inC_X8_starts)
set_option maxRecDepth 20000 in
theorem gX8_lighter_X8_findOrders : GoodIn wsX8_lighter (wsV RX8 146 RX8 yX8_findOrders wsX8_findOrders) := hs_gC (hs_gV (hs_inG 5 5 rfl rfl) (hs_inG 5 7 rfl rfl) (hs_inG 0 31 rfl rfl) (hs_inG 1 8 rfl rfl) inC_X8_findOrders)
theorem bqX8_lighter_0 : hs_bs cX8_lighter 0 [27, 133, 9, 42, 180, 0, 66, 4, 100, 133, 184, 0, 71, 153, 0, 24, 28, 133, 9, 42, 180, 0, 66, 4] := hs_bs_of _ _ _ (by decide +kernel)
theorem dX8_lighter_0 : decode cX8_lighter 0 = .ok (.iload_n 1, 1) := dc27 bqX8_lighter_0 0 rfl rfl
theorem dX8_lighter_1 : decode cX8_lighter 1 = .ok (.i2l, 1) := dc133 bqX8_lighter_0 1 rfl rfl
theorem dX8_lighter_2 : decode cX8_lighter 2 = .ok (.lconst 0, 1) := dc9 bqX8_lighter_0 2 rfl rfl
theorem dX8_lighter_3 : decode cX8_lighter 3 = .ok (.aload_n 0, 1) := dc42 bqX8_lighter_0 3 rfl rfl
theorem dX8_lighter_4 : decode cX8_lighter 4 = .ok (.getfield 66, 3) := dc180 bqX8_lighter_0 4 rfl rfl rfl
theorem dX8_lighter_7 : decode cX8_lighter 7 = .ok (.iconst 1, 1) := dc4 bqX8_lighter_0 7 rfl rfl
theorem dX8_lighter_8 : decode cX8_lighter 8 = .ok (.isub, 1) := dc100 bqX8_lighter_0 8 rfl rfl
theorem dX8_lighter_9 : decode cX8_lighter 9 = .ok (.i2l, 1) := dc133 bqX8_lighter_0 9 rfl rfl
theorem dX8_lighter_10 : decode cX8_lighter 10 = .ok (.invokestatic 71, 3) := dc184 bqX8_lighter_0 10 rfl rfl rfl
theorem dX8_lighter_13 : decode cX8_lighter 13 = .ok (.ifCond .eq 24, 3) := dc153 bqX8_lighter_0 13 rfl rfl rfl
theorem dX8_lighter_16 : decode cX8_lighter 16 = .ok (.iload_n 2, 1) := dc28 bqX8_lighter_0 16 rfl rfl
theorem dX8_lighter_17 : decode cX8_lighter 17 = .ok (.i2l, 1) := dc133 bqX8_lighter_0 17 rfl rfl
theorem dX8_lighter_18 : decode cX8_lighter 18 = .ok (.lconst 0, 1) := dc9 bqX8_lighter_0 18 rfl rfl
theorem dX8_lighter_19 : decode cX8_lighter 19 = .ok (.aload_n 0, 1) := dc42 bqX8_lighter_0 19 rfl rfl
theorem dX8_lighter_20 : decode cX8_lighter 20 = .ok (.getfield 66, 3) := dc180 bqX8_lighter_0 20 rfl rfl rfl
theorem dX8_lighter_23 : decode cX8_lighter 23 = .ok (.iconst 1, 1) := dc4 bqX8_lighter_0 23 rfl rfl
theorem bqX8_lighter_24 : hs_bs cX8_lighter 24 [100, 133, 184, 0, 71, 153, 0, 8, 27, 28, 160, 0, 5, 2, 172, 42, 180, 0, 7, 16, 16, 46, 16, 8] := hs_bs_of _ _ _ (by decide +kernel)
theorem dX8_lighter_24 : decode cX8_lighter 24 = .ok (.isub, 1) := dc100 bqX8_lighter_24 0 rfl rfl
theorem dX8_lighter_25 : decode cX8_lighter 25 = .ok (.i2l, 1) := dc133 bqX8_lighter_24 1 rfl rfl
theorem dX8_lighter_26 : decode cX8_lighter 26 = .ok (.invokestatic 71, 3) := dc184 bqX8_lighter_24 2 rfl rfl rfl
theorem dX8_lighter_29 : decode cX8_lighter 29 = .ok (.ifCond .eq 8, 3) := dc153 bqX8_lighter_24 5 rfl rfl rfl
theorem dX8_lighter_32 : decode cX8_lighter 32 = .ok (.iload_n 1, 1) := dc27 bqX8_lighter_24 8 rfl rfl
theorem dX8_lighter_33 : decode cX8_lighter 33 = .ok (.iload_n 2, 1) := dc28 bqX8_lighter_24 9 rfl rfl
theorem dX8_lighter_34 : decode cX8_lighter 34 = .ok (.if_icmp .ne 5, 3) := dc160 bqX8_lighter_24 10 rfl rfl rfl
theorem dX8_lighter_37 : decode cX8_lighter 37 = .ok (.iconst (-1), 1) := dc2 bqX8_lighter_24 13 rfl rfl
theorem dX8_lighter_38 : decode cX8_lighter 38 = .ok (.ireturn, 1) := dc172 bqX8_lighter_24 14 rfl rfl
theorem dX8_lighter_39 : decode cX8_lighter 39 = .ok (.aload_n 0, 1) := dc42 bqX8_lighter_24 15 rfl rfl
theorem dX8_lighter_40 : decode cX8_lighter 40 = .ok (.getfield 7, 3) := dc180 bqX8_lighter_24 16 rfl rfl rfl
theorem dX8_lighter_43 : decode cX8_lighter 43 = .ok (.bipush 16, 2) := dc16 bqX8_lighter_24 19 rfl rfl rfl
theorem dX8_lighter_45 : decode cX8_lighter 45 = .ok (.iaload, 1) := dc46 bqX8_lighter_24 21 rfl rfl
theorem dX8_lighter_46 : decode cX8_lighter 46 = .ok (.bipush 8, 2) := dc16 bqX8_lighter_24 22 rfl rfl rfl
theorem bqX8_lighter_48 : hs_bs cX8_lighter 48 [160, 0, 6, 16, 253, 172, 42, 182, 0, 177, 42, 42, 180, 0, 66, 182, 0, 146, 42, 180, 0, 29, 8, 27] := hs_bs_of _ _ _ (by decide +kernel)
theorem dX8_lighter_48 : decode cX8_lighter 48 = .ok (.if_icmp .ne 6, 3) := dc160 bqX8_lighter_48 0 rfl rfl rfl
theorem dX8_lighter_51 : decode cX8_lighter 51 = .ok (.bipush (-3), 2) := dc16 bqX8_lighter_48 3 rfl rfl rfl
theorem dX8_lighter_53 : decode cX8_lighter 53 = .ok (.ireturn, 1) := dc172 bqX8_lighter_48 5 rfl rfl
theorem dX8_lighter_54 : decode cX8_lighter 54 = .ok (.aload_n 0, 1) := dc42 bqX8_lighter_48 6 rfl rfl
theorem dX8_lighter_55 : decode cX8_lighter 55 = .ok (.invokevirtual 177, 3) := dc182 bqX8_lighter_48 7 rfl rfl rfl
theorem dX8_lighter_58 : decode cX8_lighter 58 = .ok (.aload_n 0, 1) := dc42 bqX8_lighter_48 10 rfl rfl
theorem dX8_lighter_59 : decode cX8_lighter 59 = .ok (.aload_n 0, 1) := dc42 bqX8_lighter_48 11 rfl rfl
theorem dX8_lighter_60 : decode cX8_lighter 60 = .ok (.getfield 66, 3) := dc180 bqX8_lighter_48 12 rfl rfl rfl
theorem dX8_lighter_63 : decode cX8_lighter 63 = .ok (.invokevirtual 146, 3) := dc182 bqX8_lighter_48 15 rfl rfl rfl
theorem dX8_lighter_66 : decode cX8_lighter 66 = .ok (.aload_n 0, 1) := dc42 bqX8_lighter_48 18 rfl rfl
theorem dX8_lighter_67 : decode cX8_lighter 67 = .ok (.getfield 29, 3) := dc180 bqX8_lighter_48 19 rfl rfl rfl
theorem dX8_lighter_70 : decode cX8_lighter 70 = .ok (.iconst 5, 1) := dc8 bqX8_lighter_48 22 rfl rfl
theorem dX8_lighter_71 : decode cX8_lighter 71 = .ok (.iload_n 1, 1) := dc27 bqX8_lighter_48 23 rfl rfl
theorem bqX8_lighter_72 : hs_bs cX8_lighter 72 [104, 28, 96, 46, 154, 0, 6, 16, 254, 172, 42, 180, 0, 7, 16, 17, 42, 180, 0, 7, 16, 16, 46, 96] := hs_bs_of _ _ _ (by decide +kernel)
theorem dX8_lighter_72 : decode cX8_lighter 72 = .ok (.imul, 1) := dc104 bqX8_lighter_72 0 rfl rfl
theorem dX8_lighter_73 : decode cX8_lighter 73 = .ok (.iload_n 2, 1) := dc28 bqX8_lighter_72 1 rfl rfl
theorem dX8_lighter_74 : decode cX8_lighter 74 = .ok (.iadd, 1) := dc96 bqX8_lighter_72 2 rfl rfl
theorem dX8_lighter_75 : decode cX8_lighter 75 = .ok (.iaload, 1) := dc46 bqX8_lighter_72 3 rfl rfl
theorem dX8_lighter_76 : decode cX8_lighter 76 = .ok (.ifCond .ne 6, 3) := dc154 bqX8_lighter_72 4 rfl rfl rfl
theorem dX8_lighter_79 : decode cX8_lighter 79 = .ok (.bipush (-2), 2) := dc16 bqX8_lighter_72 7 rfl rfl rfl
theorem dX8_lighter_81 : decode cX8_lighter 81 = .ok (.ireturn, 1) := dc172 bqX8_lighter_72 9 rfl rfl
theorem dX8_lighter_82 : decode cX8_lighter 82 = .ok (.aload_n 0, 1) := dc42 bqX8_lighter_72 10 rfl rfl
theorem dX8_lighter_83 : decode cX8_lighter 83 = .ok (.getfield 7, 3) := dc180 bqX8_lighter_72 11 rfl rfl rfl
theorem dX8_lighter_86 : decode cX8_lighter 86 = .ok (.bipush 17, 2) := dc16 bqX8_lighter_72 14 rfl rfl rfl
theorem dX8_lighter_88 : decode cX8_lighter 88 = .ok (.aload_n 0, 1) := dc42 bqX8_lighter_72 16 rfl rfl
theorem dX8_lighter_89 : decode cX8_lighter 89 = .ok (.getfield 7, 3) := dc180 bqX8_lighter_72 17 rfl rfl rfl
theorem dX8_lighter_92 : decode cX8_lighter 92 = .ok (.bipush 16, 2) := dc16 bqX8_lighter_72 20 rfl rfl rfl
theorem dX8_lighter_94 : decode cX8_lighter 94 = .ok (.iaload, 1) := dc46 bqX8_lighter_72 22 rfl rfl
theorem dX8_lighter_95 : decode cX8_lighter 95 = .ok (.iadd, 1) := dc96 bqX8_lighter_72 23 rfl rfl
theorem bqX8_lighter_96 : hs_bs cX8_lighter 96 [16, 10, 27, 104, 28, 96, 79, 42, 180, 0, 7, 16, 16, 92, 46, 4, 96, 79, 42, 180, 0, 7, 16, 16] := hs_bs_of _ _ _ (by decide +kernel)
theorem dX8_lighter_96 : decode cX8_lighter 96 = .ok (.bipush 10, 2) := dc16 bqX8_lighter_96 0 rfl rfl rfl
theorem dX8_lighter_98 : decode cX8_lighter 98 = .ok (.iload_n 1, 1) := dc27 bqX8_lighter_96 2 rfl rfl
theorem dX8_lighter_99 : decode cX8_lighter 99 = .ok (.imul, 1) := dc104 bqX8_lighter_96 3 rfl rfl
theorem dX8_lighter_100 : decode cX8_lighter 100 = .ok (.iload_n 2, 1) := dc28 bqX8_lighter_96 4 rfl rfl
theorem dX8_lighter_101 : decode cX8_lighter 101 = .ok (.iadd, 1) := dc96 bqX8_lighter_96 5 rfl rfl
theorem dX8_lighter_102 : decode cX8_lighter 102 = .ok (.iastore, 1) := dc79 bqX8_lighter_96 6 rfl rfl
theorem dX8_lighter_103 : decode cX8_lighter 103 = .ok (.aload_n 0, 1) := dc42 bqX8_lighter_96 7 rfl rfl
