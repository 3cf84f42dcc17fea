theorem dX7_kinds_28 : decode cX7_kinds 28 = .ok (.iload_n 3, 1) := dc29 bqX7_kinds_24 4 rfl rfl
theorem dX7_kinds_29 : decode cX7_kinds 29 = .ok (.iconst 3, 1) := dc6 bqX7_kinds_24 5 rfl rfl
theorem dX7_kinds_30 : decode cX7_kinds 30 = .ok (.if_icmp .gt 35, 3) := dc163 bqX7_kinds_24 6 rfl rfl rfl
theorem dX7_kinds_33 : decode cX7_kinds 33 = .ok (.aload_n 0, 1) := dc42 bqX7_kinds_24 9 rfl rfl
theorem dX7_kinds_34 : decode cX7_kinds 34 = .ok (.getfield 16, 3) := dc180 bqX7_kinds_24 10 rfl rfl rfl
theorem dX7_kinds_37 : decode cX7_kinds 37 = .ok (.getfield 128, 3) := dc180 bqX7_kinds_24 13 rfl rfl rfl
theorem dX7_kinds_40 : decode cX7_kinds 40 = .ok (.iload_n 1, 1) := dc27 bqX7_kinds_24 16 rfl rfl
theorem dX7_kinds_41 : decode cX7_kinds 41 = .ok (.iload_n 3, 1) := dc29 bqX7_kinds_24 17 rfl rfl
theorem dX7_kinds_42 : decode cX7_kinds 42 = .ok (.iastore, 1) := dc79 bqX7_kinds_24 18 rfl rfl
theorem dX7_kinds_43 : decode cX7_kinds 43 = .ok (.aload_n 0, 1) := dc42 bqX7_kinds_24 19 rfl rfl
theorem dX7_kinds_44 : decode cX7_kinds 44 = .ok (.getfield 16, 3) := dc180 bqX7_kinds_24 20 rfl rfl rfl
theorem bqX7_kinds_47 : hs_bs cX7_kinds 47 [182, 0, 251, 153, 0, 9, 28, 4, 29, 120, 128, 61, 132, 3, 1, 167, 255, 222, 28, 172] := hs_bs_of _ _ _ (by decide +kernel)
theorem dX7_kinds_47 : decode cX7_kinds 47 = .ok (.invokevirtual 251, 3) := dc182 bqX7_kinds_47 0 rfl rfl rfl
theorem dX7_kinds_50 : decode cX7_kinds 50 = .ok (.ifCond .eq 9, 3) := dc153 bqX7_kinds_47 3 rfl rfl rfl
theorem dX7_kinds_53 : decode cX7_kinds 53 = .ok (.iload_n 2, 1) := dc28 bqX7_kinds_47 6 rfl rfl
theorem dX7_kinds_54 : decode cX7_kinds 54 = .ok (.iconst 1, 1) := dc4 bqX7_kinds_47 7 rfl rfl
theorem dX7_kinds_55 : decode cX7_kinds 55 = .ok (.iload_n 3, 1) := dc29 bqX7_kinds_47 8 rfl rfl
theorem dX7_kinds_56 : decode cX7_kinds 56 = .ok (.ishl, 1) := dc120 bqX7_kinds_47 9 rfl rfl
theorem dX7_kinds_57 : decode cX7_kinds 57 = .ok (.ior, 1) := dc128 bqX7_kinds_47 10 rfl rfl
theorem dX7_kinds_58 : decode cX7_kinds 58 = .ok (.istore_n 2, 1) := dc61 bqX7_kinds_47 11 rfl rfl
theorem dX7_kinds_59 : decode cX7_kinds 59 = .ok (.iinc 3 1, 3) := dc132 bqX7_kinds_47 12 rfl rfl rfl
theorem dX7_kinds_62 : decode cX7_kinds 62 = .ok (.goto (-34), 3) := dc167 bqX7_kinds_47 15 rfl rfl rfl
theorem dX7_kinds_65 : decode cX7_kinds 65 = .ok (.iload_n 2, 1) := dc28 bqX7_kinds_47 18 rfl rfl
theorem dX7_kinds_66 : decode cX7_kinds 66 = .ok (.ireturn, 1) := dc172 bqX7_kinds_47 19 rfl rfl
set_option maxRecDepth 20000 in
theorem gX7_drift_X7_within : GoodIn wsX7_drift (va_wsS RX7 59 yX7_within wsX7_within) := hs_gC (hs_gS (hs_inG 2 10 rfl rfl) (hs_inG 2 11 rfl rfl) (hs_inG 1 1 rfl rfl) inC_X7_within)
set_option maxRecDepth 20000 in
theorem gX7_drift_X6_copyFrom : GoodIn wsX7_drift (wsV RX7 89 RX6 yX6_copyFrom wsX6_copyFrom) := hs_gC (hs_gV (hs_inG 2 176 rfl rfl) (hs_inG 2 177 rfl rfl) (hs_inG 2 178 rfl rfl) (hs_inG 1 2 rfl rfl) inC_X6_copyFrom)
set_option maxRecDepth 20000 in
theorem gX7_drift_X6_justInAll : GoodIn wsX7_drift (wsV RX7 256 RX6 yX6_justInAll wsX6_justInAll) := hs_gC (hs_gV (hs_inG 3 234 rfl rfl) (hs_inG 3 235 rfl rfl) (hs_inG 3 236 rfl rfl) (hs_inG 1 2 rfl rfl) inC_X6_justInAll)
set_option maxRecDepth 20000 in
theorem gX7_drift_X6_allWeights : GoodIn wsX7_drift (wsV RX7 114 RX6 yX6_allWeights wsX6_allWeights) := hs_gC (hs_gV (hs_inG 2 192 rfl rfl) (hs_inG 2 193 rfl rfl) (hs_inG 2 194 rfl rfl) (hs_inG 1 2 rfl rfl) inC_X6_allWeights)
theorem bqX7_drift_0 : hs_bs cX7_drift 0 [28, 4, 16, 60, 184, 0, 59, 153, 0, 12, 29, 3, 4, 184, 0, 59, 154, 0, 5, 2, 172, 42] := hs_bs_of _ _ _ (by decide +kernel)
theorem dX7_drift_0 : decode cX7_drift 0 = .ok (.iload_n 2, 1) := dc28 bqX7_drift_0 0 rfl rfl
theorem dX7_drift_1 : decode cX7_drift 1 = .ok (.iconst 1, 1) := dc4 bqX7_drift_0 1 rfl rfl
theorem dX7_drift_2 : decode cX7_drift 2 = .ok (.bipush 60, 2) := dc16 bqX7_drift_0 2 rfl rfl rfl
theorem dX7_drift_4 : decode cX7_drift 4 = .ok (.invokestatic 59, 3) := dc184 bqX7_drift_0 4 rfl rfl rfl
theorem dX7_drift_7 : decode cX7_drift 7 = .ok (.ifCond .eq 12, 3) := dc153 bqX7_drift_0 7 rfl rfl rfl
theorem dX7_drift_10 : decode cX7_drift 10 = .ok (.iload_n 3, 1) := dc29 bqX7_drift_0 10 rfl rfl
theorem dX7_drift_11 : decode cX7_drift 11 = .ok (.iconst 0, 1) := dc3 bqX7_drift_0 11 rfl rfl
theorem dX7_drift_12 : decode cX7_drift 12 = .ok (.iconst 1, 1) := dc4 bqX7_drift_0 12 rfl rfl
theorem dX7_drift_13 : decode cX7_drift 13 = .ok (.invokestatic 59, 3) := dc184 bqX7_drift_0 13 rfl rfl rfl
theorem dX7_drift_16 : decode cX7_drift 16 = .ok (.ifCond .ne 5, 3) := dc154 bqX7_drift_0 16 rfl rfl rfl
theorem dX7_drift_19 : decode cX7_drift 19 = .ok (.iconst (-1), 1) := dc2 bqX7_drift_0 19 rfl rfl
theorem dX7_drift_20 : decode cX7_drift 20 = .ok (.ireturn, 1) := dc172 bqX7_drift_0 20 rfl rfl
theorem dX7_drift_21 : decode cX7_drift 21 = .ok (.aload_n 0, 1) := dc42 bqX7_drift_0 21 rfl rfl
theorem bqX7_drift_22 : hs_bs cX7_drift 22 [180, 0, 16, 42, 180, 0, 10, 182, 0, 89, 27, 54, 4, 3, 54, 5, 3, 54, 6, 21, 6, 28] := hs_bs_of _ _ _ (by decide +kernel)
theorem dX7_drift_22 : decode cX7_drift 22 = .ok (.getfield 16, 3) := dc180 bqX7_drift_22 0 rfl rfl rfl
theorem dX7_drift_25 : decode cX7_drift 25 = .ok (.aload_n 0, 1) := dc42 bqX7_drift_22 3 rfl rfl
theorem dX7_drift_26 : decode cX7_drift 26 = .ok (.getfield 10, 3) := dc180 bqX7_drift_22 4 rfl rfl rfl
theorem dX7_drift_29 : decode cX7_drift 29 = .ok (.invokevirtual 89, 3) := dc182 bqX7_drift_22 7 rfl rfl rfl
theorem dX7_drift_32 : decode cX7_drift 32 = .ok (.iload_n 1, 1) := dc27 bqX7_drift_22 10 rfl rfl
theorem dX7_drift_33 : decode cX7_drift 33 = .ok (.istore 4, 2) := dc54 bqX7_drift_22 11 rfl rfl
theorem dX7_drift_35 : decode cX7_drift 35 = .ok (.iconst 0, 1) := dc3 bqX7_drift_22 13 rfl rfl
theorem dX7_drift_36 : decode cX7_drift 36 = .ok (.istore 5, 2) := dc54 bqX7_drift_22 14 rfl rfl
theorem dX7_drift_38 : decode cX7_drift 38 = .ok (.iconst 0, 1) := dc3 bqX7_drift_22 16 rfl rfl
theorem dX7_drift_39 : decode cX7_drift 39 = .ok (.istore 6, 2) := dc54 bqX7_drift_22 17 rfl rfl
theorem dX7_drift_41 : decode cX7_drift 41 = .ok (.iload 6, 2) := dc21 bqX7_drift_22 19 rfl rfl
theorem dX7_drift_43 : decode cX7_drift 43 = .ok (.iload_n 2, 1) := dc28 bqX7_drift_22 21 rfl rfl
theorem bqX7_drift_44 : hs_bs cX7_drift 44 [162, 0, 83, 42, 180, 0, 16, 180, 0, 93, 158, 0, 73, 21, 4, 18, 255, 104, 17, 48, 57, 96, 54, 4] := hs_bs_of _ _ _ (by decide +kernel)
theorem dX7_drift_44 : decode cX7_drift 44 = .ok (.if_icmp .ge 83, 3) := dc162 bqX7_drift_44 0 rfl rfl rfl
theorem dX7_drift_47 : decode cX7_drift 47 = .ok (.aload_n 0, 1) := dc42 bqX7_drift_44 3 rfl rfl
theorem dX7_drift_48 : decode cX7_drift 48 = .ok (.getfield 16, 3) := dc180 bqX7_drift_44 4 rfl rfl rfl
theorem dX7_drift_51 : decode cX7_drift 51 = .ok (.getfield 93, 3) := dc180 bqX7_drift_44 7 rfl rfl rfl
theorem dX7_drift_54 : decode cX7_drift 54 = .ok (.ifCond .le 73, 3) := dc158 bqX7_drift_44 10 rfl rfl rfl
theorem dX7_drift_57 : decode cX7_drift 57 = .ok (.iload 4, 2) := dc21 bqX7_drift_44 13 rfl rfl
theorem dX7_drift_59 : decode cX7_drift 59 = .ok (.ldc 255, 2) := dc18 bqX7_drift_44 15 rfl rfl
theorem dX7_drift_61 : decode cX7_drift 61 = .ok (.imul, 1) := dc104 bqX7_drift_44 17 rfl rfl
theorem dX7_drift_62 : decode cX7_drift 62 = .ok (.sipush 12345, 3) := dc17 bqX7_drift_44 18 rfl rfl rfl
theorem dX7_drift_65 : decode cX7_drift 65 = .ok (.iadd, 1) := dc96 bqX7_drift_44 21 rfl rfl
theorem dX7_drift_66 : decode cX7_drift 66 = .ok (.istore 4, 2) := dc54 bqX7_drift_44 22 rfl rfl
theorem bqX7_drift_68 : hs_bs cX7_drift 68 [21, 4, 16, 16, 124, 17, 127, 255, 126, 54, 7, 42, 180, 0, 16, 180, 0, 122, 21, 7, 42, 180, 0, 16] := hs_bs_of _ _ _ (by decide +kernel)
theorem dX7_drift_68 : decode cX7_drift 68 = .ok (.iload 4, 2) := dc21 bqX7_drift_68 0 rfl rfl
theorem dX7_drift_70 : decode cX7_drift 70 = .ok (.bipush 16, 2) := dc16 bqX7_drift_68 2 rfl rfl rfl
theorem dX7_drift_72 : decode cX7_drift 72 = .ok (.iushr, 1) := dc124 bqX7_drift_68 4 rfl rfl
theorem dX7_drift_73 : decode cX7_drift 73 = .ok (.sipush 32767, 3) := dc17 bqX7_drift_68 5 rfl rfl rfl
theorem dX7_drift_76 : decode cX7_drift 76 = .ok (.iand, 1) := dc126 bqX7_drift_68 8 rfl rfl
theorem dX7_drift_77 : decode cX7_drift 77 = .ok (.istore 7, 2) := dc54 bqX7_drift_68 9 rfl rfl
theorem dX7_drift_79 : decode cX7_drift 79 = .ok (.aload_n 0, 1) := dc42 bqX7_drift_68 11 rfl rfl
theorem dX7_drift_80 : decode cX7_drift 80 = .ok (.getfield 16, 3) := dc180 bqX7_drift_68 12 rfl rfl rfl
theorem dX7_drift_83 : decode cX7_drift 83 = .ok (.getfield 122, 3) := dc180 bqX7_drift_68 15 rfl rfl rfl
theorem dX7_drift_86 : decode cX7_drift 86 = .ok (.iload 7, 2) := dc21 bqX7_drift_68 18 rfl rfl
theorem dX7_drift_88 : decode cX7_drift 88 = .ok (.aload_n 0, 1) := dc42 bqX7_drift_68 20 rfl rfl
theorem dX7_drift_89 : decode cX7_drift 89 = .ok (.getfield 16, 3) := dc180 bqX7_drift_68 21 rfl rfl rfl
theorem bqX7_drift_92 : hs_bs cX7_drift 92 [180, 0, 93, 112, 21, 7, 16, 8, 108, 16, 10, 112, 79, 29, 154, 0, 15, 21, 5, 42, 180, 0, 16] := hs_bs_of _ _ _ (by decide +kernel)
theorem dX7_drift_92 : decode cX7_drift 92 = .ok (.getfield 93, 3) := dc180 bqX7_drift_92 0 rfl rfl rfl
theorem dX7_drift_95 : decode cX7_drift 95 = .ok (.irem, 1) := dc112 bqX7_drift_92 3 rfl rfl
theorem dX7_drift_96 : decode cX7_drift 96 = .ok (.iload 7, 2) := dc21 bqX7_drift_92 4 rfl rfl
theorem dX7_drift_98 : decode cX7_drift 98 = .ok (.bipush 8, 2) := dc16 bqX7_drift_92 6 rfl rfl rfl
theorem dX7_drift_100 : decode cX7_drift 100 = .ok (.idiv, 1) := dc108 bqX7_drift_92 8 rfl rfl
theorem dX7_drift_101 : decode cX7_drift 101 = .ok (.bipush 10, 2) := dc16 bqX7_drift_92 9 rfl rfl rfl
theorem dX7_drift_103 : decode cX7_drift 103 = .ok (.irem, 1) := dc112 bqX7_drift_92 11 rfl rfl
theorem dX7_drift_104 : decode cX7_drift 104 = .ok (.iastore, 1) := dc79 bqX7_drift_92 12 rfl rfl
theorem dX7_drift_105 : decode cX7_drift 105 = .ok (.iload_n 3, 1) := dc29 bqX7_drift_92 13 rfl rfl
theorem dX7_drift_106 : decode cX7_drift 106 = .ok (.ifCond .ne 15, 3) := dc154 bqX7_drift_92 14 rfl rfl rfl
theorem dX7_drift_109 : decode cX7_drift 109 = .ok (.iload 5, 2) := dc21 bqX7_drift_92 17 rfl rfl
theorem dX7_drift_111 : decode cX7_drift 111 = .ok (.aload_n 0, 1) := dc42 bqX7_drift_92 19 rfl rfl
theorem dX7_drift_112 : decode cX7_drift 112 = .ok (.getfield 16, 3) := dc180 bqX7_drift_92 20 rfl rfl rfl
theorem bqX7_drift_115 : hs_bs cX7_drift 115 [182, 1, 0, 96, 54, 5, 132, 6, 1, 167, 255, 173, 29, 154, 0, 8, 21, 5, 167, 0, 10, 42] := hs_bs_of _ _ _ (by decide +kernel)
theorem dX7_drift_115 : decode cX7_drift 115 = .ok (.invokevirtual 256, 3) := dc182 bqX7_drift_115 0 rfl rfl rfl
theorem dX7_drift_118 : decode cX7_drift 118 = .ok (.iadd, 1) := dc96 bqX7_drift_115 3 rfl rfl
theorem dX7_drift_119 : decode cX7_drift 119 = .ok (.istore 5, 2) := dc54 bqX7_drift_115 4 rfl rfl
theorem dX7_drift_121 : decode cX7_drift 121 = .ok (.iinc 6 1, 3) := dc132 bqX7_drift_115 6 rfl rfl rfl
theorem dX7_drift_124 : decode cX7_drift 124 = .ok (.goto (-83), 3) := dc167 bqX7_drift_115 9 rfl rfl rfl
theorem dX7_drift_127 : decode cX7_drift 127 = .ok (.iload_n 3, 1) := dc29 bqX7_drift_115 12 rfl rfl
theorem dX7_drift_128 : decode cX7_drift 128 = .ok (.ifCond .ne 8, 3) := dc154 bqX7_drift_115 13 rfl rfl rfl
theorem dX7_drift_131 : decode cX7_drift 131 = .ok (.iload 5, 2) := dc21 bqX7_drift_115 16 rfl rfl
theorem dX7_drift_133 : decode cX7_drift 133 = .ok (.goto 10, 3) := dc167 bqX7_drift_115 18 rfl rfl rfl
theorem dX7_drift_136 : decode cX7_drift 136 = .ok (.aload_n 0, 1) := dc42 bqX7_drift_115 21 rfl rfl
theorem bqX7_drift_137 : hs_bs cX7_drift 137 [180, 0, 16, 182, 0, 114, 172] := hs_bs_of _ _ _ (by decide +kernel)
theorem dX7_drift_137 : decode cX7_drift 137 = .ok (.getfield 16, 3) := dc180 bqX7_drift_137 0 rfl rfl rfl
theorem dX7_drift_140 : decode cX7_drift 140 = .ok (.invokevirtual 114, 3) := dc182 bqX7_drift_137 3 rfl rfl rfl
theorem dX7_drift_143 : decode cX7_drift 143 = .ok (.ireturn, 1) := dc172 bqX7_drift_137 6 rfl rfl
set_option maxRecDepth 20000 in
theorem gX7_keep_X7_within : GoodIn wsX7_keep (va_wsS RX7 59 yX7_within wsX7_within) := hs_gC (hs_gS (hs_inG 2 10 rfl rfl) (hs_inG 2 11 rfl rfl) (hs_inG 1 1 rfl rfl) inC_X7_within)
set_option maxRecDepth 20000 in
theorem gX7_keep_X6_copyFrom : GoodIn wsX7_keep (wsV RX7 89 RX6 yX6_copyFrom wsX6_copyFrom) := hs_gC (hs_gV (hs_inG 2 176 rfl rfl) (hs_inG 2 177 rfl rfl) (hs_inG 2 178 rfl rfl) (hs_inG 1 2 rfl rfl) inC_X6_copyFrom)
theorem bqX7_keep_0 : hs_bs cX7_keep 0 [27, 3, 4, 184, 0, 59, 154, 0, 5, 2, 172, 42, 180, 0, 23, 27, 51, 153, 0, 7, 4, 167, 0, 4] := hs_bs_of _ _ _ (by decide +kernel)
theorem dX7_keep_0 : decode cX7_keep 0 = .ok (.iload_n 1, 1) := dc27 bqX7_keep_0 0 rfl rfl
theorem dX7_keep_1 : decode cX7_keep 1 = .ok (.iconst 0, 1) := dc3 bqX7_keep_0 1 rfl rfl
theorem dX7_keep_2 : decode cX7_keep 2 = .ok (.iconst 1, 1) := dc4 bqX7_keep_0 2 rfl rfl
theorem dX7_keep_3 : decode cX7_keep 3 = .ok (.invokestatic 59, 3) := dc184 bqX7_keep_0 3 rfl rfl rfl
theorem dX7_keep_6 : decode cX7_keep 6 = .ok (.ifCond .ne 5, 3) := dc154 bqX7_keep_0 6 rfl rfl rfl
theorem dX7_keep_9 : decode cX7_keep 9 = .ok (.iconst (-1), 1) := dc2 bqX7_keep_0 9 rfl rfl
theorem dX7_keep_10 : decode cX7_keep 10 = .ok (.ireturn, 1) := dc172 bqX7_keep_0 10 rfl rfl
theorem dX7_keep_11 : decode cX7_keep 11 = .ok (.aload_n 0, 1) := dc42 bqX7_keep_0 11 rfl rfl
theorem dX7_keep_12 : decode cX7_keep 12 = .ok (.getfield 23, 3) := dc180 bqX7_keep_0 12 rfl rfl rfl
theorem dX7_keep_15 : decode cX7_keep 15 = .ok (.iload_n 1, 1) := dc27 bqX7_keep_0 15 rfl rfl
theorem dX7_keep_16 : decode cX7_keep 16 = .ok (.baload, 1) := dc51 bqX7_keep_0 16 rfl rfl
theorem dX7_keep_17 : decode cX7_keep 17 = .ok (.ifCond .eq 7, 3) := dc153 bqX7_keep_0 17 rfl rfl rfl
theorem dX7_keep_20 : decode cX7_keep 20 = .ok (.iconst 1, 1) := dc4 bqX7_keep_0 20 rfl rfl
theorem dX7_keep_21 : decode cX7_keep 21 = .ok (.goto 4, 3) := dc167 bqX7_keep_0 21 rfl rfl rfl
theorem bqX7_keep_24 : hs_bs cX7_keep 24 [3, 61, 42, 180, 0, 19, 27, 50, 42, 180, 0, 10, 182, 0, 89, 42, 180, 0, 23, 27, 4, 84, 28, 172] := hs_bs_of _ _ _ (by decide +kernel)
theorem dX7_keep_24 : decode cX7_keep 24 = .ok (.iconst 0, 1) := dc3 bqX7_keep_24 0 rfl rfl
theorem dX7_keep_25 : decode cX7_keep 25 = .ok (.istore_n 2, 1) := dc61 bqX7_keep_24 1 rfl rfl
theorem dX7_keep_26 : decode cX7_keep 26 = .ok (.aload_n 0, 1) := dc42 bqX7_keep_24 2 rfl rfl
theorem dX7_keep_27 : decode cX7_keep 27 = .ok (.getfield 19, 3) := dc180 bqX7_keep_24 3 rfl rfl rfl
theorem dX7_keep_30 : decode cX7_keep 30 = .ok (.iload_n 1, 1) := dc27 bqX7_keep_24 6 rfl rfl
theorem dX7_keep_31 : decode cX7_keep 31 = .ok (.aaload, 1) := dc50 bqX7_keep_24 7 rfl rfl
theorem dX7_keep_32 : decode cX7_keep 32 = .ok (.aload_n 0, 1) := dc42 bqX7_keep_24 8 rfl rfl
theorem dX7_keep_33 : decode cX7_keep 33 = .ok (.getfield 10, 3) := dc180 bqX7_keep_24 9 rfl rfl rfl
theorem dX7_keep_36 : decode cX7_keep 36 = .ok (.invokevirtual 89, 3) := dc182 bqX7_keep_24 12 rfl rfl rfl
theorem dX7_keep_39 : decode cX7_keep 39 = .ok (.aload_n 0, 1) := dc42 bqX7_keep_24 15 rfl rfl
theorem dX7_keep_40 : decode cX7_keep 40 = .ok (.getfield 23, 3) := dc180 bqX7_keep_24 16 rfl rfl rfl
theorem dX7_keep_43 : decode cX7_keep 43 = .ok (.iload_n 1, 1) := dc27 bqX7_keep_24 19 rfl rfl
theorem dX7_keep_44 : decode cX7_keep 44 = .ok (.iconst 1, 1) := dc4 bqX7_keep_24 20 rfl rfl
theorem dX7_keep_45 : decode cX7_keep 45 = .ok (.bastore, 1) := dc84 bqX7_keep_24 21 rfl rfl
theorem dX7_keep_46 : decode cX7_keep 46 = .ok (.iload_n 2, 1) := dc28 bqX7_keep_24 22 rfl rfl
theorem dX7_keep_47 : decode cX7_keep 47 = .ok (.ireturn, 1) := dc172 bqX7_keep_24 23 rfl rfl
set_option maxRecDepth 20000 in
theorem gX7_back_X7_within : GoodIn wsX7_back (va_wsS RX7 59 yX7_within wsX7_within) := hs_gC (hs_gS (hs_inG 2 10 rfl rfl) (hs_inG 2 11 rfl rfl) (hs_inG 1 1 rfl rfl) inC_X7_within)
set_option maxRecDepth 20000 in
theorem gX7_back_X6_copyFrom : GoodIn wsX7_back (wsV RX7 89 RX6 yX6_copyFrom wsX6_copyFrom) := hs_gC (hs_gV (hs_inG 2 176 rfl rfl) (hs_inG 2 177 rfl rfl) (hs_inG 2 178 rfl rfl) (hs_inG 1 2 rfl rfl) inC_X6_copyFrom)
theorem bqX7_back_0 : hs_bs cX7_back 0 [27, 3, 4, 184, 0, 59, 154, 0, 5, 2, 172, 42, 180, 0, 23, 27, 51, 154, 0, 6, 16, 254, 172, 42] := hs_bs_of _ _ _ (by decide +kernel)
theorem dX7_back_0 : decode cX7_back 0 = .ok (.iload_n 1, 1) := dc27 bqX7_back_0 0 rfl rfl
theorem dX7_back_1 : decode cX7_back 1 = .ok (.iconst 0, 1) := dc3 bqX7_back_0 1 rfl rfl
theorem dX7_back_2 : decode cX7_back 2 = .ok (.iconst 1, 1) := dc4 bqX7_back_0 2 rfl rfl
theorem dX7_back_3 : decode cX7_back 3 = .ok (.invokestatic 59, 3) := dc184 bqX7_back_0 3 rfl rfl rfl
theorem dX7_back_6 : decode cX7_back 6 = .ok (.ifCond .ne 5, 3) := dc154 bqX7_back_0 6 rfl rfl rfl
theorem dX7_back_9 : decode cX7_back 9 = .ok (.iconst (-1), 1) := dc2 bqX7_back_0 9 rfl rfl
theorem dX7_back_10 : decode cX7_back 10 = .ok (.ireturn, 1) := dc172 bqX7_back_0 10 rfl rfl
theorem dX7_back_11 : decode cX7_back 11 = .ok (.aload_n 0, 1) := dc42 bqX7_back_0 11 rfl rfl
theorem dX7_back_12 : decode cX7_back 12 = .ok (.getfield 23, 3) := dc180 bqX7_back_0 12 rfl rfl rfl
theorem dX7_back_15 : decode cX7_back 15 = .ok (.iload_n 1, 1) := dc27 bqX7_back_0 15 rfl rfl
theorem dX7_back_16 : decode cX7_back 16 = .ok (.baload, 1) := dc51 bqX7_back_0 16 rfl rfl
theorem dX7_back_17 : decode cX7_back 17 = .ok (.ifCond .ne 6, 3) := dc154 bqX7_back_0 17 rfl rfl rfl
theorem dX7_back_20 : decode cX7_back 20 = .ok (.bipush (-2), 2) := dc16 bqX7_back_0 20 rfl rfl rfl
theorem dX7_back_22 : decode cX7_back 22 = .ok (.ireturn, 1) := dc172 bqX7_back_0 22 rfl rfl
theorem dX7_back_23 : decode cX7_back 23 = .ok (.aload_n 0, 1) := dc42 bqX7_back_0 23 rfl rfl
theorem bqX7_back_24 : hs_bs cX7_back 24 [180, 0, 10, 42, 180, 0, 19, 27, 50, 182, 0, 89, 42, 180, 0, 10, 180, 0, 93, 172] := hs_bs_of _ _ _ (by decide +kernel)
theorem dX7_back_24 : decode cX7_back 24 = .ok (.getfield 10, 3) := dc180 bqX7_back_24 0 rfl rfl rfl
theorem dX7_back_27 : decode cX7_back 27 = .ok (.aload_n 0, 1) := dc42 bqX7_back_24 3 rfl rfl
theorem dX7_back_28 : decode cX7_back 28 = .ok (.getfield 19, 3) := dc180 bqX7_back_24 4 rfl rfl rfl
theorem dX7_back_31 : decode cX7_back 31 = .ok (.iload_n 1, 1) := dc27 bqX7_back_24 7 rfl rfl
theorem dX7_back_32 : decode cX7_back 32 = .ok (.aaload, 1) := dc50 bqX7_back_24 8 rfl rfl
theorem dX7_back_33 : decode cX7_back 33 = .ok (.invokevirtual 89, 3) := dc182 bqX7_back_24 9 rfl rfl rfl
theorem dX7_back_36 : decode cX7_back 36 = .ok (.aload_n 0, 1) := dc42 bqX7_back_24 12 rfl rfl
theorem dX7_back_37 : decode cX7_back 37 = .ok (.getfield 10, 3) := dc180 bqX7_back_24 13 rfl rfl rfl
theorem dX7_back_40 : decode cX7_back 40 = .ok (.getfield 93, 3) := dc180 bqX7_back_24 16 rfl rfl rfl
theorem dX7_back_43 : decode cX7_back 43 = .ok (.ireturn, 1) := dc172 bqX7_back_24 19 rfl rfl
set_option maxRecDepth 20000 in
theorem gX7_sheet_X7_isSheet : GoodIn wsX7_sheet (va_wsS RX7 259 yX7_isSheet wsX7_isSheet) := hs_gC (hs_gS (hs_inG 4 12 rfl rfl) (hs_inG 4 13 rfl rfl) (hs_inG 1 1 rfl rfl) inC_X7_isSheet)
set_option maxRecDepth 20000 in
theorem gX7_sheet_X3_isLane : GoodIn wsX7_sheet (va_wsS RX7 262 yX3_isLane wsX3_isLane) := hs_gC (hs_gS (hs_inG 4 15 rfl rfl) (hs_inG 4 16 rfl rfl) (hs_inG 1 7 rfl rfl) inC_X3_isLane)
set_option maxRecDepth 20000 in
theorem gX7_sheet_X3_renew : GoodIn wsX7_sheet (wsV RX7 265 RX3 yX3_renew wsX3_renew) := hs_gC (hs_gV (hs_inG 4 19 rfl rfl) (hs_inG 4 20 rfl rfl) (hs_inG 4 21 rfl rfl) (hs_inG 1 7 rfl rfl) inC_X3_renew)
theorem bqX7_sheet_0 : hs_bs cX7_sheet 0 [27, 184, 1, 3, 153, 0, 16, 28, 184, 1, 6, 153, 0, 9, 29, 16, 40, 164, 0, 5, 2, 172, 29] := hs_bs_of _ _ _ (by decide +kernel)
theorem dX7_sheet_0 : decode cX7_sheet 0 = .ok (.iload_n 1, 1) := dc27 bqX7_sheet_0 0 rfl rfl
theorem dX7_sheet_1 : decode cX7_sheet 1 = .ok (.invokestatic 259, 3) := dc184 bqX7_sheet_0 1 rfl rfl rfl
theorem dX7_sheet_4 : decode cX7_sheet 4 = .ok (.ifCond .eq 16, 3) := dc153 bqX7_sheet_0 4 rfl rfl rfl
theorem dX7_sheet_7 : decode cX7_sheet 7 = .ok (.iload_n 2, 1) := dc28 bqX7_sheet_0 7 rfl rfl
theorem dX7_sheet_8 : decode cX7_sheet 8 = .ok (.invokestatic 262, 3) := dc184 bqX7_sheet_0 8 rfl rfl rfl
theorem dX7_sheet_11 : decode cX7_sheet 11 = .ok (.ifCond .eq 9, 3) := dc153 bqX7_sheet_0 11 rfl rfl rfl
theorem dX7_sheet_14 : decode cX7_sheet 14 = .ok (.iload_n 3, 1) := dc29 bqX7_sheet_0 14 rfl rfl
theorem dX7_sheet_15 : decode cX7_sheet 15 = .ok (.bipush 40, 2) := dc16 bqX7_sheet_0 15 rfl rfl rfl
theorem dX7_sheet_17 : decode cX7_sheet 17 = .ok (.if_icmp .le 5, 3) := dc164 bqX7_sheet_0 17 rfl rfl rfl
theorem dX7_sheet_20 : decode cX7_sheet 20 = .ok (.iconst (-1), 1) := dc2 bqX7_sheet_0 20 rfl rfl
theorem dX7_sheet_21 : decode cX7_sheet 21 = .ok (.ireturn, 1) := dc172 bqX7_sheet_0 21 rfl rfl
theorem dX7_sheet_22 : decode cX7_sheet 22 = .ok (.iload_n 3, 1) := dc29 bqX7_sheet_0 22 rfl rfl
theorem bqX7_sheet_23 : hs_bs cX7_sheet 23 [156, 0, 6, 16, 242, 172, 42, 180, 0, 50, 27, 50, 28, 29, 182, 1, 9, 4, 172] := hs_bs_of _ _ _ (by decide +kernel)
theorem dX7_sheet_23 : decode cX7_sheet 23 = .ok (.ifCond .ge 6, 3) := dc156 bqX7_sheet_23 0 rfl rfl rfl
theorem dX7_sheet_26 : decode cX7_sheet 26 = .ok (.bipush (-14), 2) := dc16 bqX7_sheet_23 3 rfl rfl rfl
theorem dX7_sheet_28 : decode cX7_sheet 28 = .ok (.ireturn, 1) := dc172 bqX7_sheet_23 5 rfl rfl
theorem dX7_sheet_29 : decode cX7_sheet 29 = .ok (.aload_n 0, 1) := dc42 bqX7_sheet_23 6 rfl rfl
theorem dX7_sheet_30 : decode cX7_sheet 30 = .ok (.getfield 50, 3) := dc180 bqX7_sheet_23 7 rfl rfl rfl
theorem dX7_sheet_33 : decode cX7_sheet 33 = .ok (.iload_n 1, 1) := dc27 bqX7_sheet_23 10 rfl rfl
theorem dX7_sheet_34 : decode cX7_sheet 34 = .ok (.aaload, 1) := dc50 bqX7_sheet_23 11 rfl rfl
theorem dX7_sheet_35 : decode cX7_sheet 35 = .ok (.iload_n 2, 1) := dc28 bqX7_sheet_23 12 rfl rfl
theorem dX7_sheet_36 : decode cX7_sheet 36 = .ok (.iload_n 3, 1) := dc29 bqX7_sheet_23 13 rfl rfl
theorem dX7_sheet_37 : decode cX7_sheet 37 = .ok (.invokevirtual 265, 3) := dc182 bqX7_sheet_23 14 rfl rfl rfl
theorem dX7_sheet_40 : decode cX7_sheet 40 = .ok (.iconst 1, 1) := dc4 bqX7_sheet_23 17 rfl rfl
theorem dX7_sheet_41 : decode cX7_sheet 41 = .ok (.ireturn, 1) := dc172 bqX7_sheet_23 18 rfl rfl
set_option maxRecDepth 20000 in
theorem gX7_lay_X7_isSheet : GoodIn wsX7_lay (va_wsS RX7 259 yX7_isSheet wsX7_isSheet) := hs_gC (hs_gS (hs_inG 4 12 rfl rfl) (hs_inG 4 13 rfl rfl) (hs_inG 1 1 rfl rfl) inC_X7_isSheet)
set_option maxRecDepth 20000 in
theorem gX7_lay_X3_faultAt : GoodIn wsX7_lay (wsV RX7 268 RX3 yX3_faultAt wsX3_faultAt) := hs_gC (hs_gV (hs_inG 4 27 rfl rfl) (hs_inG 4 28 rfl rfl) (hs_inG 4 29 rfl rfl) (hs_inG 1 7 rfl rfl) inC_X3_faultAt)
set_option maxRecDepth 20000 in
theorem gX7_lay_X3_put : GoodIn wsX7_lay (wsV RX7 271 RX3 yX3_put wsX3_put) := hs_gC (hs_gV (hs_inG 4 35 rfl rfl) (hs_inG 4 36 rfl rfl) (hs_inG 4 37 rfl rfl) (hs_inG 1 7 rfl rfl) inC_X3_put)
theorem bqX7_lay_0 : hs_bs cX7_lay 0 [27, 184, 1, 3, 154, 0, 5, 2, 172, 42, 180, 0, 50, 27, 50, 28, 182, 1, 12, 54, 4, 21, 4] := hs_bs_of _ _ _ (by decide +kernel)
theorem dX7_lay_0 : decode cX7_lay 0 = .ok (.iload_n 1, 1) := dc27 bqX7_lay_0 0 rfl rfl
theorem dX7_lay_1 : decode cX7_lay 1 = .ok (.invokestatic 259, 3) := dc184 bqX7_lay_0 1 rfl rfl rfl
theorem dX7_lay_4 : decode cX7_lay 4 = .ok (.ifCond .ne 5, 3) := dc154 bqX7_lay_0 4 rfl rfl rfl
theorem dX7_lay_7 : decode cX7_lay 7 = .ok (.iconst (-1), 1) := dc2 bqX7_lay_0 7 rfl rfl
theorem dX7_lay_8 : decode cX7_lay 8 = .ok (.ireturn, 1) := dc172 bqX7_lay_0 8 rfl rfl
theorem dX7_lay_9 : decode cX7_lay 9 = .ok (.aload_n 0, 1) := dc42 bqX7_lay_0 9 rfl rfl
theorem dX7_lay_10 : decode cX7_lay 10 = .ok (.getfield 50, 3) := dc180 bqX7_lay_0 10 rfl rfl rfl
theorem dX7_lay_13 : decode cX7_lay 13 = .ok (.iload_n 1, 1) := dc27 bqX7_lay_0 13 rfl rfl
theorem dX7_lay_14 : decode cX7_lay 14 = .ok (.aaload, 1) := dc50 bqX7_lay_0 14 rfl rfl
theorem dX7_lay_15 : decode cX7_lay 15 = .ok (.iload_n 2, 1) := dc28 bqX7_lay_0 15 rfl rfl
theorem dX7_lay_16 : decode cX7_lay 16 = .ok (.invokevirtual 268, 3) := dc182 bqX7_lay_0 16 rfl rfl rfl
theorem dX7_lay_19 : decode cX7_lay 19 = .ok (.istore 4, 2) := dc54 bqX7_lay_0 19 rfl rfl
theorem dX7_lay_21 : decode cX7_lay 21 = .ok (.iload 4, 2) := dc21 bqX7_lay_0 21 rfl rfl
theorem bqX7_lay_23 : hs_bs cX7_lay 23 [153, 0, 9, 16, 246, 21, 4, 100, 172, 42, 180, 0, 50, 27, 50, 28, 29, 182, 1, 15, 4, 172] := hs_bs_of _ _ _ (by decide +kernel)
theorem dX7_lay_23 : decode cX7_lay 23 = .ok (.ifCond .eq 9, 3) := dc153 bqX7_lay_23 0 rfl rfl rfl
theorem dX7_lay_26 : decode cX7_lay 26 = .ok (.bipush (-10), 2) := dc16 bqX7_lay_23 3 rfl rfl rfl
theorem dX7_lay_28 : decode cX7_lay 28 = .ok (.iload 4, 2) := dc21 bqX7_lay_23 5 rfl rfl
theorem dX7_lay_30 : decode cX7_lay 30 = .ok (.isub, 1) := dc100 bqX7_lay_23 7 rfl rfl
theorem dX7_lay_31 : decode cX7_lay 31 = .ok (.ireturn, 1) := dc172 bqX7_lay_23 8 rfl rfl
theorem dX7_lay_32 : decode cX7_lay 32 = .ok (.aload_n 0, 1) := dc42 bqX7_lay_23 9 rfl rfl
theorem dX7_lay_33 : decode cX7_lay 33 = .ok (.getfield 50, 3) := dc180 bqX7_lay_23 10 rfl rfl rfl
theorem dX7_lay_36 : decode cX7_lay 36 = .ok (.iload_n 1, 1) := dc27 bqX7_lay_23 13 rfl rfl
theorem dX7_lay_37 : decode cX7_lay 37 = .ok (.aaload, 1) := dc50 bqX7_lay_23 14 rfl rfl
theorem dX7_lay_38 : decode cX7_lay 38 = .ok (.iload_n 2, 1) := dc28 bqX7_lay_23 15 rfl rfl
theorem dX7_lay_39 : decode cX7_lay 39 = .ok (.iload_n 3, 1) := dc29 bqX7_lay_23 16 rfl rfl
theorem dX7_lay_40 : decode cX7_lay 40 = .ok (.invokevirtual 271, 3) := dc182 bqX7_lay_23 17 rfl rfl rfl
theorem dX7_lay_43 : decode cX7_lay 43 = .ok (.iconst 1, 1) := dc4 bqX7_lay_23 20 rfl rfl
theorem dX7_lay_44 : decode cX7_lay 44 = .ok (.ireturn, 1) := dc172 bqX7_lay_23 21 rfl rfl
set_option maxRecDepth 20000 in
theorem gX7_read_X7_isSheet : GoodIn wsX7_read (va_wsS RX7 259 yX7_isSheet wsX7_isSheet) := hs_gC (hs_gS (hs_inG 4 12 rfl rfl) (hs_inG 4 13 rfl rfl) (hs_inG 1 1 rfl rfl) inC_X7_isSheet)
set_option maxRecDepth 20000 in
theorem gX7_read_X3_isLane : GoodIn wsX7_read (va_wsS RX7 262 yX3_isLane wsX3_isLane) := hs_gC (hs_gS (hs_inG 4 15 rfl rfl) (hs_inG 4 16 rfl rfl) (hs_inG 1 7 rfl rfl) inC_X3_isLane)
set_option maxRecDepth 20000 in
theorem gX7_read_X7_within : GoodIn wsX7_read (va_wsS RX7 59 yX7_within wsX7_within) := hs_gC (hs_gS (hs_inG 2 10 rfl rfl) (hs_inG 2 11 rfl rfl) (hs_inG 1 1 rfl rfl) inC_X7_within)
set_option maxRecDepth 20000 in
theorem gX7_read_X3_faultOfTwo : GoodIn wsX7_read (wsV RX7 274 RX3 yX3_faultOfTwo wsX3_faultOfTwo) := hs_gC (hs_gV (hs_inG 4 43 rfl rfl) (hs_inG 4 44 rfl rfl) (hs_inG 4 45 rfl rfl) (hs_inG 1 7 rfl rfl) inC_X3_faultOfTwo)
set_option maxRecDepth 20000 in
theorem gX7_read_X3_at : GoodIn wsX7_read (wsV RX7 277 RX3 yX3_at wsX3_at) := hs_gC (hs_gV (hs_inG 4 48 rfl rfl) (hs_inG 4 49 rfl rfl) (hs_inG 4 50 rfl rfl) (hs_inG 1 7 rfl rfl) inC_X3_at)
set_option maxRecDepth 20000 in
theorem gX7_read_X6_canWeigh : GoodIn wsX7_read (wsV RX7 137 RX6 yX6_canWeigh wsX6_canWeigh) := hs_gC (hs_gV (hs_inG 2 220 rfl rfl) (hs_inG 2 221 rfl rfl) (hs_inG 2 222 rfl rfl) (hs_inG 1 2 rfl rfl) inC_X6_canWeigh)
set_option maxRecDepth 20000 in
theorem gX7_read_X7_weigh : GoodIn wsX7_read (wsV RX7 280 RX7 yX7_weigh wsX7_weigh) := hs_gC (hs_gV (hs_inG 4 52 rfl rfl) (hs_inG 2 217 rfl rfl) (hs_inG 2 218 rfl rfl) (hs_inG 1 1 rfl rfl) inC_X7_weigh)
theorem bqX7_read_0 : hs_bs cX7_read 0 [27, 184, 1, 3, 153, 0, 21, 28, 184, 1, 6, 153, 0, 14, 21, 4, 3, 16, 20, 184, 0, 59] := hs_bs_of _ _ _ (by decide +kernel)
theorem dX7_read_0 : decode cX7_read 0 = .ok (.iload_n 1, 1) := dc27 bqX7_read_0 0 rfl rfl
theorem dX7_read_1 : decode cX7_read 1 = .ok (.invokestatic 259, 3) := dc184 bqX7_read_0 1 rfl rfl rfl
theorem dX7_read_4 : decode cX7_read 4 = .ok (.ifCond .eq 21, 3) := dc153 bqX7_read_0 4 rfl rfl rfl
theorem dX7_read_7 : decode cX7_read 7 = .ok (.iload_n 2, 1) := dc28 bqX7_read_0 7 rfl rfl
theorem dX7_read_8 : decode cX7_read 8 = .ok (.invokestatic 262, 3) := dc184 bqX7_read_0 8 rfl rfl rfl
theorem dX7_read_11 : decode cX7_read 11 = .ok (.ifCond .eq 14, 3) := dc153 bqX7_read_0 11 rfl rfl rfl
theorem dX7_read_14 : decode cX7_read 14 = .ok (.iload 4, 2) := dc21 bqX7_read_0 14 rfl rfl
theorem dX7_read_16 : decode cX7_read 16 = .ok (.iconst 0, 1) := dc3 bqX7_read_0 16 rfl rfl
theorem dX7_read_17 : decode cX7_read 17 = .ok (.bipush 20, 2) := dc16 bqX7_read_0 17 rfl rfl rfl
theorem dX7_read_19 : decode cX7_read 19 = .ok (.invokestatic 59, 3) := dc184 bqX7_read_0 19 rfl rfl rfl
theorem bqX7_read_22 : hs_bs cX7_read 22 [154, 0, 5, 2, 172, 42, 180, 0, 50, 27, 50, 58, 5, 3, 54, 6, 3, 54, 7, 3, 54, 8, 21, 8] := hs_bs_of _ _ _ (by decide +kernel)
theorem dX7_read_22 : decode cX7_read 22 = .ok (.ifCond .ne 5, 3) := dc154 bqX7_read_22 0 rfl rfl rfl
theorem dX7_read_25 : decode cX7_read 25 = .ok (.iconst (-1), 1) := dc2 bqX7_read_22 3 rfl rfl
theorem dX7_read_26 : decode cX7_read 26 = .ok (.ireturn, 1) := dc172 bqX7_read_22 4 rfl rfl
theorem dX7_read_27 : decode cX7_read 27 = .ok (.aload_n 0, 1) := dc42 bqX7_read_22 5 rfl rfl
theorem dX7_read_28 : decode cX7_read 28 = .ok (.getfield 50, 3) := dc180 bqX7_read_22 6 rfl rfl rfl
theorem dX7_read_31 : decode cX7_read 31 = .ok (.iload_n 1, 1) := dc27 bqX7_read_22 9 rfl rfl
theorem dX7_read_32 : decode cX7_read 32 = .ok (.aaload, 1) := dc50 bqX7_read_22 10 rfl rfl
theorem dX7_read_33 : decode cX7_read 33 = .ok (.astore 5, 2) := dc58 bqX7_read_22 11 rfl rfl
theorem dX7_read_35 : decode cX7_read 35 = .ok (.iconst 0, 1) := dc3 bqX7_read_22 13 rfl rfl
theorem dX7_read_36 : decode cX7_read 36 = .ok (.istore 6, 2) := dc54 bqX7_read_22 14 rfl rfl
theorem dX7_read_38 : decode cX7_read 38 = .ok (.iconst 0, 1) := dc3 bqX7_read_22 16 rfl rfl
theorem dX7_read_39 : decode cX7_read 39 = .ok (.istore 7, 2) := dc54 bqX7_read_22 17 rfl rfl
theorem dX7_read_41 : decode cX7_read 41 = .ok (.iconst 0, 1) := dc3 bqX7_read_22 19 rfl rfl
theorem dX7_read_42 : decode cX7_read 42 = .ok (.istore 8, 2) := dc54 bqX7_read_22 20 rfl rfl
theorem dX7_read_44 : decode cX7_read 44 = .ok (.iload 8, 2) := dc21 bqX7_read_22 22 rfl rfl
theorem bqX7_read_46 : hs_bs cX7_read 46 [21, 4, 162, 0, 76, 21, 6, 154, 0, 71, 25, 5, 28, 29, 5, 21, 8, 104, 96, 182, 1, 18, 54, 6] := hs_bs_of _ _ _ (by decide +kernel)
theorem dX7_read_46 : decode cX7_read 46 = .ok (.iload 4, 2) := dc21 bqX7_read_46 0 rfl rfl
theorem dX7_read_48 : decode cX7_read 48 = .ok (.if_icmp .ge 76, 3) := dc162 bqX7_read_46 2 rfl rfl rfl
theorem dX7_read_51 : decode cX7_read 51 = .ok (.iload 6, 2) := dc21 bqX7_read_46 5 rfl rfl
theorem dX7_read_53 : decode cX7_read 53 = .ok (.ifCond .ne 71, 3) := dc154 bqX7_read_46 7 rfl rfl rfl
theorem dX7_read_56 : decode cX7_read 56 = .ok (.aload 5, 2) := dc25 bqX7_read_46 10 rfl rfl
theorem dX7_read_58 : decode cX7_read 58 = .ok (.iload_n 2, 1) := dc28 bqX7_read_46 12 rfl rfl
theorem dX7_read_59 : decode cX7_read 59 = .ok (.iload_n 3, 1) := dc29 bqX7_read_46 13 rfl rfl
theorem dX7_read_60 : decode cX7_read 60 = .ok (.iconst 2, 1) := dc5 bqX7_read_46 14 rfl rfl
theorem dX7_read_61 : decode cX7_read 61 = .ok (.iload 8, 2) := dc21 bqX7_read_46 15 rfl rfl
theorem dX7_read_63 : decode cX7_read 63 = .ok (.imul, 1) := dc104 bqX7_read_46 17 rfl rfl
theorem dX7_read_64 : decode cX7_read 64 = .ok (.iadd, 1) := dc96 bqX7_read_46 18 rfl rfl
theorem dX7_read_65 : decode cX7_read 65 = .ok (.invokevirtual 274, 3) := dc182 bqX7_read_46 19 rfl rfl rfl
theorem dX7_read_68 : decode cX7_read 68 = .ok (.istore 6, 2) := dc54 bqX7_read_46 22 rfl rfl
theorem bqX7_read_70 : hs_bs cX7_read 70 [21, 6, 154, 0, 46, 42, 180, 0, 10, 25, 5, 29, 5, 21, 8, 104, 96, 182, 1, 21, 25, 5, 29, 5] := hs_bs_of _ _ _ (by decide +kernel)
theorem dX7_read_70 : decode cX7_read 70 = .ok (.iload 6, 2) := dc21 bqX7_read_70 0 rfl rfl
theorem dX7_read_72 : decode cX7_read 72 = .ok (.ifCond .ne 46, 3) := dc154 bqX7_read_70 2 rfl rfl rfl
theorem dX7_read_75 : decode cX7_read 75 = .ok (.aload_n 0, 1) := dc42 bqX7_read_70 5 rfl rfl
theorem dX7_read_76 : decode cX7_read 76 = .ok (.getfield 10, 3) := dc180 bqX7_read_70 6 rfl rfl rfl
theorem dX7_read_79 : decode cX7_read 79 = .ok (.aload 5, 2) := dc25 bqX7_read_70 9 rfl rfl
theorem dX7_read_81 : decode cX7_read 81 = .ok (.iload_n 3, 1) := dc29 bqX7_read_70 11 rfl rfl
theorem dX7_read_82 : decode cX7_read 82 = .ok (.iconst 2, 1) := dc5 bqX7_read_70 12 rfl rfl
theorem dX7_read_83 : decode cX7_read 83 = .ok (.iload 8, 2) := dc21 bqX7_read_70 13 rfl rfl
theorem dX7_read_85 : decode cX7_read 85 = .ok (.imul, 1) := dc104 bqX7_read_70 15 rfl rfl
theorem dX7_read_86 : decode cX7_read 86 = .ok (.iadd, 1) := dc96 bqX7_read_70 16 rfl rfl
theorem dX7_read_87 : decode cX7_read 87 = .ok (.invokevirtual 277, 3) := dc182 bqX7_read_70 17 rfl rfl rfl
theorem dX7_read_90 : decode cX7_read 90 = .ok (.aload 5, 2) := dc25 bqX7_read_70 20 rfl rfl
theorem dX7_read_92 : decode cX7_read 92 = .ok (.iload_n 3, 1) := dc29 bqX7_read_70 22 rfl rfl
theorem dX7_read_93 : decode cX7_read 93 = .ok (.iconst 2, 1) := dc5 bqX7_read_70 23 rfl rfl
theorem bqX7_read_94 : hs_bs cX7_read 94 [21, 8, 104, 96, 4, 96, 182, 1, 21, 182, 0, 137, 154, 0, 9, 16, 236, 21, 8, 100, 172, 132, 7, 1] := hs_bs_of _ _ _ (by decide +kernel)
theorem dX7_read_94 : decode cX7_read 94 = .ok (.iload 8, 2) := dc21 bqX7_read_94 0 rfl rfl
theorem dX7_read_96 : decode cX7_read 96 = .ok (.imul, 1) := dc104 bqX7_read_94 2 rfl rfl
theorem dX7_read_97 : decode cX7_read 97 = .ok (.iadd, 1) := dc96 bqX7_read_94 3 rfl rfl
theorem dX7_read_98 : decode cX7_read 98 = .ok (.iconst 1, 1) := dc4 bqX7_read_94 4 rfl rfl
theorem dX7_read_99 : decode cX7_read 99 = .ok (.iadd, 1) := dc96 bqX7_read_94 5 rfl rfl
theorem dX7_read_100 : decode cX7_read 100 = .ok (.invokevirtual 277, 3) := dc182 bqX7_read_94 6 rfl rfl rfl
theorem dX7_read_103 : decode cX7_read 103 = .ok (.invokevirtual 137, 3) := dc182 bqX7_read_94 9 rfl rfl rfl
theorem dX7_read_106 : decode cX7_read 106 = .ok (.ifCond .ne 9, 3) := dc154 bqX7_read_94 12 rfl rfl rfl
theorem dX7_read_109 : decode cX7_read 109 = .ok (.bipush (-20), 2) := dc16 bqX7_read_94 15 rfl rfl rfl
theorem dX7_read_111 : decode cX7_read 111 = .ok (.iload 8, 2) := dc21 bqX7_read_94 17 rfl rfl
theorem dX7_read_113 : decode cX7_read 113 = .ok (.isub, 1) := dc100 bqX7_read_94 19 rfl rfl
theorem dX7_read_114 : decode cX7_read 114 = .ok (.ireturn, 1) := dc172 bqX7_read_94 20 rfl rfl
theorem dX7_read_115 : decode cX7_read 115 = .ok (.iinc 7 1, 3) := dc132 bqX7_read_94 21 rfl rfl rfl
theorem bqX7_read_118 : hs_bs cX7_read 118 [132, 8, 1, 167, 255, 179, 3, 54, 8, 21, 8, 21, 7, 162, 0, 38, 42, 25, 5, 29, 5, 21, 8, 104] := hs_bs_of _ _ _ (by decide +kernel)
theorem dX7_read_118 : decode cX7_read 118 = .ok (.iinc 8 1, 3) := dc132 bqX7_read_118 0 rfl rfl rfl
theorem dX7_read_121 : decode cX7_read 121 = .ok (.goto (-77), 3) := dc167 bqX7_read_118 3 rfl rfl rfl
theorem dX7_read_124 : decode cX7_read 124 = .ok (.iconst 0, 1) := dc3 bqX7_read_118 6 rfl rfl
theorem dX7_read_125 : decode cX7_read 125 = .ok (.istore 8, 2) := dc54 bqX7_read_118 7 rfl rfl
theorem dX7_read_127 : decode cX7_read 127 = .ok (.iload 8, 2) := dc21 bqX7_read_118 9 rfl rfl
theorem dX7_read_129 : decode cX7_read 129 = .ok (.iload 7, 2) := dc21 bqX7_read_118 11 rfl rfl
theorem dX7_read_131 : decode cX7_read 131 = .ok (.if_icmp .ge 38, 3) := dc162 bqX7_read_118 13 rfl rfl rfl
theorem dX7_read_134 : decode cX7_read 134 = .ok (.aload_n 0, 1) := dc42 bqX7_read_118 16 rfl rfl
theorem dX7_read_135 : decode cX7_read 135 = .ok (.aload 5, 2) := dc25 bqX7_read_118 17 rfl rfl
theorem dX7_read_137 : decode cX7_read 137 = .ok (.iload_n 3, 1) := dc29 bqX7_read_118 19 rfl rfl
theorem dX7_read_138 : decode cX7_read 138 = .ok (.iconst 2, 1) := dc5 bqX7_read_118 20 rfl rfl
theorem dX7_read_139 : decode cX7_read 139 = .ok (.iload 8, 2) := dc21 bqX7_read_118 21 rfl rfl
theorem dX7_read_141 : decode cX7_read 141 = .ok (.imul, 1) := dc104 bqX7_read_118 23 rfl rfl
theorem bqX7_read_142 : hs_bs cX7_read 142 [96, 182, 1, 21, 25, 5, 29, 5, 21, 8, 104, 96, 4, 96, 182, 1, 21, 182, 1, 24, 87, 132, 8, 1] := hs_bs_of _ _ _ (by decide +kernel)
theorem dX7_read_142 : decode cX7_read 142 = .ok (.iadd, 1) := dc96 bqX7_read_142 0 rfl rfl
theorem dX7_read_143 : decode cX7_read 143 = .ok (.invokevirtual 277, 3) := dc182 bqX7_read_142 1 rfl rfl rfl
theorem dX7_read_146 : decode cX7_read 146 = .ok (.aload 5, 2) := dc25 bqX7_read_142 4 rfl rfl
theorem dX7_read_148 : decode cX7_read 148 = .ok (.iload_n 3, 1) := dc29 bqX7_read_142 6 rfl rfl
theorem dX7_read_149 : decode cX7_read 149 = .ok (.iconst 2, 1) := dc5 bqX7_read_142 7 rfl rfl
theorem dX7_read_150 : decode cX7_read 150 = .ok (.iload 8, 2) := dc21 bqX7_read_142 8 rfl rfl
theorem dX7_read_152 : decode cX7_read 152 = .ok (.imul, 1) := dc104 bqX7_read_142 10 rfl rfl
theorem dX7_read_153 : decode cX7_read 153 = .ok (.iadd, 1) := dc96 bqX7_read_142 11 rfl rfl
theorem dX7_read_154 : decode cX7_read 154 = .ok (.iconst 1, 1) := dc4 bqX7_read_142 12 rfl rfl
theorem dX7_read_155 : decode cX7_read 155 = .ok (.iadd, 1) := dc96 bqX7_read_142 13 rfl rfl
theorem dX7_read_156 : decode cX7_read 156 = .ok (.invokevirtual 277, 3) := dc182 bqX7_read_142 14 rfl rfl rfl
theorem dX7_read_159 : decode cX7_read 159 = .ok (.invokevirtual 280, 3) := dc182 bqX7_read_142 17 rfl rfl rfl
theorem dX7_read_162 : decode cX7_read 162 = .ok (.pop, 1) := dc87 bqX7_read_142 20 rfl rfl
theorem dX7_read_163 : decode cX7_read 163 = .ok (.iinc 8 1, 3) := dc132 bqX7_read_142 21 rfl rfl rfl
theorem bqX7_read_166 : hs_bs cX7_read 166 [167, 255, 217, 42, 21, 6, 181, 1, 27, 21, 7, 172] := hs_bs_of _ _ _ (by decide +kernel)
theorem dX7_read_166 : decode cX7_read 166 = .ok (.goto (-39), 3) := dc167 bqX7_read_166 0 rfl rfl rfl
theorem dX7_read_169 : decode cX7_read 169 = .ok (.aload_n 0, 1) := dc42 bqX7_read_166 3 rfl rfl
theorem dX7_read_170 : decode cX7_read 170 = .ok (.iload 6, 2) := dc21 bqX7_read_166 4 rfl rfl
theorem dX7_read_172 : decode cX7_read 172 = .ok (.putfield 283, 3) := dc181 bqX7_read_166 6 rfl rfl rfl
theorem dX7_read_175 : decode cX7_read 175 = .ok (.iload 7, 2) := dc21 bqX7_read_166 9 rfl rfl
theorem dX7_read_177 : decode cX7_read 177 = .ok (.ireturn, 1) := dc172 bqX7_read_166 11 rfl rfl
theorem bqX7_torn_0 : hs_bs cX7_torn 0 [42, 180, 1, 27, 172] := hs_bs_of _ _ _ (by decide +kernel)
theorem dX7_torn_0 : decode cX7_torn 0 = .ok (.aload_n 0, 1) := dc42 bqX7_torn_0 0 rfl rfl
theorem dX7_torn_1 : decode cX7_torn 1 = .ok (.getfield 283, 3) := dc180 bqX7_torn_0 1 rfl rfl rfl
theorem dX7_torn_4 : decode cX7_torn 4 = .ok (.ireturn, 1) := dc172 bqX7_torn_0 4 rfl rfl
set_option maxRecDepth 20000 in
theorem gX7_count_X7_imagesThere : GoodIn wsX7_count (wsV RX7 286 RX7 yX7_imagesThere wsX7_imagesThere) := hs_gC (hs_gV (hs_inG 4 61 rfl rfl) (hs_inG 4 63 rfl rfl) (hs_inG 0 16 rfl rfl) (hs_inG 1 1 rfl rfl) inC_X7_imagesThere)
set_option maxRecDepth 20000 in
theorem gX7_count_X3_isNothing : GoodIn wsX7_count (wsV RX7 289 RX3 yX3_isNothing wsX3_isNothing) := hs_gC (hs_gV (hs_inG 4 65 rfl rfl) (hs_inG 4 32 rfl rfl) (hs_inG 4 33 rfl rfl) (hs_inG 1 7 rfl rfl) inC_X3_isNothing)
theorem bqX7_count_0 : hs_bs cX7_count 0 [27] := hs_bs_of _ _ _ (by decide +kernel)
theorem dX7_count_0 : decode cX7_count 0 = .ok (.iload_n 1, 1) := dc27 bqX7_count_0 0 rfl rfl
theorem dX7_count_1 : decode cX7_count 1 = .ok (.tableswitch 82 0 3 #[31, 39, 44, 55], 31) := by decide +kernel
theorem bqX7_count_32 : hs_bs cX7_count 32 [42, 180, 0, 10, 180, 0, 244, 172, 42, 182, 1, 30, 172, 42, 180, 0, 30, 180, 0, 55, 180, 0, 63, 172] := hs_bs_of _ _ _ (by decide +kernel)
theorem dX7_count_32 : decode cX7_count 32 = .ok (.aload_n 0, 1) := dc42 bqX7_count_32 0 rfl rfl
theorem dX7_count_33 : decode cX7_count 33 = .ok (.getfield 10, 3) := dc180 bqX7_count_32 1 rfl rfl rfl
theorem dX7_count_36 : decode cX7_count 36 = .ok (.getfield 244, 3) := dc180 bqX7_count_32 4 rfl rfl rfl
theorem dX7_count_39 : decode cX7_count 39 = .ok (.ireturn, 1) := dc172 bqX7_count_32 7 rfl rfl
theorem dX7_count_40 : decode cX7_count 40 = .ok (.aload_n 0, 1) := dc42 bqX7_count_32 8 rfl rfl
theorem dX7_count_41 : decode cX7_count 41 = .ok (.invokevirtual 286, 3) := dc182 bqX7_count_32 9 rfl rfl rfl
theorem dX7_count_44 : decode cX7_count 44 = .ok (.ireturn, 1) := dc172 bqX7_count_32 12 rfl rfl
theorem dX7_count_45 : decode cX7_count 45 = .ok (.aload_n 0, 1) := dc42 bqX7_count_32 13 rfl rfl
theorem dX7_count_46 : decode cX7_count 46 = .ok (.getfield 30, 3) := dc180 bqX7_count_32 14 rfl rfl rfl
theorem dX7_count_49 : decode cX7_count 49 = .ok (.getfield 55, 3) := dc180 bqX7_count_32 17 rfl rfl rfl
theorem dX7_count_52 : decode cX7_count 52 = .ok (.getfield 63, 3) := dc180 bqX7_count_32 20 rfl rfl rfl
theorem dX7_count_55 : decode cX7_count 55 = .ok (.ireturn, 1) := dc172 bqX7_count_32 23 rfl rfl
theorem bqX7_count_56 : hs_bs cX7_count 56 [42, 180, 0, 50, 3, 50, 182, 1, 33, 153, 0, 8, 16, 252, 167, 0, 12, 42, 180, 0, 50, 3, 50] := hs_bs_of _ _ _ (by decide +kernel)
theorem dX7_count_56 : decode cX7_count 56 = .ok (.aload_n 0, 1) := dc42 bqX7_count_56 0 rfl rfl
theorem dX7_count_57 : decode cX7_count 57 = .ok (.getfield 50, 3) := dc180 bqX7_count_56 1 rfl rfl rfl
theorem dX7_count_60 : decode cX7_count 60 = .ok (.iconst 0, 1) := dc3 bqX7_count_56 4 rfl rfl
theorem dX7_count_61 : decode cX7_count 61 = .ok (.aaload, 1) := dc50 bqX7_count_56 5 rfl rfl
theorem dX7_count_62 : decode cX7_count 62 = .ok (.invokevirtual 289, 3) := dc182 bqX7_count_56 6 rfl rfl rfl
theorem dX7_count_65 : decode cX7_count 65 = .ok (.ifCond .eq 8, 3) := dc153 bqX7_count_56 9 rfl rfl rfl
theorem dX7_count_68 : decode cX7_count 68 = .ok (.bipush (-4), 2) := dc16 bqX7_count_56 12 rfl rfl rfl
theorem dX7_count_70 : decode cX7_count 70 = .ok (.goto 12, 3) := dc167 bqX7_count_56 14 rfl rfl rfl
theorem dX7_count_73 : decode cX7_count 73 = .ok (.aload_n 0, 1) := dc42 bqX7_count_56 17 rfl rfl
theorem dX7_count_74 : decode cX7_count 74 = .ok (.getfield 50, 3) := dc180 bqX7_count_56 18 rfl rfl rfl
theorem dX7_count_77 : decode cX7_count 77 = .ok (.iconst 0, 1) := dc3 bqX7_count_56 21 rfl rfl
theorem dX7_count_78 : decode cX7_count 78 = .ok (.aaload, 1) := dc50 bqX7_count_56 22 rfl rfl
theorem bqX7_count_79 : hs_bs cX7_count 79 [180, 1, 36, 172, 2, 172] := hs_bs_of _ _ _ (by decide +kernel)
theorem dX7_count_79 : decode cX7_count 79 = .ok (.getfield 292, 3) := dc180 bqX7_count_79 0 rfl rfl rfl
theorem dX7_count_82 : decode cX7_count 82 = .ok (.ireturn, 1) := dc172 bqX7_count_79 3 rfl rfl
theorem dX7_count_83 : decode cX7_count 83 = .ok (.iconst (-1), 1) := dc2 bqX7_count_79 4 rfl rfl
theorem dX7_count_84 : decode cX7_count 84 = .ok (.ireturn, 1) := dc172 bqX7_count_79 5 rfl rfl
theorem bqX7_imagesThere_0 : hs_bs cX7_imagesThere 0 [3, 60, 3, 61, 28, 5, 162, 0, 21, 42, 180, 0, 23, 28, 51, 153, 0, 6, 132, 1, 1, 132, 2, 1] := hs_bs_of _ _ _ (by decide +kernel)
theorem dX7_imagesThere_0 : decode cX7_imagesThere 0 = .ok (.iconst 0, 1) := dc3 bqX7_imagesThere_0 0 rfl rfl
theorem dX7_imagesThere_1 : decode cX7_imagesThere 1 = .ok (.istore_n 1, 1) := dc60 bqX7_imagesThere_0 1 rfl rfl
theorem dX7_imagesThere_2 : decode cX7_imagesThere 2 = .ok (.iconst 0, 1) := dc3 bqX7_imagesThere_0 2 rfl rfl
theorem dX7_imagesThere_3 : decode cX7_imagesThere 3 = .ok (.istore_n 2, 1) := dc61 bqX7_imagesThere_0 3 rfl rfl
theorem dX7_imagesThere_4 : decode cX7_imagesThere 4 = .ok (.iload_n 2, 1) := dc28 bqX7_imagesThere_0 4 rfl rfl
theorem dX7_imagesThere_5 : decode cX7_imagesThere 5 = .ok (.iconst 2, 1) := dc5 bqX7_imagesThere_0 5 rfl rfl
theorem dX7_imagesThere_6 : decode cX7_imagesThere 6 = .ok (.if_icmp .ge 21, 3) := dc162 bqX7_imagesThere_0 6 rfl rfl rfl
theorem dX7_imagesThere_9 : decode cX7_imagesThere 9 = .ok (.aload_n 0, 1) := dc42 bqX7_imagesThere_0 9 rfl rfl
theorem dX7_imagesThere_10 : decode cX7_imagesThere 10 = .ok (.getfield 23, 3) := dc180 bqX7_imagesThere_0 10 rfl rfl rfl
theorem dX7_imagesThere_13 : decode cX7_imagesThere 13 = .ok (.iload_n 2, 1) := dc28 bqX7_imagesThere_0 13 rfl rfl
theorem dX7_imagesThere_14 : decode cX7_imagesThere 14 = .ok (.baload, 1) := dc51 bqX7_imagesThere_0 14 rfl rfl
theorem dX7_imagesThere_15 : decode cX7_imagesThere 15 = .ok (.ifCond .eq 6, 3) := dc153 bqX7_imagesThere_0 15 rfl rfl rfl
theorem dX7_imagesThere_18 : decode cX7_imagesThere 18 = .ok (.iinc 1 1, 3) := dc132 bqX7_imagesThere_0 18 rfl rfl rfl
theorem dX7_imagesThere_21 : decode cX7_imagesThere 21 = .ok (.iinc 2 1, 3) := dc132 bqX7_imagesThere_0 21 rfl rfl rfl
theorem bqX7_imagesThere_24 : hs_bs cX7_imagesThere 24 [167, 255, 236, 27, 172] := hs_bs_of _ _ _ (by decide +kernel)
theorem dX7_imagesThere_24 : decode cX7_imagesThere 24 = .ok (.goto (-20), 3) := dc167 bqX7_imagesThere_24 0 rfl rfl rfl
theorem dX7_imagesThere_27 : decode cX7_imagesThere 27 = .ok (.iload_n 1, 1) := dc27 bqX7_imagesThere_24 3 rfl rfl
theorem dX7_imagesThere_28 : decode cX7_imagesThere 28 = .ok (.ireturn, 1) := dc172 bqX7_imagesThere_24 4 rfl rfl
set_option maxRecDepth 20000 in
theorem gX7_areTwo_X6_isPerson : GoodIn wsX7_areTwo (wsV RX7 125 RX6 yX6_isPerson wsX6_isPerson) := hs_gC (hs_gV (hs_inG 2 208 rfl rfl) (hs_inG 2 209 rfl rfl) (hs_inG 2 210 rfl rfl) (hs_inG 1 2 rfl rfl) inC_X6_isPerson)
theorem bqX7_areTwo_0 : hs_bs cX7_areTwo 0 [42, 180, 0, 10, 27, 182, 0, 125, 153, 0, 23, 42, 180, 0, 10, 28, 182, 0, 125, 153, 0, 12, 27, 28] := hs_bs_of _ _ _ (by decide +kernel)
theorem dX7_areTwo_0 : decode cX7_areTwo 0 = .ok (.aload_n 0, 1) := dc42 bqX7_areTwo_0 0 rfl rfl
theorem dX7_areTwo_1 : decode cX7_areTwo 1 = .ok (.getfield 10, 3) := dc180 bqX7_areTwo_0 1 rfl rfl rfl
theorem dX7_areTwo_4 : decode cX7_areTwo 4 = .ok (.iload_n 1, 1) := dc27 bqX7_areTwo_0 4 rfl rfl
theorem dX7_areTwo_5 : decode cX7_areTwo 5 = .ok (.invokevirtual 125, 3) := dc182 bqX7_areTwo_0 5 rfl rfl rfl
theorem dX7_areTwo_8 : decode cX7_areTwo 8 = .ok (.ifCond .eq 23, 3) := dc153 bqX7_areTwo_0 8 rfl rfl rfl
theorem dX7_areTwo_11 : decode cX7_areTwo 11 = .ok (.aload_n 0, 1) := dc42 bqX7_areTwo_0 11 rfl rfl
theorem dX7_areTwo_12 : decode cX7_areTwo 12 = .ok (.getfield 10, 3) := dc180 bqX7_areTwo_0 12 rfl rfl rfl
theorem dX7_areTwo_15 : decode cX7_areTwo 15 = .ok (.iload_n 2, 1) := dc28 bqX7_areTwo_0 15 rfl rfl
theorem dX7_areTwo_16 : decode cX7_areTwo 16 = .ok (.invokevirtual 125, 3) := dc182 bqX7_areTwo_0 16 rfl rfl rfl
theorem dX7_areTwo_19 : decode cX7_areTwo 19 = .ok (.ifCond .eq 12, 3) := dc153 bqX7_areTwo_0 19 rfl rfl rfl
theorem dX7_areTwo_22 : decode cX7_areTwo 22 = .ok (.iload_n 1, 1) := dc27 bqX7_areTwo_0 22 rfl rfl
theorem dX7_areTwo_23 : decode cX7_areTwo 23 = .ok (.iload_n 2, 1) := dc28 bqX7_areTwo_0 23 rfl rfl
theorem bqX7_areTwo_24 : hs_bs cX7_areTwo 24 [159, 0, 7, 4, 167, 0, 4, 3, 172] := hs_bs_of _ _ _ (by decide +kernel)
theorem dX7_areTwo_24 : decode cX7_areTwo 24 = .ok (.if_icmp .eq 7, 3) := dc159 bqX7_areTwo_24 0 rfl rfl rfl
theorem dX7_areTwo_27 : decode cX7_areTwo 27 = .ok (.iconst 1, 1) := dc4 bqX7_areTwo_24 3 rfl rfl
theorem dX7_areTwo_28 : decode cX7_areTwo 28 = .ok (.goto 4, 3) := dc167 bqX7_areTwo_24 4 rfl rfl rfl
theorem dX7_areTwo_31 : decode cX7_areTwo 31 = .ok (.iconst 0, 1) := dc3 bqX7_areTwo_24 7 rfl rfl
theorem dX7_areTwo_32 : decode cX7_areTwo 32 = .ok (.ireturn, 1) := dc172 bqX7_areTwo_24 8 rfl rfl
set_option maxRecDepth 20000 in
theorem gX7_isTrial_X7_within : GoodIn wsX7_isTrial (va_wsS RX7 59 yX7_within wsX7_within) := hs_gC (hs_gS (hs_inG 2 10 rfl rfl) (hs_inG 2 11 rfl rfl) (hs_inG 1 1 rfl rfl) inC_X7_within)
set_option maxRecDepth 20000 in
theorem gX7_isTrial_X6_isCut : GoodIn wsX7_isTrial (wsV RX7 172 RX6 yX6_isCut wsX6_isCut) := hs_gC (hs_gV (hs_inG 3 52 rfl rfl) (hs_inG 3 53 rfl rfl) (hs_inG 3 54 rfl rfl) (hs_inG 1 2 rfl rfl) inC_X6_isCut)
theorem bqX7_isTrial_0 : hs_bs cX7_isTrial 0 [27, 3, 16, 10, 184, 0, 59, 153, 0, 27, 42, 180, 0, 10, 28, 182, 0, 172, 153, 0, 16, 29, 3, 4] := hs_bs_of _ _ _ (by decide +kernel)
theorem dX7_isTrial_0 : decode cX7_isTrial 0 = .ok (.iload_n 1, 1) := dc27 bqX7_isTrial_0 0 rfl rfl
theorem dX7_isTrial_1 : decode cX7_isTrial 1 = .ok (.iconst 0, 1) := dc3 bqX7_isTrial_0 1 rfl rfl
theorem dX7_isTrial_2 : decode cX7_isTrial 2 = .ok (.bipush 10, 2) := dc16 bqX7_isTrial_0 2 rfl rfl rfl
theorem dX7_isTrial_4 : decode cX7_isTrial 4 = .ok (.invokestatic 59, 3) := dc184 bqX7_isTrial_0 4 rfl rfl rfl
theorem dX7_isTrial_7 : decode cX7_isTrial 7 = .ok (.ifCond .eq 27, 3) := dc153 bqX7_isTrial_0 7 rfl rfl rfl
theorem dX7_isTrial_10 : decode cX7_isTrial 10 = .ok (.aload_n 0, 1) := dc42 bqX7_isTrial_0 10 rfl rfl
theorem dX7_isTrial_11 : decode cX7_isTrial 11 = .ok (.getfield 10, 3) := dc180 bqX7_isTrial_0 11 rfl rfl rfl
theorem dX7_isTrial_14 : decode cX7_isTrial 14 = .ok (.iload_n 2, 1) := dc28 bqX7_isTrial_0 14 rfl rfl
theorem dX7_isTrial_15 : decode cX7_isTrial 15 = .ok (.invokevirtual 172, 3) := dc182 bqX7_isTrial_0 15 rfl rfl rfl
theorem dX7_isTrial_18 : decode cX7_isTrial 18 = .ok (.ifCond .eq 16, 3) := dc153 bqX7_isTrial_0 18 rfl rfl rfl
theorem dX7_isTrial_21 : decode cX7_isTrial 21 = .ok (.iload_n 3, 1) := dc29 bqX7_isTrial_0 21 rfl rfl
theorem dX7_isTrial_22 : decode cX7_isTrial 22 = .ok (.iconst 0, 1) := dc3 bqX7_isTrial_0 22 rfl rfl
theorem dX7_isTrial_23 : decode cX7_isTrial 23 = .ok (.iconst 1, 1) := dc4 bqX7_isTrial_0 23 rfl rfl
theorem bqX7_isTrial_24 : hs_bs cX7_isTrial 24 [184, 0, 59, 153, 0, 7, 4, 167, 0, 4, 3, 172] := hs_bs_of _ _ _ (by decide +kernel)
theorem dX7_isTrial_24 : decode cX7_isTrial 24 = .ok (.invokestatic 59, 3) := dc184 bqX7_isTrial_24 0 rfl rfl rfl
theorem dX7_isTrial_27 : decode cX7_isTrial 27 = .ok (.ifCond .eq 7, 3) := dc153 bqX7_isTrial_24 3 rfl rfl rfl
theorem dX7_isTrial_30 : decode cX7_isTrial 30 = .ok (.iconst 1, 1) := dc4 bqX7_isTrial_24 6 rfl rfl
theorem dX7_isTrial_31 : decode cX7_isTrial 31 = .ok (.goto 4, 3) := dc167 bqX7_isTrial_24 7 rfl rfl rfl
theorem dX7_isTrial_34 : decode cX7_isTrial 34 = .ok (.iconst 0, 1) := dc3 bqX7_isTrial_24 10 rfl rfl
theorem dX7_isTrial_35 : decode cX7_isTrial 35 = .ok (.ireturn, 1) := dc172 bqX7_isTrial_24 11 rfl rfl
set_option maxRecDepth 20000 in
theorem gX7_isSheet_X7_within : GoodIn wsX7_isSheet (va_wsS RX7 59 yX7_within wsX7_within) := hs_gC (hs_gS (hs_inG 2 10 rfl rfl) (hs_inG 2 11 rfl rfl) (hs_inG 1 1 rfl rfl) inC_X7_within)
theorem bqX7_isSheet_0 : hs_bs cX7_isSheet 0 [26, 3, 6, 184, 0, 59, 172] := hs_bs_of _ _ _ (by decide +kernel)
theorem dX7_isSheet_0 : decode cX7_isSheet 0 = .ok (.iload_n 0, 1) := dc26 bqX7_isSheet_0 0 rfl rfl
theorem dX7_isSheet_1 : decode cX7_isSheet 1 = .ok (.iconst 0, 1) := dc3 bqX7_isSheet_0 1 rfl rfl
theorem dX7_isSheet_2 : decode cX7_isSheet 2 = .ok (.iconst 3, 1) := dc6 bqX7_isSheet_0 2 rfl rfl
theorem dX7_isSheet_3 : decode cX7_isSheet 3 = .ok (.invokestatic 59, 3) := dc184 bqX7_isSheet_0 3 rfl rfl rfl
theorem dX7_isSheet_6 : decode cX7_isSheet 6 = .ok (.ireturn, 1) := dc172 bqX7_isSheet_0 6 rfl rfl
theorem bqX7_within_0 : hs_bs cX7_within 0 [26, 27, 161, 0, 12, 26, 28, 163, 0, 7, 4, 167, 0, 4, 3, 172] := hs_bs_of _ _ _ (by decide +kernel)
theorem dX7_within_0 : decode cX7_within 0 = .ok (.iload_n 0, 1) := dc26 bqX7_within_0 0 rfl rfl
theorem dX7_within_1 : decode cX7_within 1 = .ok (.iload_n 1, 1) := dc27 bqX7_within_0 1 rfl rfl
theorem dX7_within_2 : decode cX7_within 2 = .ok (.if_icmp .lt 12, 3) := dc161 bqX7_within_0 2 rfl rfl rfl
theorem dX7_within_5 : decode cX7_within 5 = .ok (.iload_n 0, 1) := dc26 bqX7_within_0 5 rfl rfl
theorem dX7_within_6 : decode cX7_within 6 = .ok (.iload_n 2, 1) := dc28 bqX7_within_0 6 rfl rfl
theorem dX7_within_7 : decode cX7_within 7 = .ok (.if_icmp .gt 7, 3) := dc163 bqX7_within_0 7 rfl rfl rfl
theorem dX7_within_10 : decode cX7_within 10 = .ok (.iconst 1, 1) := dc4 bqX7_within_0 10 rfl rfl
theorem dX7_within_11 : decode cX7_within 11 = .ok (.goto 4, 3) := dc167 bqX7_within_0 11 rfl rfl rfl
theorem dX7_within_14 : decode cX7_within 14 = .ok (.iconst 0, 1) := dc3 bqX7_within_0 14 rfl rfl
theorem dX7_within_15 : decode cX7_within 15 = .ok (.ireturn, 1) := dc172 bqX7_within_0 15 rfl rfl
theorem bqX7_halfUp_0 : hs_bs cX7_halfUp 0 [26, 4, 96, 5, 108, 172] := hs_bs_of _ _ _ (by decide +kernel)
theorem dX7_halfUp_0 : decode cX7_halfUp 0 = .ok (.iload_n 0, 1) := dc26 bqX7_halfUp_0 0 rfl rfl
theorem dX7_halfUp_1 : decode cX7_halfUp 1 = .ok (.iconst 1, 1) := dc4 bqX7_halfUp_0 1 rfl rfl
theorem dX7_halfUp_2 : decode cX7_halfUp 2 = .ok (.iadd, 1) := dc96 bqX7_halfUp_0 2 rfl rfl
theorem dX7_halfUp_3 : decode cX7_halfUp 3 = .ok (.iconst 2, 1) := dc5 bqX7_halfUp_0 3 rfl rfl
theorem dX7_halfUp_4 : decode cX7_halfUp 4 = .ok (.idiv, 1) := dc108 bqX7_halfUp_0 4 rfl rfl
theorem dX7_halfUp_5 : decode cX7_halfUp 5 = .ok (.ireturn, 1) := dc172 bqX7_halfUp_0 5 rfl rfl
set_option maxRecDepth 20000 in
theorem gX8_init_X8_firstDraft : GoodIn wsX8_init (wsV RX8 44 RX8 yX8_firstDraft wsX8_firstDraft) := hs_gC (hs_gV (hs_inG 4 72 rfl rfl) (hs_inG 4 74 rfl rfl) (hs_inG 0 17 rfl rfl) (hs_inG 1 8 rfl rfl) inC_X8_firstDraft)
set_option maxRecDepth 20000 in
theorem gX8_init_X8_keepDraft : GoodIn wsX8_init (wsV RX8 47 RX8 yX8_keepDraft wsX8_keepDraft) := hs_gC (hs_gV (hs_inG 4 76 rfl rfl) (hs_inG 4 78 rfl rfl) (hs_inG 0 18 rfl rfl) (hs_inG 1 8 rfl rfl) inC_X8_keepDraft)
theorem bqX8_init_0 : hs_bs cX8_init 0 [42, 183, 0, 1, 42, 17, 0, 132, 188, 10, 181, 0, 7, 42, 16, 44, 188, 10, 181, 0, 13, 42, 5] := hs_bs_of _ _ _ (by decide +kernel)
theorem dX8_init_0 : decode cX8_init 0 = .ok (.aload_n 0, 1) := dc42 bqX8_init_0 0 rfl rfl
theorem dX8_init_1 : decode cX8_init 1 = .ok (.invokespecial 1, 3) := dc183 bqX8_init_0 1 rfl rfl rfl
theorem dX8_init_4 : decode cX8_init 4 = .ok (.aload_n 0, 1) := dc42 bqX8_init_0 4 rfl rfl
theorem dX8_init_5 : decode cX8_init 5 = .ok (.sipush 132, 3) := dc17 bqX8_init_0 5 rfl rfl rfl
theorem dX8_init_8 : decode cX8_init 8 = .ok (.newarray .int, 2) := by decide +kernel
theorem dX8_init_10 : decode cX8_init 10 = .ok (.putfield 7, 3) := dc181 bqX8_init_0 10 rfl rfl rfl
theorem dX8_init_13 : decode cX8_init 13 = .ok (.aload_n 0, 1) := dc42 bqX8_init_0 13 rfl rfl
theorem dX8_init_14 : decode cX8_init 14 = .ok (.bipush 44, 2) := dc16 bqX8_init_0 14 rfl rfl rfl
theorem dX8_init_16 : decode cX8_init 16 = .ok (.newarray .int, 2) := by decide +kernel
theorem dX8_init_18 : decode cX8_init 18 = .ok (.putfield 13, 3) := dc181 bqX8_init_0 18 rfl rfl rfl
theorem dX8_init_21 : decode cX8_init 21 = .ok (.aload_n 0, 1) := dc42 bqX8_init_0 21 rfl rfl
theorem dX8_init_22 : decode cX8_init 22 = .ok (.iconst 2, 1) := dc5 bqX8_init_0 22 rfl rfl
theorem bqX8_init_23 : hs_bs cX8_init 23 [188, 4, 181, 0, 16, 42, 16, 44, 188, 10, 181, 0, 20, 42, 17, 0, 160, 188, 10, 181, 0, 23, 42, 8] := hs_bs_of _ _ _ (by decide +kernel)
theorem dX8_init_23 : decode cX8_init 23 = .ok (.newarray .boolean, 2) := by decide +kernel
theorem dX8_init_25 : decode cX8_init 25 = .ok (.putfield 16, 3) := dc181 bqX8_init_23 2 rfl rfl rfl
theorem dX8_init_28 : decode cX8_init 28 = .ok (.aload_n 0, 1) := dc42 bqX8_init_23 5 rfl rfl
theorem dX8_init_29 : decode cX8_init 29 = .ok (.bipush 44, 2) := dc16 bqX8_init_23 6 rfl rfl rfl
theorem dX8_init_31 : decode cX8_init 31 = .ok (.newarray .int, 2) := by decide +kernel
theorem dX8_init_33 : decode cX8_init 33 = .ok (.putfield 20, 3) := dc181 bqX8_init_23 10 rfl rfl rfl
theorem dX8_init_36 : decode cX8_init 36 = .ok (.aload_n 0, 1) := dc42 bqX8_init_23 13 rfl rfl
theorem dX8_init_37 : decode cX8_init 37 = .ok (.sipush 160, 3) := dc17 bqX8_init_23 14 rfl rfl rfl
theorem dX8_init_40 : decode cX8_init 40 = .ok (.newarray .int, 2) := by decide +kernel
theorem dX8_init_42 : decode cX8_init 42 = .ok (.putfield 23, 3) := dc181 bqX8_init_23 19 rfl rfl rfl
theorem dX8_init_45 : decode cX8_init 45 = .ok (.aload_n 0, 1) := dc42 bqX8_init_23 22 rfl rfl
theorem dX8_init_46 : decode cX8_init 46 = .ok (.iconst 5, 1) := dc8 bqX8_init_23 23 rfl rfl
theorem bqX8_init_47 : hs_bs cX8_init 47 [188, 10, 181, 0, 26, 42, 16, 25, 188, 10, 181, 0, 29, 42, 7, 188, 10, 181, 0, 32, 42, 7, 188, 10] := hs_bs_of _ _ _ (by decide +kernel)
theorem dX8_init_47 : decode cX8_init 47 = .ok (.newarray .int, 2) := by decide +kernel
theorem dX8_init_49 : decode cX8_init 49 = .ok (.putfield 26, 3) := dc181 bqX8_init_47 2 rfl rfl rfl
theorem dX8_init_52 : decode cX8_init 52 = .ok (.aload_n 0, 1) := dc42 bqX8_init_47 5 rfl rfl
theorem dX8_init_53 : decode cX8_init 53 = .ok (.bipush 25, 2) := dc16 bqX8_init_47 6 rfl rfl rfl
theorem dX8_init_55 : decode cX8_init 55 = .ok (.newarray .int, 2) := by decide +kernel
theorem dX8_init_57 : decode cX8_init 57 = .ok (.putfield 29, 3) := dc181 bqX8_init_47 10 rfl rfl rfl
theorem dX8_init_60 : decode cX8_init 60 = .ok (.aload_n 0, 1) := dc42 bqX8_init_47 13 rfl rfl
theorem dX8_init_61 : decode cX8_init 61 = .ok (.iconst 4, 1) := dc7 bqX8_init_47 14 rfl rfl
theorem dX8_init_62 : decode cX8_init 62 = .ok (.newarray .int, 2) := by decide +kernel
theorem dX8_init_64 : decode cX8_init 64 = .ok (.putfield 32, 3) := dc181 bqX8_init_47 17 rfl rfl rfl
theorem dX8_init_67 : decode cX8_init 67 = .ok (.aload_n 0, 1) := dc42 bqX8_init_47 20 rfl rfl
theorem dX8_init_68 : decode cX8_init 68 = .ok (.iconst 4, 1) := dc7 bqX8_init_47 21 rfl rfl
theorem dX8_init_69 : decode cX8_init 69 = .ok (.newarray .int, 2) := by decide +kernel
theorem bqX8_init_71 : hs_bs cX8_init 71 [181, 0, 35, 42, 17, 0, 160, 188, 10, 181, 0, 38, 42, 16, 44, 188, 10, 181, 0, 41, 3, 60, 27, 7] := hs_bs_of _ _ _ (by decide +kernel)
theorem dX8_init_71 : decode cX8_init 71 = .ok (.putfield 35, 3) := dc181 bqX8_init_71 0 rfl rfl rfl
theorem dX8_init_74 : decode cX8_init 74 = .ok (.aload_n 0, 1) := dc42 bqX8_init_71 3 rfl rfl
theorem dX8_init_75 : decode cX8_init 75 = .ok (.sipush 160, 3) := dc17 bqX8_init_71 4 rfl rfl rfl
theorem dX8_init_78 : decode cX8_init 78 = .ok (.newarray .int, 2) := by decide +kernel
theorem dX8_init_80 : decode cX8_init 80 = .ok (.putfield 38, 3) := dc181 bqX8_init_71 9 rfl rfl rfl
theorem dX8_init_83 : decode cX8_init 83 = .ok (.aload_n 0, 1) := dc42 bqX8_init_71 12 rfl rfl
theorem dX8_init_84 : decode cX8_init 84 = .ok (.bipush 44, 2) := dc16 bqX8_init_71 13 rfl rfl rfl
theorem dX8_init_86 : decode cX8_init 86 = .ok (.newarray .int, 2) := by decide +kernel
theorem dX8_init_88 : decode cX8_init 88 = .ok (.putfield 41, 3) := dc181 bqX8_init_71 17 rfl rfl rfl
theorem dX8_init_91 : decode cX8_init 91 = .ok (.iconst 0, 1) := dc3 bqX8_init_71 20 rfl rfl
theorem dX8_init_92 : decode cX8_init 92 = .ok (.istore_n 1, 1) := dc60 bqX8_init_71 21 rfl rfl
theorem dX8_init_93 : decode cX8_init 93 = .ok (.iload_n 1, 1) := dc27 bqX8_init_71 22 rfl rfl
theorem dX8_init_94 : decode cX8_init 94 = .ok (.iconst 4, 1) := dc7 bqX8_init_71 23 rfl rfl
theorem bqX8_init_95 : hs_bs cX8_init 95 [162, 0, 17, 42, 180, 0, 32, 27, 16, 252, 79, 132, 1, 1, 167, 255, 240, 42, 182, 0, 44, 42] := hs_bs_of _ _ _ (by decide +kernel)
theorem dX8_init_95 : decode cX8_init 95 = .ok (.if_icmp .ge 17, 3) := dc162 bqX8_init_95 0 rfl rfl rfl
theorem dX8_init_98 : decode cX8_init 98 = .ok (.aload_n 0, 1) := dc42 bqX8_init_95 3 rfl rfl
theorem dX8_init_99 : decode cX8_init 99 = .ok (.getfield 32, 3) := dc180 bqX8_init_95 4 rfl rfl rfl
theorem dX8_init_102 : decode cX8_init 102 = .ok (.iload_n 1, 1) := dc27 bqX8_init_95 7 rfl rfl
theorem dX8_init_103 : decode cX8_init 103 = .ok (.bipush (-4), 2) := dc16 bqX8_init_95 8 rfl rfl rfl
theorem dX8_init_105 : decode cX8_init 105 = .ok (.iastore, 1) := dc79 bqX8_init_95 10 rfl rfl
theorem dX8_init_106 : decode cX8_init 106 = .ok (.iinc 1 1, 3) := dc132 bqX8_init_95 11 rfl rfl rfl
theorem dX8_init_109 : decode cX8_init 109 = .ok (.goto (-16), 3) := dc167 bqX8_init_95 14 rfl rfl rfl
theorem dX8_init_112 : decode cX8_init 112 = .ok (.aload_n 0, 1) := dc42 bqX8_init_95 17 rfl rfl
theorem dX8_init_113 : decode cX8_init 113 = .ok (.invokevirtual 44, 3) := dc182 bqX8_init_95 18 rfl rfl rfl
theorem dX8_init_116 : decode cX8_init 116 = .ok (.aload_n 0, 1) := dc42 bqX8_init_95 21 rfl rfl
theorem bqX8_init_117 : hs_bs cX8_init 117 [182, 0, 47, 177] := hs_bs_of _ _ _ (by decide +kernel)
theorem dX8_init_117 : decode cX8_init 117 = .ok (.invokevirtual 47, 3) := dc182 bqX8_init_117 0 rfl rfl rfl
theorem dX8_init_120 : decode cX8_init 120 = .ok (.return_, 1) := dc177 bqX8_init_117 3 rfl rfl
theorem bqX8_in_0 : hs_bs cX8_in 0 [30, 32, 148, 155, 0, 14, 30, 22, 4, 148, 157, 0, 7, 4, 167, 0, 4, 3, 172] := hs_bs_of _ _ _ (by decide +kernel)
theorem dX8_in_0 : decode cX8_in 0 = .ok (.lload_n 0, 1) := dc30 bqX8_in_0 0 rfl rfl
theorem dX8_in_1 : decode cX8_in 1 = .ok (.lload_n 2, 1) := dc32 bqX8_in_0 1 rfl rfl
theorem dX8_in_2 : decode cX8_in 2 = .ok (.lcmp, 1) := dc148 bqX8_in_0 2 rfl rfl
theorem dX8_in_3 : decode cX8_in 3 = .ok (.ifCond .lt 14, 3) := dc155 bqX8_in_0 3 rfl rfl rfl
theorem dX8_in_6 : decode cX8_in 6 = .ok (.lload_n 0, 1) := dc30 bqX8_in_0 6 rfl rfl
theorem dX8_in_7 : decode cX8_in 7 = .ok (.lload 4, 2) := dc22 bqX8_in_0 7 rfl rfl
theorem dX8_in_9 : decode cX8_in 9 = .ok (.lcmp, 1) := dc148 bqX8_in_0 9 rfl rfl
theorem dX8_in_10 : decode cX8_in 10 = .ok (.ifCond .gt 7, 3) := dc157 bqX8_in_0 10 rfl rfl rfl
theorem dX8_in_13 : decode cX8_in 13 = .ok (.iconst 1, 1) := dc4 bqX8_in_0 13 rfl rfl
theorem dX8_in_14 : decode cX8_in 14 = .ok (.goto 4, 3) := dc167 bqX8_in_0 14 rfl rfl rfl
theorem dX8_in_17 : decode cX8_in 17 = .ok (.iconst 0, 1) := dc3 bqX8_in_0 17 rfl rfl
theorem dX8_in_18 : decode cX8_in 18 = .ok (.ireturn, 1) := dc172 bqX8_in_0 18 rfl rfl
theorem bqX8_flag_0 : hs_bs cX8_flag 0 [26, 153, 0, 7, 4, 167, 0, 4, 3, 172] := hs_bs_of _ _ _ (by decide +kernel)
theorem dX8_flag_0 : decode cX8_flag 0 = .ok (.iload_n 0, 1) := dc26 bqX8_flag_0 0 rfl rfl
theorem dX8_flag_1 : decode cX8_flag 1 = .ok (.ifCond .eq 7, 3) := dc153 bqX8_flag_0 1 rfl rfl rfl
theorem dX8_flag_4 : decode cX8_flag 4 = .ok (.iconst 1, 1) := dc4 bqX8_flag_0 4 rfl rfl
theorem dX8_flag_5 : decode cX8_flag 5 = .ok (.goto 4, 3) := dc167 bqX8_flag_0 5 rfl rfl rfl
theorem dX8_flag_8 : decode cX8_flag 8 = .ok (.iconst 0, 1) := dc3 bqX8_flag_0 8 rfl rfl
theorem dX8_flag_9 : decode cX8_flag 9 = .ok (.ireturn, 1) := dc172 bqX8_flag_0 9 rfl rfl
theorem bqX8_firstDraft_0 : hs_bs cX8_firstDraft 0 [3, 60, 27, 16, 44, 162, 0, 16, 42, 180, 0, 20, 27, 3, 79, 132, 1, 1, 167, 255, 240, 42] := hs_bs_of _ _ _ (by decide +kernel)
theorem dX8_firstDraft_0 : decode cX8_firstDraft 0 = .ok (.iconst 0, 1) := dc3 bqX8_firstDraft_0 0 rfl rfl
theorem dX8_firstDraft_1 : decode cX8_firstDraft 1 = .ok (.istore_n 1, 1) := dc60 bqX8_firstDraft_0 1 rfl rfl
theorem dX8_firstDraft_2 : decode cX8_firstDraft 2 = .ok (.iload_n 1, 1) := dc27 bqX8_firstDraft_0 2 rfl rfl
theorem dX8_firstDraft_3 : decode cX8_firstDraft 3 = .ok (.bipush 44, 2) := dc16 bqX8_firstDraft_0 3 rfl rfl rfl
theorem dX8_firstDraft_5 : decode cX8_firstDraft 5 = .ok (.if_icmp .ge 16, 3) := dc162 bqX8_firstDraft_0 5 rfl rfl rfl
theorem dX8_firstDraft_8 : decode cX8_firstDraft 8 = .ok (.aload_n 0, 1) := dc42 bqX8_firstDraft_0 8 rfl rfl
theorem dX8_firstDraft_9 : decode cX8_firstDraft 9 = .ok (.getfield 20, 3) := dc180 bqX8_firstDraft_0 9 rfl rfl rfl
theorem dX8_firstDraft_12 : decode cX8_firstDraft 12 = .ok (.iload_n 1, 1) := dc27 bqX8_firstDraft_0 12 rfl rfl
theorem dX8_firstDraft_13 : decode cX8_firstDraft 13 = .ok (.iconst 0, 1) := dc3 bqX8_firstDraft_0 13 rfl rfl
theorem dX8_firstDraft_14 : decode cX8_firstDraft 14 = .ok (.iastore, 1) := dc79 bqX8_firstDraft_0 14 rfl rfl
theorem dX8_firstDraft_15 : decode cX8_firstDraft 15 = .ok (.iinc 1 1, 3) := dc132 bqX8_firstDraft_0 15 rfl rfl rfl
theorem dX8_firstDraft_18 : decode cX8_firstDraft 18 = .ok (.goto (-16), 3) := dc167 bqX8_firstDraft_0 18 rfl rfl rfl
theorem dX8_firstDraft_21 : decode cX8_firstDraft 21 = .ok (.aload_n 0, 1) := dc42 bqX8_firstDraft_0 21 rfl rfl
theorem bqX8_firstDraft_22 : hs_bs cX8_firstDraft 22 [180, 0, 20, 3, 5, 79, 42, 180, 0, 20, 4, 4, 79, 42, 180, 0, 20, 5, 4, 79, 42, 3] := hs_bs_of _ _ _ (by decide +kernel)
theorem dX8_firstDraft_22 : decode cX8_firstDraft 22 = .ok (.getfield 20, 3) := dc180 bqX8_firstDraft_22 0 rfl rfl rfl
theorem dX8_firstDraft_25 : decode cX8_firstDraft 25 = .ok (.iconst 0, 1) := dc3 bqX8_firstDraft_22 3 rfl rfl
theorem dX8_firstDraft_26 : decode cX8_firstDraft 26 = .ok (.iconst 2, 1) := dc5 bqX8_firstDraft_22 4 rfl rfl
theorem dX8_firstDraft_27 : decode cX8_firstDraft 27 = .ok (.iastore, 1) := dc79 bqX8_firstDraft_22 5 rfl rfl
theorem dX8_firstDraft_28 : decode cX8_firstDraft 28 = .ok (.aload_n 0, 1) := dc42 bqX8_firstDraft_22 6 rfl rfl
theorem dX8_firstDraft_29 : decode cX8_firstDraft 29 = .ok (.getfield 20, 3) := dc180 bqX8_firstDraft_22 7 rfl rfl rfl
theorem dX8_firstDraft_32 : decode cX8_firstDraft 32 = .ok (.iconst 1, 1) := dc4 bqX8_firstDraft_22 10 rfl rfl
theorem dX8_firstDraft_33 : decode cX8_firstDraft 33 = .ok (.iconst 1, 1) := dc4 bqX8_firstDraft_22 11 rfl rfl
theorem dX8_firstDraft_34 : decode cX8_firstDraft 34 = .ok (.iastore, 1) := dc79 bqX8_firstDraft_22 12 rfl rfl
theorem dX8_firstDraft_35 : decode cX8_firstDraft 35 = .ok (.aload_n 0, 1) := dc42 bqX8_firstDraft_22 13 rfl rfl
theorem dX8_firstDraft_36 : decode cX8_firstDraft 36 = .ok (.getfield 20, 3) := dc180 bqX8_firstDraft_22 14 rfl rfl rfl
theorem dX8_firstDraft_39 : decode cX8_firstDraft 39 = .ok (.iconst 2, 1) := dc5 bqX8_firstDraft_22 17 rfl rfl
theorem dX8_firstDraft_40 : decode cX8_firstDraft 40 = .ok (.iconst 1, 1) := dc4 bqX8_firstDraft_22 18 rfl rfl
theorem dX8_firstDraft_41 : decode cX8_firstDraft 41 = .ok (.iastore, 1) := dc79 bqX8_firstDraft_22 19 rfl rfl
theorem dX8_firstDraft_42 : decode cX8_firstDraft 42 = .ok (.aload_n 0, 1) := dc42 bqX8_firstDraft_22 20 rfl rfl
theorem dX8_firstDraft_43 : decode cX8_firstDraft 43 = .ok (.iconst 0, 1) := dc3 bqX8_firstDraft_22 21 rfl rfl
theorem bqX8_firstDraft_44 : hs_bs cX8_firstDraft 44 [181, 0, 50, 42, 5, 181, 0, 54, 42, 3, 181, 0, 57, 42, 16, 252, 181, 0, 60, 177] := hs_bs_of _ _ _ (by decide +kernel)
theorem dX8_firstDraft_44 : decode cX8_firstDraft 44 = .ok (.putfield 50, 3) := dc181 bqX8_firstDraft_44 0 rfl rfl rfl
theorem dX8_firstDraft_47 : decode cX8_firstDraft 47 = .ok (.aload_n 0, 1) := dc42 bqX8_firstDraft_44 3 rfl rfl
theorem dX8_firstDraft_48 : decode cX8_firstDraft 48 = .ok (.iconst 2, 1) := dc5 bqX8_firstDraft_44 4 rfl rfl
theorem dX8_firstDraft_49 : decode cX8_firstDraft 49 = .ok (.putfield 54, 3) := dc181 bqX8_firstDraft_44 5 rfl rfl rfl
theorem dX8_firstDraft_52 : decode cX8_firstDraft 52 = .ok (.aload_n 0, 1) := dc42 bqX8_firstDraft_44 8 rfl rfl
theorem dX8_firstDraft_53 : decode cX8_firstDraft 53 = .ok (.iconst 0, 1) := dc3 bqX8_firstDraft_44 9 rfl rfl
theorem dX8_firstDraft_54 : decode cX8_firstDraft 54 = .ok (.putfield 57, 3) := dc181 bqX8_firstDraft_44 10 rfl rfl rfl
theorem dX8_firstDraft_57 : decode cX8_firstDraft 57 = .ok (.aload_n 0, 1) := dc42 bqX8_firstDraft_44 13 rfl rfl
theorem dX8_firstDraft_58 : decode cX8_firstDraft 58 = .ok (.bipush (-4), 2) := dc16 bqX8_firstDraft_44 14 rfl rfl rfl
theorem dX8_firstDraft_60 : decode cX8_firstDraft 60 = .ok (.putfield 60, 3) := dc181 bqX8_firstDraft_44 16 rfl rfl rfl
theorem dX8_firstDraft_63 : decode cX8_firstDraft 63 = .ok (.return_, 1) := dc177 bqX8_firstDraft_44 19 rfl rfl
theorem bqX8_keepDraft_0 : hs_bs cX8_keepDraft 0 [3, 60, 27, 16, 44, 162, 0, 21, 42, 180, 0, 7, 27, 42, 180, 0, 20, 27, 46, 79, 132, 1, 1] := hs_bs_of _ _ _ (by decide +kernel)
theorem dX8_keepDraft_0 : decode cX8_keepDraft 0 = .ok (.iconst 0, 1) := dc3 bqX8_keepDraft_0 0 rfl rfl
theorem dX8_keepDraft_1 : decode cX8_keepDraft 1 = .ok (.istore_n 1, 1) := dc60 bqX8_keepDraft_0 1 rfl rfl
theorem dX8_keepDraft_2 : decode cX8_keepDraft 2 = .ok (.iload_n 1, 1) := dc27 bqX8_keepDraft_0 2 rfl rfl
theorem dX8_keepDraft_3 : decode cX8_keepDraft 3 = .ok (.bipush 44, 2) := dc16 bqX8_keepDraft_0 3 rfl rfl rfl
theorem dX8_keepDraft_5 : decode cX8_keepDraft 5 = .ok (.if_icmp .ge 21, 3) := dc162 bqX8_keepDraft_0 5 rfl rfl rfl
theorem dX8_keepDraft_8 : decode cX8_keepDraft 8 = .ok (.aload_n 0, 1) := dc42 bqX8_keepDraft_0 8 rfl rfl
theorem dX8_keepDraft_9 : decode cX8_keepDraft 9 = .ok (.getfield 7, 3) := dc180 bqX8_keepDraft_0 9 rfl rfl rfl
theorem dX8_keepDraft_12 : decode cX8_keepDraft 12 = .ok (.iload_n 1, 1) := dc27 bqX8_keepDraft_0 12 rfl rfl
theorem dX8_keepDraft_13 : decode cX8_keepDraft 13 = .ok (.aload_n 0, 1) := dc42 bqX8_keepDraft_0 13 rfl rfl
theorem dX8_keepDraft_14 : decode cX8_keepDraft 14 = .ok (.getfield 20, 3) := dc180 bqX8_keepDraft_0 14 rfl rfl rfl
theorem dX8_keepDraft_17 : decode cX8_keepDraft 17 = .ok (.iload_n 1, 1) := dc27 bqX8_keepDraft_0 17 rfl rfl
theorem dX8_keepDraft_18 : decode cX8_keepDraft 18 = .ok (.iaload, 1) := dc46 bqX8_keepDraft_0 18 rfl rfl
theorem dX8_keepDraft_19 : decode cX8_keepDraft 19 = .ok (.iastore, 1) := dc79 bqX8_keepDraft_0 19 rfl rfl
theorem dX8_keepDraft_20 : decode cX8_keepDraft 20 = .ok (.iinc 1 1, 3) := dc132 bqX8_keepDraft_0 20 rfl rfl rfl
theorem bqX8_keepDraft_23 : hs_bs cX8_keepDraft 23 [167, 255, 235, 42, 42, 180, 0, 50, 181, 0, 63, 42, 42, 180, 0, 54, 181, 0, 66, 42, 180, 0, 16, 3] := hs_bs_of _ _ _ (by decide +kernel)
theorem dX8_keepDraft_23 : decode cX8_keepDraft 23 = .ok (.goto (-21), 3) := dc167 bqX8_keepDraft_23 0 rfl rfl rfl
theorem dX8_keepDraft_26 : decode cX8_keepDraft 26 = .ok (.aload_n 0, 1) := dc42 bqX8_keepDraft_23 3 rfl rfl
theorem dX8_keepDraft_27 : decode cX8_keepDraft 27 = .ok (.aload_n 0, 1) := dc42 bqX8_keepDraft_23 4 rfl rfl
theorem dX8_keepDraft_28 : decode cX8_keepDraft 28 = .ok (.getfield 50, 3) := dc180 bqX8_keepDraft_23 5 rfl rfl rfl
theorem dX8_keepDraft_31 : decode cX8_keepDraft 31 = .ok (.putfield 63, 3) := dc181 bqX8_keepDraft_23 8 rfl rfl rfl
theorem dX8_keepDraft_34 : decode cX8_keepDraft 34 = .ok (.aload_n 0, 1) := dc42 bqX8_keepDraft_23 11 rfl rfl
theorem dX8_keepDraft_35 : decode cX8_keepDraft 35 = .ok (.aload_n 0, 1) := dc42 bqX8_keepDraft_23 12 rfl rfl
theorem dX8_keepDraft_36 : decode cX8_keepDraft 36 = .ok (.getfield 54, 3) := dc180 bqX8_keepDraft_23 13 rfl rfl rfl
theorem dX8_keepDraft_39 : decode cX8_keepDraft 39 = .ok (.putfield 66, 3) := dc181 bqX8_keepDraft_23 16 rfl rfl rfl
theorem dX8_keepDraft_42 : decode cX8_keepDraft 42 = .ok (.aload_n 0, 1) := dc42 bqX8_keepDraft_23 19 rfl rfl
theorem dX8_keepDraft_43 : decode cX8_keepDraft 43 = .ok (.getfield 16, 3) := dc180 bqX8_keepDraft_23 20 rfl rfl rfl
theorem dX8_keepDraft_46 : decode cX8_keepDraft 46 = .ok (.iconst 0, 1) := dc3 bqX8_keepDraft_23 23 rfl rfl
theorem bqX8_keepDraft_47 : hs_bs cX8_keepDraft 47 [3, 84, 42, 180, 0, 16, 4, 3, 84, 177] := hs_bs_of _ _ _ (by decide +kernel)
theorem dX8_keepDraft_47 : decode cX8_keepDraft 47 = .ok (.iconst 0, 1) := dc3 bqX8_keepDraft_47 0 rfl rfl
theorem dX8_keepDraft_48 : decode cX8_keepDraft 48 = .ok (.bastore, 1) := dc84 bqX8_keepDraft_47 1 rfl rfl
theorem dX8_keepDraft_49 : decode cX8_keepDraft 49 = .ok (.aload_n 0, 1) := dc42 bqX8_keepDraft_47 2 rfl rfl
theorem dX8_keepDraft_50 : decode cX8_keepDraft 50 = .ok (.getfield 16, 3) := dc180 bqX8_keepDraft_47 3 rfl rfl rfl
theorem dX8_keepDraft_53 : decode cX8_keepDraft 53 = .ok (.iconst 1, 1) := dc4 bqX8_keepDraft_47 6 rfl rfl
theorem dX8_keepDraft_54 : decode cX8_keepDraft 54 = .ok (.iconst 0, 1) := dc3 bqX8_keepDraft_47 7 rfl rfl
theorem dX8_keepDraft_55 : decode cX8_keepDraft 55 = .ok (.bastore, 1) := dc84 bqX8_keepDraft_47 8 rfl rfl
theorem dX8_keepDraft_56 : decode cX8_keepDraft 56 = .ok (.return_, 1) := dc177 bqX8_keepDraft_47 9 rfl rfl
set_option maxRecDepth 20000 in
theorem gX8_feed_X8_in : GoodIn wsX8_feed (va_wsS RX8 71 yX8_in wsX8_in) := hs_gC (hs_gS (hs_inG 4 182 rfl rfl) (hs_inG 4 183 rfl rfl) (hs_inG 1 8 rfl rfl) inC_X8_in)
theorem bqX8_feed_0 : hs_bs cX8_feed 0 [27, 133, 9, 20, 0, 69, 184, 0, 71, 154, 0, 5, 2, 172, 42, 180, 0, 75, 17, 0, 160, 160, 0, 6] := hs_bs_of _ _ _ (by decide +kernel)
theorem dX8_feed_0 : decode cX8_feed 0 = .ok (.iload_n 1, 1) := dc27 bqX8_feed_0 0 rfl rfl
theorem dX8_feed_1 : decode cX8_feed 1 = .ok (.i2l, 1) := dc133 bqX8_feed_0 1 rfl rfl
theorem dX8_feed_2 : decode cX8_feed 2 = .ok (.lconst 0, 1) := dc9 bqX8_feed_0 2 rfl rfl
theorem dX8_feed_3 : decode cX8_feed 3 = .ok (.ldc2_w 69, 3) := dc20 bqX8_feed_0 3 rfl rfl rfl
theorem dX8_feed_6 : decode cX8_feed 6 = .ok (.invokestatic 71, 3) := dc184 bqX8_feed_0 6 rfl rfl rfl
theorem dX8_feed_9 : decode cX8_feed 9 = .ok (.ifCond .ne 5, 3) := dc154 bqX8_feed_0 9 rfl rfl rfl
theorem dX8_feed_12 : decode cX8_feed 12 = .ok (.iconst (-1), 1) := dc2 bqX8_feed_0 12 rfl rfl
theorem dX8_feed_13 : decode cX8_feed 13 = .ok (.ireturn, 1) := dc172 bqX8_feed_0 13 rfl rfl
theorem dX8_feed_14 : decode cX8_feed 14 = .ok (.aload_n 0, 1) := dc42 bqX8_feed_0 14 rfl rfl
theorem dX8_feed_15 : decode cX8_feed 15 = .ok (.getfield 75, 3) := dc180 bqX8_feed_0 15 rfl rfl rfl
theorem dX8_feed_18 : decode cX8_feed 18 = .ok (.sipush 160, 3) := dc17 bqX8_feed_0 18 rfl rfl rfl
theorem dX8_feed_21 : decode cX8_feed 21 = .ok (.if_icmp .ne 6, 3) := dc160 bqX8_feed_0 21 rfl rfl rfl
theorem bqX8_feed_24 : hs_bs cX8_feed 24 [16, 253, 172, 42, 180, 0, 23, 42, 180, 0, 75, 27, 79, 42, 89, 180, 0, 75, 4, 96, 181, 0, 75, 42] := hs_bs_of _ _ _ (by decide +kernel)
theorem dX8_feed_24 : decode cX8_feed 24 = .ok (.bipush (-3), 2) := dc16 bqX8_feed_24 0 rfl rfl rfl
theorem dX8_feed_26 : decode cX8_feed 26 = .ok (.ireturn, 1) := dc172 bqX8_feed_24 2 rfl rfl
theorem dX8_feed_27 : decode cX8_feed 27 = .ok (.aload_n 0, 1) := dc42 bqX8_feed_24 3 rfl rfl
theorem dX8_feed_28 : decode cX8_feed 28 = .ok (.getfield 23, 3) := dc180 bqX8_feed_24 4 rfl rfl rfl
theorem dX8_feed_31 : decode cX8_feed 31 = .ok (.aload_n 0, 1) := dc42 bqX8_feed_24 7 rfl rfl
theorem dX8_feed_32 : decode cX8_feed 32 = .ok (.getfield 75, 3) := dc180 bqX8_feed_24 8 rfl rfl rfl
theorem dX8_feed_35 : decode cX8_feed 35 = .ok (.iload_n 1, 1) := dc27 bqX8_feed_24 11 rfl rfl
theorem dX8_feed_36 : decode cX8_feed 36 = .ok (.iastore, 1) := dc79 bqX8_feed_24 12 rfl rfl
theorem dX8_feed_37 : decode cX8_feed 37 = .ok (.aload_n 0, 1) := dc42 bqX8_feed_24 13 rfl rfl
theorem dX8_feed_38 : decode cX8_feed 38 = .ok (.dup, 1) := dc89 bqX8_feed_24 14 rfl rfl
theorem dX8_feed_39 : decode cX8_feed 39 = .ok (.getfield 75, 3) := dc180 bqX8_feed_24 15 rfl rfl rfl
theorem dX8_feed_42 : decode cX8_feed 42 = .ok (.iconst 1, 1) := dc4 bqX8_feed_24 18 rfl rfl
theorem dX8_feed_43 : decode cX8_feed 43 = .ok (.iadd, 1) := dc96 bqX8_feed_24 19 rfl rfl
theorem dX8_feed_44 : decode cX8_feed 44 = .ok (.putfield 75, 3) := dc181 bqX8_feed_24 20 rfl rfl rfl
theorem dX8_feed_47 : decode cX8_feed 47 = .ok (.aload_n 0, 1) := dc42 bqX8_feed_24 23 rfl rfl
theorem bqX8_feed_48 : hs_bs cX8_feed 48 [180, 0, 75, 172] := hs_bs_of _ _ _ (by decide +kernel)
theorem dX8_feed_48 : decode cX8_feed 48 = .ok (.getfield 75, 3) := dc180 bqX8_feed_48 0 rfl rfl rfl
theorem dX8_feed_51 : decode cX8_feed 51 = .ok (.ireturn, 1) := dc172 bqX8_feed_48 3 rfl rfl
set_option maxRecDepth 20000 in
theorem gX8_end_X8_in : GoodIn wsX8_end (va_wsS RX8 71 yX8_in wsX8_in) := hs_gC (hs_gS (hs_inG 4 182 rfl rfl) (hs_inG 4 183 rfl rfl) (hs_inG 1 8 rfl rfl) inC_X8_in)
theorem bqX8_end_0 : hs_bs cX8_end 0 [27, 133, 9, 42, 180, 0, 75, 133, 184, 0, 71, 154, 0, 5, 2, 172, 42, 180, 0, 75, 61, 42, 27] := hs_bs_of _ _ _ (by decide +kernel)
theorem dX8_end_0 : decode cX8_end 0 = .ok (.iload_n 1, 1) := dc27 bqX8_end_0 0 rfl rfl
theorem dX8_end_1 : decode cX8_end 1 = .ok (.i2l, 1) := dc133 bqX8_end_0 1 rfl rfl
theorem dX8_end_2 : decode cX8_end 2 = .ok (.lconst 0, 1) := dc9 bqX8_end_0 2 rfl rfl
theorem dX8_end_3 : decode cX8_end 3 = .ok (.aload_n 0, 1) := dc42 bqX8_end_0 3 rfl rfl
theorem dX8_end_4 : decode cX8_end 4 = .ok (.getfield 75, 3) := dc180 bqX8_end_0 4 rfl rfl rfl
theorem dX8_end_7 : decode cX8_end 7 = .ok (.i2l, 1) := dc133 bqX8_end_0 7 rfl rfl
theorem dX8_end_8 : decode cX8_end 8 = .ok (.invokestatic 71, 3) := dc184 bqX8_end_0 8 rfl rfl rfl
theorem dX8_end_11 : decode cX8_end 11 = .ok (.ifCond .ne 5, 3) := dc154 bqX8_end_0 11 rfl rfl rfl
theorem dX8_end_14 : decode cX8_end 14 = .ok (.iconst (-1), 1) := dc2 bqX8_end_0 14 rfl rfl
theorem dX8_end_15 : decode cX8_end 15 = .ok (.ireturn, 1) := dc172 bqX8_end_0 15 rfl rfl
theorem dX8_end_16 : decode cX8_end 16 = .ok (.aload_n 0, 1) := dc42 bqX8_end_0 16 rfl rfl
theorem dX8_end_17 : decode cX8_end 17 = .ok (.getfield 75, 3) := dc180 bqX8_end_0 17 rfl rfl rfl
theorem dX8_end_20 : decode cX8_end 20 = .ok (.istore_n 2, 1) := dc61 bqX8_end_0 20 rfl rfl
theorem dX8_end_21 : decode cX8_end 21 = .ok (.aload_n 0, 1) := dc42 bqX8_end_0 21 rfl rfl
theorem dX8_end_22 : decode cX8_end 22 = .ok (.iload_n 1, 1) := dc27 bqX8_end_0 22 rfl rfl
theorem bqX8_end_23 : hs_bs cX8_end 23 [181, 0, 75, 28, 172] := hs_bs_of _ _ _ (by decide +kernel)
theorem dX8_end_23 : decode cX8_end 23 = .ok (.putfield 75, 3) := dc181 bqX8_end_23 0 rfl rfl rfl
theorem dX8_end_26 : decode cX8_end 26 = .ok (.iload_n 2, 1) := dc28 bqX8_end_23 3 rfl rfl
theorem dX8_end_27 : decode cX8_end 27 = .ok (.ireturn, 1) := dc172 bqX8_end_23 4 rfl rfl
theorem bqX8_needs_0 : hs_bs cX8_needs 0 [27, 154, 0, 23, 42, 180, 0, 78, 154, 0, 16, 42, 28, 181, 0, 78, 42, 42, 180, 0, 81, 181, 0, 84] := hs_bs_of _ _ _ (by decide +kernel)
theorem dX8_needs_0 : decode cX8_needs 0 = .ok (.iload_n 1, 1) := dc27 bqX8_needs_0 0 rfl rfl
theorem dX8_needs_1 : decode cX8_needs 1 = .ok (.ifCond .ne 23, 3) := dc154 bqX8_needs_0 1 rfl rfl rfl
theorem dX8_needs_4 : decode cX8_needs 4 = .ok (.aload_n 0, 1) := dc42 bqX8_needs_0 4 rfl rfl
theorem dX8_needs_5 : decode cX8_needs 5 = .ok (.getfield 78, 3) := dc180 bqX8_needs_0 5 rfl rfl rfl
theorem dX8_needs_8 : decode cX8_needs 8 = .ok (.ifCond .ne 16, 3) := dc154 bqX8_needs_0 8 rfl rfl rfl
theorem dX8_needs_11 : decode cX8_needs 11 = .ok (.aload_n 0, 1) := dc42 bqX8_needs_0 11 rfl rfl
theorem dX8_needs_12 : decode cX8_needs 12 = .ok (.iload_n 2, 1) := dc28 bqX8_needs_0 12 rfl rfl
theorem dX8_needs_13 : decode cX8_needs 13 = .ok (.putfield 78, 3) := dc181 bqX8_needs_0 13 rfl rfl rfl
theorem dX8_needs_16 : decode cX8_needs 16 = .ok (.aload_n 0, 1) := dc42 bqX8_needs_0 16 rfl rfl
theorem dX8_needs_17 : decode cX8_needs 17 = .ok (.aload_n 0, 1) := dc42 bqX8_needs_0 17 rfl rfl
theorem dX8_needs_18 : decode cX8_needs 18 = .ok (.getfield 81, 3) := dc180 bqX8_needs_0 18 rfl rfl rfl
theorem dX8_needs_21 : decode cX8_needs 21 = .ok (.putfield 84, 3) := dc181 bqX8_needs_0 21 rfl rfl rfl
theorem bqX8_needs_24 : hs_bs cX8_needs 24 [177] := hs_bs_of _ _ _ (by decide +kernel)
theorem dX8_needs_24 : decode cX8_needs 24 = .ok (.return_, 1) := dc177 bqX8_needs_24 0 rfl rfl
theorem bqX8_byteAt_0 : hs_bs cX8_byteAt 0 [27, 42, 180, 0, 75, 162, 0, 12, 42, 180, 0, 23, 27, 46, 167, 0, 4, 2, 172] := hs_bs_of _ _ _ (by decide +kernel)
theorem dX8_byteAt_0 : decode cX8_byteAt 0 = .ok (.iload_n 1, 1) := dc27 bqX8_byteAt_0 0 rfl rfl
theorem dX8_byteAt_1 : decode cX8_byteAt 1 = .ok (.aload_n 0, 1) := dc42 bqX8_byteAt_0 1 rfl rfl
theorem dX8_byteAt_2 : decode cX8_byteAt 2 = .ok (.getfield 75, 3) := dc180 bqX8_byteAt_0 2 rfl rfl rfl
theorem dX8_byteAt_5 : decode cX8_byteAt 5 = .ok (.if_icmp .ge 12, 3) := dc162 bqX8_byteAt_0 5 rfl rfl rfl
theorem dX8_byteAt_8 : decode cX8_byteAt 8 = .ok (.aload_n 0, 1) := dc42 bqX8_byteAt_0 8 rfl rfl
theorem dX8_byteAt_9 : decode cX8_byteAt 9 = .ok (.getfield 23, 3) := dc180 bqX8_byteAt_0 9 rfl rfl rfl
theorem dX8_byteAt_12 : decode cX8_byteAt 12 = .ok (.iload_n 1, 1) := dc27 bqX8_byteAt_0 12 rfl rfl
theorem dX8_byteAt_13 : decode cX8_byteAt 13 = .ok (.iaload, 1) := dc46 bqX8_byteAt_0 13 rfl rfl
theorem dX8_byteAt_14 : decode cX8_byteAt 14 = .ok (.goto 4, 3) := dc167 bqX8_byteAt_0 14 rfl rfl rfl
theorem dX8_byteAt_17 : decode cX8_byteAt 17 = .ok (.iconst (-1), 1) := dc2 bqX8_byteAt_0 17 rfl rfl
theorem dX8_byteAt_18 : decode cX8_byteAt 18 = .ok (.ireturn, 1) := dc172 bqX8_byteAt_0 18 rfl rfl
set_option maxRecDepth 20000 in
theorem gX8_is_X8_byteAt : GoodIn wsX8_is (wsV RX8 90 RX8 yX8_byteAt wsX8_byteAt) := hs_gC (hs_gV (hs_inG 4 197 rfl rfl) (hs_inG 4 199 rfl rfl) (hs_inG 0 20 rfl rfl) (hs_inG 1 8 rfl rfl) inC_X8_byteAt)
theorem bqX8_is_0 : hs_bs cX8_is 0 [42, 180, 0, 87, 42, 180, 0, 81, 100, 27, 160, 0, 48, 42, 42, 180, 0, 81, 182, 0, 90, 28] := hs_bs_of _ _ _ (by decide +kernel)
theorem dX8_is_0 : decode cX8_is 0 = .ok (.aload_n 0, 1) := dc42 bqX8_is_0 0 rfl rfl
theorem dX8_is_1 : decode cX8_is 1 = .ok (.getfield 87, 3) := dc180 bqX8_is_0 1 rfl rfl rfl
theorem dX8_is_4 : decode cX8_is 4 = .ok (.aload_n 0, 1) := dc42 bqX8_is_0 4 rfl rfl
theorem dX8_is_5 : decode cX8_is 5 = .ok (.getfield 81, 3) := dc180 bqX8_is_0 5 rfl rfl rfl
theorem dX8_is_8 : decode cX8_is 8 = .ok (.isub, 1) := dc100 bqX8_is_0 8 rfl rfl
theorem dX8_is_9 : decode cX8_is 9 = .ok (.iload_n 1, 1) := dc27 bqX8_is_0 9 rfl rfl
theorem dX8_is_10 : decode cX8_is 10 = .ok (.if_icmp .ne 48, 3) := dc160 bqX8_is_0 10 rfl rfl rfl
theorem dX8_is_13 : decode cX8_is 13 = .ok (.aload_n 0, 1) := dc42 bqX8_is_0 13 rfl rfl
theorem dX8_is_14 : decode cX8_is 14 = .ok (.aload_n 0, 1) := dc42 bqX8_is_0 14 rfl rfl
theorem dX8_is_15 : decode cX8_is 15 = .ok (.getfield 81, 3) := dc180 bqX8_is_0 15 rfl rfl rfl
theorem dX8_is_18 : decode cX8_is 18 = .ok (.invokevirtual 90, 3) := dc182 bqX8_is_0 18 rfl rfl rfl
theorem dX8_is_21 : decode cX8_is 21 = .ok (.iload_n 2, 1) := dc28 bqX8_is_0 21 rfl rfl
theorem bqX8_is_22 : hs_bs cX8_is 22 [160, 0, 36, 42, 42, 180, 0, 81, 4, 96, 182, 0, 90, 29, 160, 0, 22, 42, 42, 180, 0, 81, 5, 96] := hs_bs_of _ _ _ (by decide +kernel)
theorem dX8_is_22 : decode cX8_is 22 = .ok (.if_icmp .ne 36, 3) := dc160 bqX8_is_22 0 rfl rfl rfl
theorem dX8_is_25 : decode cX8_is 25 = .ok (.aload_n 0, 1) := dc42 bqX8_is_22 3 rfl rfl
theorem dX8_is_26 : decode cX8_is 26 = .ok (.aload_n 0, 1) := dc42 bqX8_is_22 4 rfl rfl
theorem dX8_is_27 : decode cX8_is 27 = .ok (.getfield 81, 3) := dc180 bqX8_is_22 5 rfl rfl rfl
theorem dX8_is_30 : decode cX8_is 30 = .ok (.iconst 1, 1) := dc4 bqX8_is_22 8 rfl rfl
theorem dX8_is_31 : decode cX8_is 31 = .ok (.iadd, 1) := dc96 bqX8_is_22 9 rfl rfl
theorem dX8_is_32 : decode cX8_is 32 = .ok (.invokevirtual 90, 3) := dc182 bqX8_is_22 10 rfl rfl rfl
theorem dX8_is_35 : decode cX8_is 35 = .ok (.iload_n 3, 1) := dc29 bqX8_is_22 13 rfl rfl
theorem dX8_is_36 : decode cX8_is 36 = .ok (.if_icmp .ne 22, 3) := dc160 bqX8_is_22 14 rfl rfl rfl
theorem dX8_is_39 : decode cX8_is 39 = .ok (.aload_n 0, 1) := dc42 bqX8_is_22 17 rfl rfl
theorem dX8_is_40 : decode cX8_is 40 = .ok (.aload_n 0, 1) := dc42 bqX8_is_22 18 rfl rfl
theorem dX8_is_41 : decode cX8_is 41 = .ok (.getfield 81, 3) := dc180 bqX8_is_22 19 rfl rfl rfl
theorem dX8_is_44 : decode cX8_is 44 = .ok (.iconst 2, 1) := dc5 bqX8_is_22 22 rfl rfl
theorem dX8_is_45 : decode cX8_is 45 = .ok (.iadd, 1) := dc96 bqX8_is_22 23 rfl rfl
theorem bqX8_is_46 : hs_bs cX8_is 46 [182, 0, 90, 21, 4, 160, 0, 7, 4, 167, 0, 4, 3, 172] := hs_bs_of _ _ _ (by decide +kernel)
theorem dX8_is_46 : decode cX8_is 46 = .ok (.invokevirtual 90, 3) := dc182 bqX8_is_46 0 rfl rfl rfl
theorem dX8_is_49 : decode cX8_is 49 = .ok (.iload 4, 2) := dc21 bqX8_is_46 3 rfl rfl
theorem dX8_is_51 : decode cX8_is 51 = .ok (.if_icmp .ne 7, 3) := dc160 bqX8_is_46 5 rfl rfl rfl
theorem dX8_is_54 : decode cX8_is 54 = .ok (.iconst 1, 1) := dc4 bqX8_is_46 8 rfl rfl
theorem dX8_is_55 : decode cX8_is 55 = .ok (.goto 4, 3) := dc167 bqX8_is_46 9 rfl rfl rfl
theorem dX8_is_58 : decode cX8_is 58 = .ok (.iconst 0, 1) := dc3 bqX8_is_46 12 rfl rfl
theorem dX8_is_59 : decode cX8_is 59 = .ok (.ireturn, 1) := dc172 bqX8_is_46 13 rfl rfl
set_option maxRecDepth 20000 in
theorem gX8_ends_X8_byteAt : GoodIn wsX8_ends (wsV RX8 90 RX8 yX8_byteAt wsX8_byteAt) := hs_gC (hs_gV (hs_inG 4 197 rfl rfl) (hs_inG 4 199 rfl rfl) (hs_inG 0 20 rfl rfl) (hs_inG 1 8 rfl rfl) inC_X8_byteAt)
theorem bqX8_ends_0 : hs_bs cX8_ends 0 [42, 42, 180, 0, 81, 6, 96, 182, 0, 90, 27, 160, 0, 64, 28, 153, 0, 17, 42, 42, 180, 0, 81, 7] := hs_bs_of _ _ _ (by decide +kernel)
theorem dX8_ends_0 : decode cX8_ends 0 = .ok (.aload_n 0, 1) := dc42 bqX8_ends_0 0 rfl rfl
theorem dX8_ends_1 : decode cX8_ends 1 = .ok (.aload_n 0, 1) := dc42 bqX8_ends_0 1 rfl rfl
theorem dX8_ends_2 : decode cX8_ends 2 = .ok (.getfield 81, 3) := dc180 bqX8_ends_0 2 rfl rfl rfl
theorem dX8_ends_5 : decode cX8_ends 5 = .ok (.iconst 3, 1) := dc6 bqX8_ends_0 5 rfl rfl
theorem dX8_ends_6 : decode cX8_ends 6 = .ok (.iadd, 1) := dc96 bqX8_ends_0 6 rfl rfl
theorem dX8_ends_7 : decode cX8_ends 7 = .ok (.invokevirtual 90, 3) := dc182 bqX8_ends_0 7 rfl rfl rfl
theorem dX8_ends_10 : decode cX8_ends 10 = .ok (.iload_n 1, 1) := dc27 bqX8_ends_0 10 rfl rfl
theorem dX8_ends_11 : decode cX8_ends 11 = .ok (.if_icmp .ne 64, 3) := dc160 bqX8_ends_0 11 rfl rfl rfl
theorem dX8_ends_14 : decode cX8_ends 14 = .ok (.iload_n 2, 1) := dc28 bqX8_ends_0 14 rfl rfl
theorem dX8_ends_15 : decode cX8_ends 15 = .ok (.ifCond .eq 17, 3) := dc153 bqX8_ends_0 15 rfl rfl rfl
theorem dX8_ends_18 : decode cX8_ends 18 = .ok (.aload_n 0, 1) := dc42 bqX8_ends_0 18 rfl rfl
theorem dX8_ends_19 : decode cX8_ends 19 = .ok (.aload_n 0, 1) := dc42 bqX8_ends_0 19 rfl rfl
theorem dX8_ends_20 : decode cX8_ends 20 = .ok (.getfield 81, 3) := dc180 bqX8_ends_0 20 rfl rfl rfl
theorem dX8_ends_23 : decode cX8_ends 23 = .ok (.iconst 4, 1) := dc7 bqX8_ends_0 23 rfl rfl
theorem bqX8_ends_24 : hs_bs cX8_ends 24 [96, 182, 0, 90, 28, 160, 0, 46, 29, 153, 0, 17, 42, 42, 180, 0, 81, 8, 96, 182, 0, 90, 29] := hs_bs_of _ _ _ (by decide +kernel)
theorem dX8_ends_24 : decode cX8_ends 24 = .ok (.iadd, 1) := dc96 bqX8_ends_24 0 rfl rfl
theorem dX8_ends_25 : decode cX8_ends 25 = .ok (.invokevirtual 90, 3) := dc182 bqX8_ends_24 1 rfl rfl rfl
theorem dX8_ends_28 : decode cX8_ends 28 = .ok (.iload_n 2, 1) := dc28 bqX8_ends_24 4 rfl rfl
theorem dX8_ends_29 : decode cX8_ends 29 = .ok (.if_icmp .ne 46, 3) := dc160 bqX8_ends_24 5 rfl rfl rfl
theorem dX8_ends_32 : decode cX8_ends 32 = .ok (.iload_n 3, 1) := dc29 bqX8_ends_24 8 rfl rfl
theorem dX8_ends_33 : decode cX8_ends 33 = .ok (.ifCond .eq 17, 3) := dc153 bqX8_ends_24 9 rfl rfl rfl
theorem dX8_ends_36 : decode cX8_ends 36 = .ok (.aload_n 0, 1) := dc42 bqX8_ends_24 12 rfl rfl
theorem dX8_ends_37 : decode cX8_ends 37 = .ok (.aload_n 0, 1) := dc42 bqX8_ends_24 13 rfl rfl
theorem dX8_ends_38 : decode cX8_ends 38 = .ok (.getfield 81, 3) := dc180 bqX8_ends_24 14 rfl rfl rfl
theorem dX8_ends_41 : decode cX8_ends 41 = .ok (.iconst 5, 1) := dc8 bqX8_ends_24 17 rfl rfl
theorem dX8_ends_42 : decode cX8_ends 42 = .ok (.iadd, 1) := dc96 bqX8_ends_24 18 rfl rfl
theorem dX8_ends_43 : decode cX8_ends 43 = .ok (.invokevirtual 90, 3) := dc182 bqX8_ends_24 19 rfl rfl rfl
theorem dX8_ends_46 : decode cX8_ends 46 = .ok (.iload_n 3, 1) := dc29 bqX8_ends_24 22 rfl rfl
theorem bqX8_ends_47 : hs_bs cX8_ends 47 [160, 0, 28, 21, 4, 153, 0, 19, 42, 42, 180, 0, 81, 16, 6, 96, 182, 0, 90, 21, 4, 160, 0, 7] := hs_bs_of _ _ _ (by decide +kernel)
theorem dX8_ends_47 : decode cX8_ends 47 = .ok (.if_icmp .ne 28, 3) := dc160 bqX8_ends_47 0 rfl rfl rfl
theorem dX8_ends_50 : decode cX8_ends 50 = .ok (.iload 4, 2) := dc21 bqX8_ends_47 3 rfl rfl
theorem dX8_ends_52 : decode cX8_ends 52 = .ok (.ifCond .eq 19, 3) := dc153 bqX8_ends_47 5 rfl rfl rfl
theorem dX8_ends_55 : decode cX8_ends 55 = .ok (.aload_n 0, 1) := dc42 bqX8_ends_47 8 rfl rfl
theorem dX8_ends_56 : decode cX8_ends 56 = .ok (.aload_n 0, 1) := dc42 bqX8_ends_47 9 rfl rfl
theorem dX8_ends_57 : decode cX8_ends 57 = .ok (.getfield 81, 3) := dc180 bqX8_ends_47 10 rfl rfl rfl
theorem dX8_ends_60 : decode cX8_ends 60 = .ok (.bipush 6, 2) := dc16 bqX8_ends_47 13 rfl rfl rfl
theorem dX8_ends_62 : decode cX8_ends 62 = .ok (.iadd, 1) := dc96 bqX8_ends_47 15 rfl rfl
theorem dX8_ends_63 : decode cX8_ends 63 = .ok (.invokevirtual 90, 3) := dc182 bqX8_ends_47 16 rfl rfl rfl
theorem dX8_ends_66 : decode cX8_ends 66 = .ok (.iload 4, 2) := dc21 bqX8_ends_47 19 rfl rfl
theorem dX8_ends_68 : decode cX8_ends 68 = .ok (.if_icmp .ne 7, 3) := dc160 bqX8_ends_47 21 rfl rfl rfl
theorem bqX8_ends_71 : hs_bs cX8_ends 71 [4, 167, 0, 4, 3, 172] := hs_bs_of _ _ _ (by decide +kernel)
theorem dX8_ends_71 : decode cX8_ends 71 = .ok (.iconst 1, 1) := dc4 bqX8_ends_71 0 rfl rfl
theorem dX8_ends_72 : decode cX8_ends 72 = .ok (.goto 4, 3) := dc167 bqX8_ends_71 1 rfl rfl rfl
theorem dX8_ends_75 : decode cX8_ends 75 = .ok (.iconst 0, 1) := dc3 bqX8_ends_71 4 rfl rfl
theorem dX8_ends_76 : decode cX8_ends 76 = .ok (.ireturn, 1) := dc172 bqX8_ends_71 5 rfl rfl
set_option maxRecDepth 20000 in
theorem gX8_lineNow_X8_is : GoodIn wsX8_lineNow (wsV RX8 94 RX8 yX8_is wsX8_is) := hs_gC (hs_gV (hs_inG 4 217 rfl rfl) (hs_inG 4 219 rfl rfl) (hs_inG 0 24 rfl rfl) (hs_inG 1 8 rfl rfl) inC_X8_is)
set_option maxRecDepth 20000 in
theorem gX8_lineNow_X8_ends : GoodIn wsX8_lineNow (wsV RX8 98 RX8 yX8_ends wsX8_ends) := hs_gC (hs_gV (hs_inG 4 221 rfl rfl) (hs_inG 4 223 rfl rfl) (hs_inG 0 25 rfl rfl) (hs_inG 1 8 rfl rfl) inC_X8_ends)
theorem bqX8_lineNow_0 : hs_bs cX8_lineNow 0 [42, 8, 16, 112, 16, 108, 16, 97, 182, 0, 94, 153, 0, 18, 42, 16, 105, 16, 110, 3, 3, 182, 0, 98] := hs_bs_of _ _ _ (by decide +kernel)
theorem dX8_lineNow_0 : decode cX8_lineNow 0 = .ok (.aload_n 0, 1) := dc42 bqX8_lineNow_0 0 rfl rfl
theorem dX8_lineNow_1 : decode cX8_lineNow 1 = .ok (.iconst 5, 1) := dc8 bqX8_lineNow_0 1 rfl rfl
theorem dX8_lineNow_2 : decode cX8_lineNow 2 = .ok (.bipush 112, 2) := dc16 bqX8_lineNow_0 2 rfl rfl rfl
theorem dX8_lineNow_4 : decode cX8_lineNow 4 = .ok (.bipush 108, 2) := dc16 bqX8_lineNow_0 4 rfl rfl rfl
theorem dX8_lineNow_6 : decode cX8_lineNow 6 = .ok (.bipush 97, 2) := dc16 bqX8_lineNow_0 6 rfl rfl rfl
theorem dX8_lineNow_8 : decode cX8_lineNow 8 = .ok (.invokevirtual 94, 3) := dc182 bqX8_lineNow_0 8 rfl rfl rfl
theorem dX8_lineNow_11 : decode cX8_lineNow 11 = .ok (.ifCond .eq 18, 3) := dc153 bqX8_lineNow_0 11 rfl rfl rfl
theorem dX8_lineNow_14 : decode cX8_lineNow 14 = .ok (.aload_n 0, 1) := dc42 bqX8_lineNow_0 14 rfl rfl
theorem dX8_lineNow_15 : decode cX8_lineNow 15 = .ok (.bipush 105, 2) := dc16 bqX8_lineNow_0 15 rfl rfl rfl
theorem dX8_lineNow_17 : decode cX8_lineNow 17 = .ok (.bipush 110, 2) := dc16 bqX8_lineNow_0 17 rfl rfl rfl
theorem dX8_lineNow_19 : decode cX8_lineNow 19 = .ok (.iconst 0, 1) := dc3 bqX8_lineNow_0 19 rfl rfl
theorem dX8_lineNow_20 : decode cX8_lineNow 20 = .ok (.iconst 0, 1) := dc3 bqX8_lineNow_0 20 rfl rfl
theorem dX8_lineNow_21 : decode cX8_lineNow 21 = .ok (.invokevirtual 98, 3) := dc182 bqX8_lineNow_0 21 rfl rfl rfl
theorem bqX8_lineNow_24 : hs_bs cX8_lineNow 24 [153, 0, 5, 3, 172, 42, 8, 16, 99, 16, 104, 16, 105, 182, 0, 94, 153, 0, 18, 42, 16, 108, 16, 100] := hs_bs_of _ _ _ (by decide +kernel)
theorem dX8_lineNow_24 : decode cX8_lineNow 24 = .ok (.ifCond .eq 5, 3) := dc153 bqX8_lineNow_24 0 rfl rfl rfl
theorem dX8_lineNow_27 : decode cX8_lineNow 27 = .ok (.iconst 0, 1) := dc3 bqX8_lineNow_24 3 rfl rfl
theorem dX8_lineNow_28 : decode cX8_lineNow 28 = .ok (.ireturn, 1) := dc172 bqX8_lineNow_24 4 rfl rfl
theorem dX8_lineNow_29 : decode cX8_lineNow 29 = .ok (.aload_n 0, 1) := dc42 bqX8_lineNow_24 5 rfl rfl
theorem dX8_lineNow_30 : decode cX8_lineNow 30 = .ok (.iconst 5, 1) := dc8 bqX8_lineNow_24 6 rfl rfl
theorem dX8_lineNow_31 : decode cX8_lineNow 31 = .ok (.bipush 99, 2) := dc16 bqX8_lineNow_24 7 rfl rfl rfl
theorem dX8_lineNow_33 : decode cX8_lineNow 33 = .ok (.bipush 104, 2) := dc16 bqX8_lineNow_24 9 rfl rfl rfl
theorem dX8_lineNow_35 : decode cX8_lineNow 35 = .ok (.bipush 105, 2) := dc16 bqX8_lineNow_24 11 rfl rfl rfl
theorem dX8_lineNow_37 : decode cX8_lineNow 37 = .ok (.invokevirtual 94, 3) := dc182 bqX8_lineNow_24 13 rfl rfl rfl
theorem dX8_lineNow_40 : decode cX8_lineNow 40 = .ok (.ifCond .eq 18, 3) := dc153 bqX8_lineNow_24 16 rfl rfl rfl
theorem dX8_lineNow_43 : decode cX8_lineNow 43 = .ok (.aload_n 0, 1) := dc42 bqX8_lineNow_24 19 rfl rfl
theorem dX8_lineNow_44 : decode cX8_lineNow 44 = .ok (.bipush 108, 2) := dc16 bqX8_lineNow_24 20 rfl rfl rfl
theorem dX8_lineNow_46 : decode cX8_lineNow 46 = .ok (.bipush 100, 2) := dc16 bqX8_lineNow_24 22 rfl rfl rfl
theorem bqX8_lineNow_48 : hs_bs cX8_lineNow 48 [3, 3, 182, 0, 98, 153, 0, 5, 4, 172, 42, 8, 16, 115, 16, 119, 16, 101, 182, 0, 94, 153, 0, 18] := hs_bs_of _ _ _ (by decide +kernel)
theorem dX8_lineNow_48 : decode cX8_lineNow 48 = .ok (.iconst 0, 1) := dc3 bqX8_lineNow_48 0 rfl rfl
theorem dX8_lineNow_49 : decode cX8_lineNow 49 = .ok (.iconst 0, 1) := dc3 bqX8_lineNow_48 1 rfl rfl
theorem dX8_lineNow_50 : decode cX8_lineNow 50 = .ok (.invokevirtual 98, 3) := dc182 bqX8_lineNow_48 2 rfl rfl rfl
theorem dX8_lineNow_53 : decode cX8_lineNow 53 = .ok (.ifCond .eq 5, 3) := dc153 bqX8_lineNow_48 5 rfl rfl rfl
theorem dX8_lineNow_56 : decode cX8_lineNow 56 = .ok (.iconst 1, 1) := dc4 bqX8_lineNow_48 8 rfl rfl
theorem dX8_lineNow_57 : decode cX8_lineNow 57 = .ok (.ireturn, 1) := dc172 bqX8_lineNow_48 9 rfl rfl
theorem dX8_lineNow_58 : decode cX8_lineNow 58 = .ok (.aload_n 0, 1) := dc42 bqX8_lineNow_48 10 rfl rfl
theorem dX8_lineNow_59 : decode cX8_lineNow 59 = .ok (.iconst 5, 1) := dc8 bqX8_lineNow_48 11 rfl rfl
theorem dX8_lineNow_60 : decode cX8_lineNow 60 = .ok (.bipush 115, 2) := dc16 bqX8_lineNow_48 12 rfl rfl rfl
theorem dX8_lineNow_62 : decode cX8_lineNow 62 = .ok (.bipush 119, 2) := dc16 bqX8_lineNow_48 14 rfl rfl rfl
theorem dX8_lineNow_64 : decode cX8_lineNow 64 = .ok (.bipush 101, 2) := dc16 bqX8_lineNow_48 16 rfl rfl rfl
theorem dX8_lineNow_66 : decode cX8_lineNow 66 = .ok (.invokevirtual 94, 3) := dc182 bqX8_lineNow_48 18 rfl rfl rfl
theorem dX8_lineNow_69 : decode cX8_lineNow 69 = .ok (.ifCond .eq 18, 3) := dc153 bqX8_lineNow_48 21 rfl rfl rfl
theorem bqX8_lineNow_72 : hs_bs cX8_lineNow 72 [42, 16, 101, 16, 116, 3, 3, 182, 0, 98, 153, 0, 5, 5, 172, 42, 16, 6, 16, 100, 16, 101, 16, 97] := hs_bs_of _ _ _ (by decide +kernel)
theorem dX8_lineNow_72 : decode cX8_lineNow 72 = .ok (.aload_n 0, 1) := dc42 bqX8_lineNow_72 0 rfl rfl
theorem dX8_lineNow_73 : decode cX8_lineNow 73 = .ok (.bipush 101, 2) := dc16 bqX8_lineNow_72 1 rfl rfl rfl
theorem dX8_lineNow_75 : decode cX8_lineNow 75 = .ok (.bipush 116, 2) := dc16 bqX8_lineNow_72 3 rfl rfl rfl
theorem dX8_lineNow_77 : decode cX8_lineNow 77 = .ok (.iconst 0, 1) := dc3 bqX8_lineNow_72 5 rfl rfl
theorem dX8_lineNow_78 : decode cX8_lineNow 78 = .ok (.iconst 0, 1) := dc3 bqX8_lineNow_72 6 rfl rfl
theorem dX8_lineNow_79 : decode cX8_lineNow 79 = .ok (.invokevirtual 98, 3) := dc182 bqX8_lineNow_72 7 rfl rfl rfl
theorem dX8_lineNow_82 : decode cX8_lineNow 82 = .ok (.ifCond .eq 5, 3) := dc153 bqX8_lineNow_72 10 rfl rfl rfl
theorem dX8_lineNow_85 : decode cX8_lineNow 85 = .ok (.iconst 2, 1) := dc5 bqX8_lineNow_72 13 rfl rfl
theorem dX8_lineNow_86 : decode cX8_lineNow 86 = .ok (.ireturn, 1) := dc172 bqX8_lineNow_72 14 rfl rfl
theorem dX8_lineNow_87 : decode cX8_lineNow 87 = .ok (.aload_n 0, 1) := dc42 bqX8_lineNow_72 15 rfl rfl
theorem dX8_lineNow_88 : decode cX8_lineNow 88 = .ok (.bipush 6, 2) := dc16 bqX8_lineNow_72 16 rfl rfl rfl
theorem dX8_lineNow_90 : decode cX8_lineNow 90 = .ok (.bipush 100, 2) := dc16 bqX8_lineNow_72 18 rfl rfl rfl
