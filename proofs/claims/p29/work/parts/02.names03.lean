theorem bqX0_init_0 : hs_bs cX0_init 0 [42, 183, 0, 3, 42, 8, 188, 11, 181, 0, 9, 177] := hs_bs_of _ _ _ (by decide +kernel)
theorem dX0_init_0 : decode cX0_init 0 = .ok (.aload_n 0, 1) := dc42 bqX0_init_0 0 rfl rfl
theorem dX0_init_1 : decode cX0_init 1 = .ok (.invokespecial 3, 3) := dc183 bqX0_init_0 1 rfl rfl rfl
theorem dX0_init_4 : decode cX0_init 4 = .ok (.aload_n 0, 1) := dc42 bqX0_init_0 4 rfl rfl
theorem dX0_init_5 : decode cX0_init 5 = .ok (.iconst 5, 1) := dc8 bqX0_init_0 5 rfl rfl
theorem dX0_init_6 : decode cX0_init 6 = .ok (.newarray .long, 2) := by decide +kernel
theorem dX0_init_8 : decode cX0_init 8 = .ok (.putfield 9, 3) := dc181 bqX0_init_0 8 rfl rfl rfl
theorem dX0_init_11 : decode cX0_init 11 = .ok (.return_, 1) := dc177 bqX0_init_0 11 rfl rfl
set_option maxRecDepth 20000 in
theorem gX0_majority_X0_saysJust : GoodIn wsX0_majority (va_wsS RX0 15 yX0_saysJust wsX0_saysJust) := hs_gC (hs_gS (hs_inG 3 189 rfl rfl) (hs_inG 3 190 rfl rfl) (hs_inG 1 6 rfl rfl) inC_X0_saysJust)
set_option maxRecDepth 20000 in
theorem gX0_majority_X0_lowest : GoodIn wsX0_majority (va_wsS RX0 21 yX0_lowest wsX0_lowest) := hs_gC (hs_gS (hs_inG 3 193 rfl rfl) (hs_inG 3 194 rfl rfl) (hs_inG 1 6 rfl rfl) inC_X0_lowest)
theorem bqX0_majority_0 : hs_bs cX0_majority 0 [10, 55, 5, 42, 180, 0, 9, 3, 10, 80, 3, 54, 7, 21, 7, 29, 162, 0, 103, 27, 28, 21, 7] := hs_bs_of _ _ _ (by decide +kernel)
theorem dX0_majority_0 : decode cX0_majority 0 = .ok (.lconst 1, 1) := dc10 bqX0_majority_0 0 rfl rfl
theorem dX0_majority_1 : decode cX0_majority 1 = .ok (.lstore 5, 2) := dc55 bqX0_majority_0 1 rfl rfl
theorem dX0_majority_3 : decode cX0_majority 3 = .ok (.aload_n 0, 1) := dc42 bqX0_majority_0 3 rfl rfl
theorem dX0_majority_4 : decode cX0_majority 4 = .ok (.getfield 9, 3) := dc180 bqX0_majority_0 4 rfl rfl rfl
theorem dX0_majority_7 : decode cX0_majority 7 = .ok (.iconst 0, 1) := dc3 bqX0_majority_0 7 rfl rfl
theorem dX0_majority_8 : decode cX0_majority 8 = .ok (.lconst 1, 1) := dc10 bqX0_majority_0 8 rfl rfl
theorem dX0_majority_9 : decode cX0_majority 9 = .ok (.lastore, 1) := dc80 bqX0_majority_0 9 rfl rfl
theorem dX0_majority_10 : decode cX0_majority 10 = .ok (.iconst 0, 1) := dc3 bqX0_majority_0 10 rfl rfl
theorem dX0_majority_11 : decode cX0_majority 11 = .ok (.istore 7, 2) := dc54 bqX0_majority_0 11 rfl rfl
theorem dX0_majority_13 : decode cX0_majority 13 = .ok (.iload 7, 2) := dc21 bqX0_majority_0 13 rfl rfl
theorem dX0_majority_15 : decode cX0_majority 15 = .ok (.iload_n 3, 1) := dc29 bqX0_majority_0 15 rfl rfl
theorem dX0_majority_16 : decode cX0_majority 16 = .ok (.if_icmp .ge 103, 3) := dc162 bqX0_majority_0 16 rfl rfl rfl
theorem dX0_majority_19 : decode cX0_majority 19 = .ok (.iload_n 1, 1) := dc27 bqX0_majority_0 19 rfl rfl
theorem dX0_majority_20 : decode cX0_majority 20 = .ok (.iload_n 2, 1) := dc28 bqX0_majority_0 20 rfl rfl
theorem dX0_majority_21 : decode cX0_majority 21 = .ok (.iload 7, 2) := dc21 bqX0_majority_0 21 rfl rfl
theorem bqX0_majority_23 : hs_bs cX0_majority 23 [184, 0, 15, 54, 8, 42, 180, 0, 9, 21, 7, 4, 96, 9, 80, 21, 7, 4, 96, 54, 9, 21, 9] := hs_bs_of _ _ _ (by decide +kernel)
theorem dX0_majority_23 : decode cX0_majority 23 = .ok (.invokestatic 15, 3) := dc184 bqX0_majority_23 0 rfl rfl rfl
theorem dX0_majority_26 : decode cX0_majority 26 = .ok (.istore 8, 2) := dc54 bqX0_majority_23 3 rfl rfl
theorem dX0_majority_28 : decode cX0_majority 28 = .ok (.aload_n 0, 1) := dc42 bqX0_majority_23 5 rfl rfl
theorem dX0_majority_29 : decode cX0_majority 29 = .ok (.getfield 9, 3) := dc180 bqX0_majority_23 6 rfl rfl rfl
theorem dX0_majority_32 : decode cX0_majority 32 = .ok (.iload 7, 2) := dc21 bqX0_majority_23 9 rfl rfl
theorem dX0_majority_34 : decode cX0_majority 34 = .ok (.iconst 1, 1) := dc4 bqX0_majority_23 11 rfl rfl
theorem dX0_majority_35 : decode cX0_majority 35 = .ok (.iadd, 1) := dc96 bqX0_majority_23 12 rfl rfl
theorem dX0_majority_36 : decode cX0_majority 36 = .ok (.lconst 0, 1) := dc9 bqX0_majority_23 13 rfl rfl
theorem dX0_majority_37 : decode cX0_majority 37 = .ok (.lastore, 1) := dc80 bqX0_majority_23 14 rfl rfl
theorem dX0_majority_38 : decode cX0_majority 38 = .ok (.iload 7, 2) := dc21 bqX0_majority_23 15 rfl rfl
theorem dX0_majority_40 : decode cX0_majority 40 = .ok (.iconst 1, 1) := dc4 bqX0_majority_23 17 rfl rfl
theorem dX0_majority_41 : decode cX0_majority 41 = .ok (.iadd, 1) := dc96 bqX0_majority_23 18 rfl rfl
theorem dX0_majority_42 : decode cX0_majority 42 = .ok (.istore 9, 2) := dc54 bqX0_majority_23 19 rfl rfl
theorem dX0_majority_44 : decode cX0_majority 44 = .ok (.iload 9, 2) := dc21 bqX0_majority_23 21 rfl rfl
theorem bqX0_majority_46 : hs_bs cX0_majority 46 [158, 0, 44, 42, 180, 0, 9, 21, 9, 42, 180, 0, 9, 21, 9, 47, 16, 10, 21, 8, 100, 133, 105, 42] := hs_bs_of _ _ _ (by decide +kernel)
theorem dX0_majority_46 : decode cX0_majority 46 = .ok (.ifCond .le 44, 3) := dc158 bqX0_majority_46 0 rfl rfl rfl
theorem dX0_majority_49 : decode cX0_majority 49 = .ok (.aload_n 0, 1) := dc42 bqX0_majority_46 3 rfl rfl
theorem dX0_majority_50 : decode cX0_majority 50 = .ok (.getfield 9, 3) := dc180 bqX0_majority_46 4 rfl rfl rfl
theorem dX0_majority_53 : decode cX0_majority 53 = .ok (.iload 9, 2) := dc21 bqX0_majority_46 7 rfl rfl
theorem dX0_majority_55 : decode cX0_majority 55 = .ok (.aload_n 0, 1) := dc42 bqX0_majority_46 9 rfl rfl
theorem dX0_majority_56 : decode cX0_majority 56 = .ok (.getfield 9, 3) := dc180 bqX0_majority_46 10 rfl rfl rfl
theorem dX0_majority_59 : decode cX0_majority 59 = .ok (.iload 9, 2) := dc21 bqX0_majority_46 13 rfl rfl
theorem dX0_majority_61 : decode cX0_majority 61 = .ok (.laload, 1) := dc47 bqX0_majority_46 15 rfl rfl
theorem dX0_majority_62 : decode cX0_majority 62 = .ok (.bipush 10, 2) := dc16 bqX0_majority_46 16 rfl rfl rfl
theorem dX0_majority_64 : decode cX0_majority 64 = .ok (.iload 8, 2) := dc21 bqX0_majority_46 18 rfl rfl
theorem dX0_majority_66 : decode cX0_majority 66 = .ok (.isub, 1) := dc100 bqX0_majority_46 20 rfl rfl
theorem dX0_majority_67 : decode cX0_majority 67 = .ok (.i2l, 1) := dc133 bqX0_majority_46 21 rfl rfl
theorem dX0_majority_68 : decode cX0_majority 68 = .ok (.lmul, 1) := dc105 bqX0_majority_46 22 rfl rfl
theorem dX0_majority_69 : decode cX0_majority 69 = .ok (.aload_n 0, 1) := dc42 bqX0_majority_46 23 rfl rfl
theorem bqX0_majority_70 : hs_bs cX0_majority 70 [180, 0, 9, 21, 9, 4, 100, 47, 21, 8, 133, 105, 97, 80, 132, 9, 255, 167, 255, 213, 42, 180, 0, 9] := hs_bs_of _ _ _ (by decide +kernel)
theorem dX0_majority_70 : decode cX0_majority 70 = .ok (.getfield 9, 3) := dc180 bqX0_majority_70 0 rfl rfl rfl
theorem dX0_majority_73 : decode cX0_majority 73 = .ok (.iload 9, 2) := dc21 bqX0_majority_70 3 rfl rfl
theorem dX0_majority_75 : decode cX0_majority 75 = .ok (.iconst 1, 1) := dc4 bqX0_majority_70 5 rfl rfl
theorem dX0_majority_76 : decode cX0_majority 76 = .ok (.isub, 1) := dc100 bqX0_majority_70 6 rfl rfl
theorem dX0_majority_77 : decode cX0_majority 77 = .ok (.laload, 1) := dc47 bqX0_majority_70 7 rfl rfl
theorem dX0_majority_78 : decode cX0_majority 78 = .ok (.iload 8, 2) := dc21 bqX0_majority_70 8 rfl rfl
theorem dX0_majority_80 : decode cX0_majority 80 = .ok (.i2l, 1) := dc133 bqX0_majority_70 10 rfl rfl
theorem dX0_majority_81 : decode cX0_majority 81 = .ok (.lmul, 1) := dc105 bqX0_majority_70 11 rfl rfl
theorem dX0_majority_82 : decode cX0_majority 82 = .ok (.ladd, 1) := dc97 bqX0_majority_70 12 rfl rfl
theorem dX0_majority_83 : decode cX0_majority 83 = .ok (.lastore, 1) := dc80 bqX0_majority_70 13 rfl rfl
theorem dX0_majority_84 : decode cX0_majority 84 = .ok (.iinc 9 (-1), 3) := dc132 bqX0_majority_70 14 rfl rfl rfl
theorem dX0_majority_87 : decode cX0_majority 87 = .ok (.goto (-43), 3) := dc167 bqX0_majority_70 17 rfl rfl rfl
theorem dX0_majority_90 : decode cX0_majority 90 = .ok (.aload_n 0, 1) := dc42 bqX0_majority_70 20 rfl rfl
theorem dX0_majority_91 : decode cX0_majority 91 = .ok (.getfield 9, 3) := dc180 bqX0_majority_70 21 rfl rfl rfl
theorem bqX0_majority_94 : hs_bs cX0_majority 94 [3, 92, 47, 16, 10, 21, 8, 100, 133, 105, 80, 22, 5, 20, 0, 19, 105, 55, 5, 132, 7, 1] := hs_bs_of _ _ _ (by decide +kernel)
theorem dX0_majority_94 : decode cX0_majority 94 = .ok (.iconst 0, 1) := dc3 bqX0_majority_94 0 rfl rfl
theorem dX0_majority_95 : decode cX0_majority 95 = .ok (.dup2, 1) := dc92 bqX0_majority_94 1 rfl rfl
theorem dX0_majority_96 : decode cX0_majority 96 = .ok (.laload, 1) := dc47 bqX0_majority_94 2 rfl rfl
theorem dX0_majority_97 : decode cX0_majority 97 = .ok (.bipush 10, 2) := dc16 bqX0_majority_94 3 rfl rfl rfl
theorem dX0_majority_99 : decode cX0_majority 99 = .ok (.iload 8, 2) := dc21 bqX0_majority_94 5 rfl rfl
theorem dX0_majority_101 : decode cX0_majority 101 = .ok (.isub, 1) := dc100 bqX0_majority_94 7 rfl rfl
theorem dX0_majority_102 : decode cX0_majority 102 = .ok (.i2l, 1) := dc133 bqX0_majority_94 8 rfl rfl
theorem dX0_majority_103 : decode cX0_majority 103 = .ok (.lmul, 1) := dc105 bqX0_majority_94 9 rfl rfl
theorem dX0_majority_104 : decode cX0_majority 104 = .ok (.lastore, 1) := dc80 bqX0_majority_94 10 rfl rfl
theorem dX0_majority_105 : decode cX0_majority 105 = .ok (.lload 5, 2) := dc22 bqX0_majority_94 11 rfl rfl
theorem dX0_majority_107 : decode cX0_majority 107 = .ok (.ldc2_w 19, 3) := dc20 bqX0_majority_94 13 rfl rfl rfl
theorem dX0_majority_110 : decode cX0_majority 110 = .ok (.lmul, 1) := dc105 bqX0_majority_94 16 rfl rfl
theorem dX0_majority_111 : decode cX0_majority 111 = .ok (.lstore 5, 2) := dc55 bqX0_majority_94 17 rfl rfl
theorem dX0_majority_113 : decode cX0_majority 113 = .ok (.iinc 7 1, 3) := dc132 bqX0_majority_94 19 rfl rfl rfl
theorem bqX0_majority_116 : hs_bs cX0_majority 116 [167, 255, 153, 9, 55, 7, 29, 5, 108, 4, 96, 54, 9, 21, 9, 29, 163, 0, 21, 22, 7, 42] := hs_bs_of _ _ _ (by decide +kernel)
theorem dX0_majority_116 : decode cX0_majority 116 = .ok (.goto (-103), 3) := dc167 bqX0_majority_116 0 rfl rfl rfl
theorem dX0_majority_119 : decode cX0_majority 119 = .ok (.lconst 0, 1) := dc9 bqX0_majority_116 3 rfl rfl
theorem dX0_majority_120 : decode cX0_majority 120 = .ok (.lstore 7, 2) := dc55 bqX0_majority_116 4 rfl rfl
theorem dX0_majority_122 : decode cX0_majority 122 = .ok (.iload_n 3, 1) := dc29 bqX0_majority_116 6 rfl rfl
theorem dX0_majority_123 : decode cX0_majority 123 = .ok (.iconst 2, 1) := dc5 bqX0_majority_116 7 rfl rfl
theorem dX0_majority_124 : decode cX0_majority 124 = .ok (.idiv, 1) := dc108 bqX0_majority_116 8 rfl rfl
theorem dX0_majority_125 : decode cX0_majority 125 = .ok (.iconst 1, 1) := dc4 bqX0_majority_116 9 rfl rfl
theorem dX0_majority_126 : decode cX0_majority 126 = .ok (.iadd, 1) := dc96 bqX0_majority_116 10 rfl rfl
theorem dX0_majority_127 : decode cX0_majority 127 = .ok (.istore 9, 2) := dc54 bqX0_majority_116 11 rfl rfl
theorem dX0_majority_129 : decode cX0_majority 129 = .ok (.iload 9, 2) := dc21 bqX0_majority_116 13 rfl rfl
theorem dX0_majority_131 : decode cX0_majority 131 = .ok (.iload_n 3, 1) := dc29 bqX0_majority_116 15 rfl rfl
theorem dX0_majority_132 : decode cX0_majority 132 = .ok (.if_icmp .gt 21, 3) := dc163 bqX0_majority_116 16 rfl rfl rfl
theorem dX0_majority_135 : decode cX0_majority 135 = .ok (.lload 7, 2) := dc22 bqX0_majority_116 19 rfl rfl
theorem dX0_majority_137 : decode cX0_majority 137 = .ok (.aload_n 0, 1) := dc42 bqX0_majority_116 21 rfl rfl
theorem bqX0_majority_138 : hs_bs cX0_majority 138 [180, 0, 9, 21, 9, 47, 97, 55, 7, 132, 9, 1, 167, 255, 235, 22, 7, 22, 5, 21, 4, 184, 0, 21] := hs_bs_of _ _ _ (by decide +kernel)
theorem dX0_majority_138 : decode cX0_majority 138 = .ok (.getfield 9, 3) := dc180 bqX0_majority_138 0 rfl rfl rfl
theorem dX0_majority_141 : decode cX0_majority 141 = .ok (.iload 9, 2) := dc21 bqX0_majority_138 3 rfl rfl
theorem dX0_majority_143 : decode cX0_majority 143 = .ok (.laload, 1) := dc47 bqX0_majority_138 5 rfl rfl
theorem dX0_majority_144 : decode cX0_majority 144 = .ok (.ladd, 1) := dc97 bqX0_majority_138 6 rfl rfl
theorem dX0_majority_145 : decode cX0_majority 145 = .ok (.lstore 7, 2) := dc55 bqX0_majority_138 7 rfl rfl
theorem dX0_majority_147 : decode cX0_majority 147 = .ok (.iinc 9 1, 3) := dc132 bqX0_majority_138 9 rfl rfl rfl
theorem dX0_majority_150 : decode cX0_majority 150 = .ok (.goto (-21), 3) := dc167 bqX0_majority_138 12 rfl rfl rfl
theorem dX0_majority_153 : decode cX0_majority 153 = .ok (.lload 7, 2) := dc22 bqX0_majority_138 15 rfl rfl
theorem dX0_majority_155 : decode cX0_majority 155 = .ok (.lload 5, 2) := dc22 bqX0_majority_138 17 rfl rfl
theorem dX0_majority_157 : decode cX0_majority 157 = .ok (.iload 4, 2) := dc21 bqX0_majority_138 19 rfl rfl
theorem dX0_majority_159 : decode cX0_majority 159 = .ok (.invokestatic 21, 3) := dc184 bqX0_majority_138 21 rfl rfl rfl
theorem bqX0_majority_162 : hs_bs cX0_majority 162 [173] := hs_bs_of _ _ _ (by decide +kernel)
theorem dX0_majority_162 : decode cX0_majority 162 = .ok (.lreturn, 1) := dc173 bqX0_majority_162 0 rfl rfl
set_option maxRecDepth 20000 in
theorem gX0_expected_X0_saysJust : GoodIn wsX0_expected (va_wsS RX0 15 yX0_saysJust wsX0_saysJust) := hs_gC (hs_gS (hs_inG 3 189 rfl rfl) (hs_inG 3 190 rfl rfl) (hs_inG 1 6 rfl rfl) inC_X0_saysJust)
set_option maxRecDepth 20000 in
theorem gX0_expected_X0_lowest : GoodIn wsX0_expected (va_wsS RX0 21 yX0_lowest wsX0_lowest) := hs_gC (hs_gS (hs_inG 3 193 rfl rfl) (hs_inG 3 194 rfl rfl) (hs_inG 1 6 rfl rfl) inC_X0_lowest)
theorem bqX0_expected_0 : hs_bs cX0_expected 0 [9, 55, 4, 3, 54, 6, 21, 6, 28, 162, 0, 22, 22, 4, 26, 27, 21, 6, 184, 0, 15, 133, 97] := hs_bs_of _ _ _ (by decide +kernel)
theorem dX0_expected_0 : decode cX0_expected 0 = .ok (.lconst 0, 1) := dc9 bqX0_expected_0 0 rfl rfl
theorem dX0_expected_1 : decode cX0_expected 1 = .ok (.lstore 4, 2) := dc55 bqX0_expected_0 1 rfl rfl
theorem dX0_expected_3 : decode cX0_expected 3 = .ok (.iconst 0, 1) := dc3 bqX0_expected_0 3 rfl rfl
theorem dX0_expected_4 : decode cX0_expected 4 = .ok (.istore 6, 2) := dc54 bqX0_expected_0 4 rfl rfl
theorem dX0_expected_6 : decode cX0_expected 6 = .ok (.iload 6, 2) := dc21 bqX0_expected_0 6 rfl rfl
theorem dX0_expected_8 : decode cX0_expected 8 = .ok (.iload_n 2, 1) := dc28 bqX0_expected_0 8 rfl rfl
theorem dX0_expected_9 : decode cX0_expected 9 = .ok (.if_icmp .ge 22, 3) := dc162 bqX0_expected_0 9 rfl rfl rfl
theorem dX0_expected_12 : decode cX0_expected 12 = .ok (.lload 4, 2) := dc22 bqX0_expected_0 12 rfl rfl
theorem dX0_expected_14 : decode cX0_expected 14 = .ok (.iload_n 0, 1) := dc26 bqX0_expected_0 14 rfl rfl
theorem dX0_expected_15 : decode cX0_expected 15 = .ok (.iload_n 1, 1) := dc27 bqX0_expected_0 15 rfl rfl
theorem dX0_expected_16 : decode cX0_expected 16 = .ok (.iload 6, 2) := dc21 bqX0_expected_0 16 rfl rfl
theorem dX0_expected_18 : decode cX0_expected 18 = .ok (.invokestatic 15, 3) := dc184 bqX0_expected_0 18 rfl rfl rfl
theorem dX0_expected_21 : decode cX0_expected 21 = .ok (.i2l, 1) := dc133 bqX0_expected_0 21 rfl rfl
theorem dX0_expected_22 : decode cX0_expected 22 = .ok (.ladd, 1) := dc97 bqX0_expected_0 22 rfl rfl
theorem bqX0_expected_23 : hs_bs cX0_expected 23 [55, 4, 132, 6, 1, 167, 255, 234, 22, 4, 20, 0, 19, 29, 184, 0, 21, 173] := hs_bs_of _ _ _ (by decide +kernel)
theorem dX0_expected_23 : decode cX0_expected 23 = .ok (.lstore 4, 2) := dc55 bqX0_expected_23 0 rfl rfl
theorem dX0_expected_25 : decode cX0_expected 25 = .ok (.iinc 6 1, 3) := dc132 bqX0_expected_23 2 rfl rfl rfl
theorem dX0_expected_28 : decode cX0_expected 28 = .ok (.goto (-22), 3) := dc167 bqX0_expected_23 5 rfl rfl rfl
theorem dX0_expected_31 : decode cX0_expected 31 = .ok (.lload 4, 2) := dc22 bqX0_expected_23 8 rfl rfl
theorem dX0_expected_33 : decode cX0_expected 33 = .ok (.ldc2_w 19, 3) := dc20 bqX0_expected_23 10 rfl rfl rfl
theorem dX0_expected_36 : decode cX0_expected 36 = .ok (.iload_n 3, 1) := dc29 bqX0_expected_23 13 rfl rfl
theorem dX0_expected_37 : decode cX0_expected 37 = .ok (.invokestatic 21, 3) := dc184 bqX0_expected_23 14 rfl rfl rfl
theorem dX0_expected_40 : decode cX0_expected 40 = .ok (.lreturn, 1) := dc173 bqX0_expected_23 17 rfl rfl
theorem bqX0_saysJust_0 : hs_bs cX0_saysJust 0 [27, 28, 122, 4, 126, 4, 160, 0, 10, 16, 10, 26, 100, 167, 0, 4, 26, 172] := hs_bs_of _ _ _ (by decide +kernel)
theorem dX0_saysJust_0 : decode cX0_saysJust 0 = .ok (.iload_n 1, 1) := dc27 bqX0_saysJust_0 0 rfl rfl
theorem dX0_saysJust_1 : decode cX0_saysJust 1 = .ok (.iload_n 2, 1) := dc28 bqX0_saysJust_0 1 rfl rfl
theorem dX0_saysJust_2 : decode cX0_saysJust 2 = .ok (.ishr, 1) := dc122 bqX0_saysJust_0 2 rfl rfl
theorem dX0_saysJust_3 : decode cX0_saysJust 3 = .ok (.iconst 1, 1) := dc4 bqX0_saysJust_0 3 rfl rfl
theorem dX0_saysJust_4 : decode cX0_saysJust 4 = .ok (.iand, 1) := dc126 bqX0_saysJust_0 4 rfl rfl
theorem dX0_saysJust_5 : decode cX0_saysJust 5 = .ok (.iconst 1, 1) := dc4 bqX0_saysJust_0 5 rfl rfl
theorem dX0_saysJust_6 : decode cX0_saysJust 6 = .ok (.if_icmp .ne 10, 3) := dc160 bqX0_saysJust_0 6 rfl rfl rfl
theorem dX0_saysJust_9 : decode cX0_saysJust 9 = .ok (.bipush 10, 2) := dc16 bqX0_saysJust_0 9 rfl rfl rfl
theorem dX0_saysJust_11 : decode cX0_saysJust 11 = .ok (.iload_n 0, 1) := dc26 bqX0_saysJust_0 11 rfl rfl
theorem dX0_saysJust_12 : decode cX0_saysJust 12 = .ok (.isub, 1) := dc100 bqX0_saysJust_0 12 rfl rfl
theorem dX0_saysJust_13 : decode cX0_saysJust 13 = .ok (.goto 4, 3) := dc167 bqX0_saysJust_0 13 rfl rfl rfl
theorem dX0_saysJust_16 : decode cX0_saysJust 16 = .ok (.iload_n 0, 1) := dc26 bqX0_saysJust_0 16 rfl rfl
theorem dX0_saysJust_17 : decode cX0_saysJust 17 = .ok (.ireturn, 1) := dc172 bqX0_saysJust_0 17 rfl rfl
theorem bqX0_lowest_0 : hs_bs cX0_lowest 0 [32, 55, 5, 30, 55, 7, 3, 54, 9, 21, 9, 16, 100, 162, 0, 31, 22, 7, 9, 148, 153, 0, 24] := hs_bs_of _ _ _ (by decide +kernel)
theorem dX0_lowest_0 : decode cX0_lowest 0 = .ok (.lload_n 2, 1) := dc32 bqX0_lowest_0 0 rfl rfl
theorem dX0_lowest_1 : decode cX0_lowest 1 = .ok (.lstore 5, 2) := dc55 bqX0_lowest_0 1 rfl rfl
theorem dX0_lowest_3 : decode cX0_lowest 3 = .ok (.lload_n 0, 1) := dc30 bqX0_lowest_0 3 rfl rfl
theorem dX0_lowest_4 : decode cX0_lowest 4 = .ok (.lstore 7, 2) := dc55 bqX0_lowest_0 4 rfl rfl
theorem dX0_lowest_6 : decode cX0_lowest 6 = .ok (.iconst 0, 1) := dc3 bqX0_lowest_0 6 rfl rfl
theorem dX0_lowest_7 : decode cX0_lowest 7 = .ok (.istore 9, 2) := dc54 bqX0_lowest_0 7 rfl rfl
theorem dX0_lowest_9 : decode cX0_lowest 9 = .ok (.iload 9, 2) := dc21 bqX0_lowest_0 9 rfl rfl
theorem dX0_lowest_11 : decode cX0_lowest 11 = .ok (.bipush 100, 2) := dc16 bqX0_lowest_0 11 rfl rfl rfl
theorem dX0_lowest_13 : decode cX0_lowest 13 = .ok (.if_icmp .ge 31, 3) := dc162 bqX0_lowest_0 13 rfl rfl rfl
theorem dX0_lowest_16 : decode cX0_lowest 16 = .ok (.lload 7, 2) := dc22 bqX0_lowest_0 16 rfl rfl
theorem dX0_lowest_18 : decode cX0_lowest 18 = .ok (.lconst 0, 1) := dc9 bqX0_lowest_0 18 rfl rfl
theorem dX0_lowest_19 : decode cX0_lowest 19 = .ok (.lcmp, 1) := dc148 bqX0_lowest_0 19 rfl rfl
theorem dX0_lowest_20 : decode cX0_lowest 20 = .ok (.ifCond .eq 24, 3) := dc153 bqX0_lowest_0 20 rfl rfl rfl
theorem bqX0_lowest_23 : hs_bs cX0_lowest 23 [22, 5, 22, 7, 113, 55, 10, 22, 7, 55, 5, 22, 10, 55, 7, 132, 9, 1, 167, 255, 224, 22, 5, 9] := hs_bs_of _ _ _ (by decide +kernel)
theorem dX0_lowest_23 : decode cX0_lowest 23 = .ok (.lload 5, 2) := dc22 bqX0_lowest_23 0 rfl rfl
theorem dX0_lowest_25 : decode cX0_lowest 25 = .ok (.lload 7, 2) := dc22 bqX0_lowest_23 2 rfl rfl
theorem dX0_lowest_27 : decode cX0_lowest 27 = .ok (.lrem, 1) := dc113 bqX0_lowest_23 4 rfl rfl
theorem dX0_lowest_28 : decode cX0_lowest 28 = .ok (.lstore 10, 2) := dc55 bqX0_lowest_23 5 rfl rfl
theorem dX0_lowest_30 : decode cX0_lowest 30 = .ok (.lload 7, 2) := dc22 bqX0_lowest_23 7 rfl rfl
theorem dX0_lowest_32 : decode cX0_lowest 32 = .ok (.lstore 5, 2) := dc55 bqX0_lowest_23 9 rfl rfl
theorem dX0_lowest_34 : decode cX0_lowest 34 = .ok (.lload 10, 2) := dc22 bqX0_lowest_23 11 rfl rfl
theorem dX0_lowest_36 : decode cX0_lowest 36 = .ok (.lstore 7, 2) := dc55 bqX0_lowest_23 13 rfl rfl
theorem dX0_lowest_38 : decode cX0_lowest 38 = .ok (.iinc 9 1, 3) := dc132 bqX0_lowest_23 15 rfl rfl rfl
theorem dX0_lowest_41 : decode cX0_lowest 41 = .ok (.goto (-32), 3) := dc167 bqX0_lowest_23 18 rfl rfl rfl
theorem dX0_lowest_44 : decode cX0_lowest 44 = .ok (.lload 5, 2) := dc22 bqX0_lowest_23 21 rfl rfl
theorem dX0_lowest_46 : decode cX0_lowest 46 = .ok (.lconst 0, 1) := dc9 bqX0_lowest_23 23 rfl rfl
theorem bqX0_lowest_47 : hs_bs cX0_lowest 47 [148, 154, 0, 7, 20, 0, 25, 173, 21, 4, 154, 0, 10, 30, 22, 5, 109, 167, 0, 7, 32, 22, 5, 109] := hs_bs_of _ _ _ (by decide +kernel)
theorem dX0_lowest_47 : decode cX0_lowest 47 = .ok (.lcmp, 1) := dc148 bqX0_lowest_47 0 rfl rfl
theorem dX0_lowest_48 : decode cX0_lowest 48 = .ok (.ifCond .ne 7, 3) := dc154 bqX0_lowest_47 1 rfl rfl rfl
theorem dX0_lowest_51 : decode cX0_lowest 51 = .ok (.ldc2_w 25, 3) := dc20 bqX0_lowest_47 4 rfl rfl rfl
theorem dX0_lowest_54 : decode cX0_lowest 54 = .ok (.lreturn, 1) := dc173 bqX0_lowest_47 7 rfl rfl
theorem dX0_lowest_55 : decode cX0_lowest 55 = .ok (.iload 4, 2) := dc21 bqX0_lowest_47 8 rfl rfl
theorem dX0_lowest_57 : decode cX0_lowest 57 = .ok (.ifCond .ne 10, 3) := dc154 bqX0_lowest_47 10 rfl rfl rfl
theorem dX0_lowest_60 : decode cX0_lowest 60 = .ok (.lload_n 0, 1) := dc30 bqX0_lowest_47 13 rfl rfl
theorem dX0_lowest_61 : decode cX0_lowest 61 = .ok (.lload 5, 2) := dc22 bqX0_lowest_47 14 rfl rfl
theorem dX0_lowest_63 : decode cX0_lowest 63 = .ok (.ldiv, 1) := dc109 bqX0_lowest_47 16 rfl rfl
theorem dX0_lowest_64 : decode cX0_lowest 64 = .ok (.goto 7, 3) := dc167 bqX0_lowest_47 17 rfl rfl rfl
theorem dX0_lowest_67 : decode cX0_lowest 67 = .ok (.lload_n 2, 1) := dc32 bqX0_lowest_47 20 rfl rfl
theorem dX0_lowest_68 : decode cX0_lowest 68 = .ok (.lload 5, 2) := dc22 bqX0_lowest_47 21 rfl rfl
theorem dX0_lowest_70 : decode cX0_lowest 70 = .ok (.ldiv, 1) := dc109 bqX0_lowest_47 23 rfl rfl
theorem bqX0_lowest_71 : hs_bs cX0_lowest 71 [173] := hs_bs_of _ _ _ (by decide +kernel)
theorem dX0_lowest_71 : decode cX0_lowest 71 = .ok (.lreturn, 1) := dc173 bqX0_lowest_71 0 rfl rfl
set_option maxRecDepth 20000 in
theorem gX1_honestCut_X6_leftOf : GoodIn wsX1_honestCut (wsV RX1 9 RX6 yX6_leftOf wsX6_leftOf) := hs_gC (hs_gV (hs_inG 3 97 rfl rfl) (hs_inG 3 61 rfl rfl) (hs_inG 3 62 rfl rfl) (hs_inG 1 2 rfl rfl) inC_X6_leftOf)
set_option maxRecDepth 20000 in
theorem gX1_honestCut_X6_lead : GoodIn wsX1_honestCut (wsV RX1 15 RX6 yX6_lead wsX6_lead) := hs_gC (hs_gV (hs_inG 3 98 rfl rfl) (hs_inG 3 65 rfl rfl) (hs_inG 3 66 rfl rfl) (hs_inG 1 2 rfl rfl) inC_X6_lead)
theorem bqX1_honestCut_0 : hs_bs cX1_honestCut 0 [4, 61, 42, 27, 42, 4, 182, 0, 9, 182, 0, 15, 184, 0, 19, 62, 5, 54, 4, 21, 4, 42] := hs_bs_of _ _ _ (by decide +kernel)
theorem dX1_honestCut_0 : decode cX1_honestCut 0 = .ok (.iconst 1, 1) := dc4 bqX1_honestCut_0 0 rfl rfl
theorem dX1_honestCut_1 : decode cX1_honestCut 1 = .ok (.istore_n 2, 1) := dc61 bqX1_honestCut_0 1 rfl rfl
theorem dX1_honestCut_2 : decode cX1_honestCut 2 = .ok (.aload_n 0, 1) := dc42 bqX1_honestCut_0 2 rfl rfl
theorem dX1_honestCut_3 : decode cX1_honestCut 3 = .ok (.iload_n 1, 1) := dc27 bqX1_honestCut_0 3 rfl rfl
theorem dX1_honestCut_4 : decode cX1_honestCut 4 = .ok (.aload_n 0, 1) := dc42 bqX1_honestCut_0 4 rfl rfl
theorem dX1_honestCut_5 : decode cX1_honestCut 5 = .ok (.iconst 1, 1) := dc4 bqX1_honestCut_0 5 rfl rfl
theorem dX1_honestCut_6 : decode cX1_honestCut 6 = .ok (.invokevirtual 9, 3) := dc182 bqX1_honestCut_0 6 rfl rfl rfl
theorem dX1_honestCut_9 : decode cX1_honestCut 9 = .ok (.invokevirtual 15, 3) := dc182 bqX1_honestCut_0 9 rfl rfl rfl
theorem dX1_honestCut_12 : decode cX1_honestCut 12 = .ok (.invokestatic 19, 3) := dc184 bqX1_honestCut_0 12 rfl rfl rfl
theorem dX1_honestCut_15 : decode cX1_honestCut 15 = .ok (.istore_n 3, 1) := dc62 bqX1_honestCut_0 15 rfl rfl
theorem dX1_honestCut_16 : decode cX1_honestCut 16 = .ok (.iconst 2, 1) := dc5 bqX1_honestCut_0 16 rfl rfl
theorem dX1_honestCut_17 : decode cX1_honestCut 17 = .ok (.istore 4, 2) := dc54 bqX1_honestCut_0 17 rfl rfl
theorem dX1_honestCut_19 : decode cX1_honestCut 19 = .ok (.iload 4, 2) := dc21 bqX1_honestCut_0 19 rfl rfl
theorem dX1_honestCut_21 : decode cX1_honestCut 21 = .ok (.aload_n 0, 1) := dc42 bqX1_honestCut_0 21 rfl rfl
theorem bqX1_honestCut_22 : hs_bs cX1_honestCut 22 [180, 0, 24, 162, 0, 37, 42, 27, 42, 21, 4, 182, 0, 9, 182, 0, 15, 184, 0, 19, 54, 5, 21, 5] := hs_bs_of _ _ _ (by decide +kernel)
theorem dX1_honestCut_22 : decode cX1_honestCut 22 = .ok (.getfield 24, 3) := dc180 bqX1_honestCut_22 0 rfl rfl rfl
theorem dX1_honestCut_25 : decode cX1_honestCut 25 = .ok (.if_icmp .ge 37, 3) := dc162 bqX1_honestCut_22 3 rfl rfl rfl
theorem dX1_honestCut_28 : decode cX1_honestCut 28 = .ok (.aload_n 0, 1) := dc42 bqX1_honestCut_22 6 rfl rfl
theorem dX1_honestCut_29 : decode cX1_honestCut 29 = .ok (.iload_n 1, 1) := dc27 bqX1_honestCut_22 7 rfl rfl
theorem dX1_honestCut_30 : decode cX1_honestCut 30 = .ok (.aload_n 0, 1) := dc42 bqX1_honestCut_22 8 rfl rfl
theorem dX1_honestCut_31 : decode cX1_honestCut 31 = .ok (.iload 4, 2) := dc21 bqX1_honestCut_22 9 rfl rfl
theorem dX1_honestCut_33 : decode cX1_honestCut 33 = .ok (.invokevirtual 9, 3) := dc182 bqX1_honestCut_22 11 rfl rfl rfl
theorem dX1_honestCut_36 : decode cX1_honestCut 36 = .ok (.invokevirtual 15, 3) := dc182 bqX1_honestCut_22 14 rfl rfl rfl
theorem dX1_honestCut_39 : decode cX1_honestCut 39 = .ok (.invokestatic 19, 3) := dc184 bqX1_honestCut_22 17 rfl rfl rfl
theorem dX1_honestCut_42 : decode cX1_honestCut 42 = .ok (.istore 5, 2) := dc54 bqX1_honestCut_22 20 rfl rfl
theorem dX1_honestCut_44 : decode cX1_honestCut 44 = .ok (.iload 5, 2) := dc21 bqX1_honestCut_22 22 rfl rfl
theorem bqX1_honestCut_46 : hs_bs cX1_honestCut 46 [29, 162, 0, 9, 21, 4, 61, 21, 5, 62, 132, 4, 1, 167, 255, 216, 28, 172] := hs_bs_of _ _ _ (by decide +kernel)
theorem dX1_honestCut_46 : decode cX1_honestCut 46 = .ok (.iload_n 3, 1) := dc29 bqX1_honestCut_46 0 rfl rfl
theorem dX1_honestCut_47 : decode cX1_honestCut 47 = .ok (.if_icmp .ge 9, 3) := dc162 bqX1_honestCut_46 1 rfl rfl rfl
theorem dX1_honestCut_50 : decode cX1_honestCut 50 = .ok (.iload 4, 2) := dc21 bqX1_honestCut_46 4 rfl rfl
theorem dX1_honestCut_52 : decode cX1_honestCut 52 = .ok (.istore_n 2, 1) := dc61 bqX1_honestCut_46 6 rfl rfl
theorem dX1_honestCut_53 : decode cX1_honestCut 53 = .ok (.iload 5, 2) := dc21 bqX1_honestCut_46 7 rfl rfl
theorem dX1_honestCut_55 : decode cX1_honestCut 55 = .ok (.istore_n 3, 1) := dc62 bqX1_honestCut_46 9 rfl rfl
theorem dX1_honestCut_56 : decode cX1_honestCut 56 = .ok (.iinc 4 1, 3) := dc132 bqX1_honestCut_46 10 rfl rfl rfl
theorem dX1_honestCut_59 : decode cX1_honestCut 59 = .ok (.goto (-40), 3) := dc167 bqX1_honestCut_46 13 rfl rfl rfl
theorem dX1_honestCut_62 : decode cX1_honestCut 62 = .ok (.iload_n 2, 1) := dc28 bqX1_honestCut_46 16 rfl rfl
theorem dX1_honestCut_63 : decode cX1_honestCut 63 = .ok (.ireturn, 1) := dc172 bqX1_honestCut_46 17 rfl rfl
set_option maxRecDepth 20000 in
theorem gX1_choice_X6_leftOf : GoodIn wsX1_choice (wsV RX1 9 RX6 yX6_leftOf wsX6_leftOf) := hs_gC (hs_gV (hs_inG 3 97 rfl rfl) (hs_inG 3 61 rfl rfl) (hs_inG 3 62 rfl rfl) (hs_inG 1 2 rfl rfl) inC_X6_leftOf)
set_option maxRecDepth 20000 in
theorem gX1_choice_X6_lead : GoodIn wsX1_choice (wsV RX1 15 RX6 yX6_lead wsX6_lead) := hs_gC (hs_gV (hs_inG 3 98 rfl rfl) (hs_inG 3 65 rfl rfl) (hs_inG 3 66 rfl rfl) (hs_inG 1 2 rfl rfl) inC_X6_lead)
set_option maxRecDepth 20000 in
theorem gX1_choice_X6_allCells : GoodIn wsX1_choice (wsV RX1 28 RX6 yX6_allCells wsX6_allCells) := hs_gC (hs_gV (hs_inG 3 111 rfl rfl) (hs_inG 3 37 rfl rfl) (hs_inG 3 38 rfl rfl) (hs_inG 1 2 rfl rfl) inC_X6_allCells)
theorem bqX1_choice_0 : hs_bs cX1_choice 0 [42, 28, 182, 0, 9, 62, 42, 27, 29, 182, 0, 15, 155, 0, 7, 29, 167, 0, 11, 42, 182, 0, 28, 29] := hs_bs_of _ _ _ (by decide +kernel)
theorem dX1_choice_0 : decode cX1_choice 0 = .ok (.aload_n 0, 1) := dc42 bqX1_choice_0 0 rfl rfl
theorem dX1_choice_1 : decode cX1_choice 1 = .ok (.iload_n 2, 1) := dc28 bqX1_choice_0 1 rfl rfl
theorem dX1_choice_2 : decode cX1_choice 2 = .ok (.invokevirtual 9, 3) := dc182 bqX1_choice_0 2 rfl rfl rfl
theorem dX1_choice_5 : decode cX1_choice 5 = .ok (.istore_n 3, 1) := dc62 bqX1_choice_0 5 rfl rfl
theorem dX1_choice_6 : decode cX1_choice 6 = .ok (.aload_n 0, 1) := dc42 bqX1_choice_0 6 rfl rfl
theorem dX1_choice_7 : decode cX1_choice 7 = .ok (.iload_n 1, 1) := dc27 bqX1_choice_0 7 rfl rfl
theorem dX1_choice_8 : decode cX1_choice 8 = .ok (.iload_n 3, 1) := dc29 bqX1_choice_0 8 rfl rfl
theorem dX1_choice_9 : decode cX1_choice 9 = .ok (.invokevirtual 15, 3) := dc182 bqX1_choice_0 9 rfl rfl rfl
theorem dX1_choice_12 : decode cX1_choice 12 = .ok (.ifCond .lt 7, 3) := dc155 bqX1_choice_0 12 rfl rfl rfl
theorem dX1_choice_15 : decode cX1_choice 15 = .ok (.iload_n 3, 1) := dc29 bqX1_choice_0 15 rfl rfl
theorem dX1_choice_16 : decode cX1_choice 16 = .ok (.goto 11, 3) := dc167 bqX1_choice_0 16 rfl rfl rfl
theorem dX1_choice_19 : decode cX1_choice 19 = .ok (.aload_n 0, 1) := dc42 bqX1_choice_0 19 rfl rfl
theorem dX1_choice_20 : decode cX1_choice 20 = .ok (.invokevirtual 28, 3) := dc182 bqX1_choice_0 20 rfl rfl rfl
theorem dX1_choice_23 : decode cX1_choice 23 = .ok (.iload_n 3, 1) := dc29 bqX1_choice_0 23 rfl rfl
theorem bqX1_choice_24 : hs_bs cX1_choice 24 [2, 130, 126, 172] := hs_bs_of _ _ _ (by decide +kernel)
theorem dX1_choice_24 : decode cX1_choice 24 = .ok (.iconst (-1), 1) := dc2 bqX1_choice_24 0 rfl rfl
theorem dX1_choice_25 : decode cX1_choice 25 = .ok (.ixor, 1) := dc130 bqX1_choice_24 1 rfl rfl
theorem dX1_choice_26 : decode cX1_choice 26 = .ok (.iand, 1) := dc126 bqX1_choice_24 2 rfl rfl
theorem dX1_choice_27 : decode cX1_choice 27 = .ok (.ireturn, 1) := dc172 bqX1_choice_24 3 rfl rfl
set_option maxRecDepth 20000 in
theorem gX1_leftOver_X6_allCells : GoodIn wsX1_leftOver (wsV RX1 28 RX6 yX6_allCells wsX6_allCells) := hs_gC (hs_gV (hs_inG 3 111 rfl rfl) (hs_inG 3 37 rfl rfl) (hs_inG 3 38 rfl rfl) (hs_inG 1 2 rfl rfl) inC_X6_allCells)
set_option maxRecDepth 20000 in
theorem gX1_leftOver_X1_choice : GoodIn wsX1_leftOver (va_wsS RX1 32 yX1_choice wsX1_choice) := hs_gC (hs_gS (hs_inG 3 122 rfl rfl) (hs_inG 3 109 rfl rfl) (hs_inG 1 16 rfl rfl) inC_X1_choice)
set_option maxRecDepth 20000 in
theorem gX1_leftOver_X6_worthOf : GoodIn wsX1_leftOver (wsV RX1 38 RX6 yX6_worthOf wsX6_worthOf) := hs_gC (hs_gV (hs_inG 3 123 rfl rfl) (hs_inG 3 41 rfl rfl) (hs_inG 3 42 rfl rfl) (hs_inG 1 2 rfl rfl) inC_X6_worthOf)
theorem bqX1_leftOver_0 : hs_bs cX1_leftOver 0 [42, 27, 42, 182, 0, 28, 42, 28, 29, 184, 0, 32, 2, 130, 126, 182, 0, 38, 172] := hs_bs_of _ _ _ (by decide +kernel)
theorem dX1_leftOver_0 : decode cX1_leftOver 0 = .ok (.aload_n 0, 1) := dc42 bqX1_leftOver_0 0 rfl rfl
theorem dX1_leftOver_1 : decode cX1_leftOver 1 = .ok (.iload_n 1, 1) := dc27 bqX1_leftOver_0 1 rfl rfl
theorem dX1_leftOver_2 : decode cX1_leftOver 2 = .ok (.aload_n 0, 1) := dc42 bqX1_leftOver_0 2 rfl rfl
theorem dX1_leftOver_3 : decode cX1_leftOver 3 = .ok (.invokevirtual 28, 3) := dc182 bqX1_leftOver_0 3 rfl rfl rfl
theorem dX1_leftOver_6 : decode cX1_leftOver 6 = .ok (.aload_n 0, 1) := dc42 bqX1_leftOver_0 6 rfl rfl
theorem dX1_leftOver_7 : decode cX1_leftOver 7 = .ok (.iload_n 2, 1) := dc28 bqX1_leftOver_0 7 rfl rfl
theorem dX1_leftOver_8 : decode cX1_leftOver 8 = .ok (.iload_n 3, 1) := dc29 bqX1_leftOver_0 8 rfl rfl
theorem dX1_leftOver_9 : decode cX1_leftOver 9 = .ok (.invokestatic 32, 3) := dc184 bqX1_leftOver_0 9 rfl rfl rfl
theorem dX1_leftOver_12 : decode cX1_leftOver 12 = .ok (.iconst (-1), 1) := dc2 bqX1_leftOver_0 12 rfl rfl
theorem dX1_leftOver_13 : decode cX1_leftOver 13 = .ok (.ixor, 1) := dc130 bqX1_leftOver_0 13 rfl rfl
theorem dX1_leftOver_14 : decode cX1_leftOver 14 = .ok (.iand, 1) := dc126 bqX1_leftOver_0 14 rfl rfl
theorem dX1_leftOver_15 : decode cX1_leftOver 15 = .ok (.invokevirtual 38, 3) := dc182 bqX1_leftOver_0 15 rfl rfl rfl
theorem dX1_leftOver_18 : decode cX1_leftOver 18 = .ok (.ireturn, 1) := dc172 bqX1_leftOver_0 18 rfl rfl
set_option maxRecDepth 20000 in
theorem gX1_slyCut_X1_leftOver : GoodIn wsX1_slyCut (va_wsS RX1 41 yX1_leftOver wsX1_leftOver) := hs_gC (hs_gS (hs_inG 3 119 rfl rfl) (hs_inG 3 120 rfl rfl) (hs_inG 1 16 rfl rfl) inC_X1_leftOver)
theorem bqX1_slyCut_0 : hs_bs cX1_slyCut 0 [4, 62, 42, 27, 28, 4, 184, 0, 41, 54, 4, 5, 54, 5, 21, 5, 42, 180, 0, 24, 162, 0, 33, 42] := hs_bs_of _ _ _ (by decide +kernel)
theorem dX1_slyCut_0 : decode cX1_slyCut 0 = .ok (.iconst 1, 1) := dc4 bqX1_slyCut_0 0 rfl rfl
theorem dX1_slyCut_1 : decode cX1_slyCut 1 = .ok (.istore_n 3, 1) := dc62 bqX1_slyCut_0 1 rfl rfl
theorem dX1_slyCut_2 : decode cX1_slyCut 2 = .ok (.aload_n 0, 1) := dc42 bqX1_slyCut_0 2 rfl rfl
theorem dX1_slyCut_3 : decode cX1_slyCut 3 = .ok (.iload_n 1, 1) := dc27 bqX1_slyCut_0 3 rfl rfl
theorem dX1_slyCut_4 : decode cX1_slyCut 4 = .ok (.iload_n 2, 1) := dc28 bqX1_slyCut_0 4 rfl rfl
theorem dX1_slyCut_5 : decode cX1_slyCut 5 = .ok (.iconst 1, 1) := dc4 bqX1_slyCut_0 5 rfl rfl
theorem dX1_slyCut_6 : decode cX1_slyCut 6 = .ok (.invokestatic 41, 3) := dc184 bqX1_slyCut_0 6 rfl rfl rfl
theorem dX1_slyCut_9 : decode cX1_slyCut 9 = .ok (.istore 4, 2) := dc54 bqX1_slyCut_0 9 rfl rfl
theorem dX1_slyCut_11 : decode cX1_slyCut 11 = .ok (.iconst 2, 1) := dc5 bqX1_slyCut_0 11 rfl rfl
theorem dX1_slyCut_12 : decode cX1_slyCut 12 = .ok (.istore 5, 2) := dc54 bqX1_slyCut_0 12 rfl rfl
theorem dX1_slyCut_14 : decode cX1_slyCut 14 = .ok (.iload 5, 2) := dc21 bqX1_slyCut_0 14 rfl rfl
theorem dX1_slyCut_16 : decode cX1_slyCut 16 = .ok (.aload_n 0, 1) := dc42 bqX1_slyCut_0 16 rfl rfl
theorem dX1_slyCut_17 : decode cX1_slyCut 17 = .ok (.getfield 24, 3) := dc180 bqX1_slyCut_0 17 rfl rfl rfl
theorem dX1_slyCut_20 : decode cX1_slyCut 20 = .ok (.if_icmp .ge 33, 3) := dc162 bqX1_slyCut_0 20 rfl rfl rfl
theorem dX1_slyCut_23 : decode cX1_slyCut 23 = .ok (.aload_n 0, 1) := dc42 bqX1_slyCut_0 23 rfl rfl
theorem bqX1_slyCut_24 : hs_bs cX1_slyCut 24 [27, 28, 21, 5, 184, 0, 41, 54, 6, 21, 6, 21, 4, 164, 0, 10, 21, 5, 62, 21, 6, 54, 4] := hs_bs_of _ _ _ (by decide +kernel)
theorem dX1_slyCut_24 : decode cX1_slyCut 24 = .ok (.iload_n 1, 1) := dc27 bqX1_slyCut_24 0 rfl rfl
theorem dX1_slyCut_25 : decode cX1_slyCut 25 = .ok (.iload_n 2, 1) := dc28 bqX1_slyCut_24 1 rfl rfl
theorem dX1_slyCut_26 : decode cX1_slyCut 26 = .ok (.iload 5, 2) := dc21 bqX1_slyCut_24 2 rfl rfl
theorem dX1_slyCut_28 : decode cX1_slyCut 28 = .ok (.invokestatic 41, 3) := dc184 bqX1_slyCut_24 4 rfl rfl rfl
theorem dX1_slyCut_31 : decode cX1_slyCut 31 = .ok (.istore 6, 2) := dc54 bqX1_slyCut_24 7 rfl rfl
theorem dX1_slyCut_33 : decode cX1_slyCut 33 = .ok (.iload 6, 2) := dc21 bqX1_slyCut_24 9 rfl rfl
theorem dX1_slyCut_35 : decode cX1_slyCut 35 = .ok (.iload 4, 2) := dc21 bqX1_slyCut_24 11 rfl rfl
theorem dX1_slyCut_37 : decode cX1_slyCut 37 = .ok (.if_icmp .le 10, 3) := dc164 bqX1_slyCut_24 13 rfl rfl rfl
theorem dX1_slyCut_40 : decode cX1_slyCut 40 = .ok (.iload 5, 2) := dc21 bqX1_slyCut_24 16 rfl rfl
theorem dX1_slyCut_42 : decode cX1_slyCut 42 = .ok (.istore_n 3, 1) := dc62 bqX1_slyCut_24 18 rfl rfl
theorem dX1_slyCut_43 : decode cX1_slyCut 43 = .ok (.iload 6, 2) := dc21 bqX1_slyCut_24 19 rfl rfl
theorem dX1_slyCut_45 : decode cX1_slyCut 45 = .ok (.istore 4, 2) := dc54 bqX1_slyCut_24 21 rfl rfl
theorem bqX1_slyCut_47 : hs_bs cX1_slyCut 47 [132, 5, 1, 167, 255, 220, 29, 172] := hs_bs_of _ _ _ (by decide +kernel)
theorem dX1_slyCut_47 : decode cX1_slyCut 47 = .ok (.iinc 5 1, 3) := dc132 bqX1_slyCut_47 0 rfl rfl rfl
theorem dX1_slyCut_50 : decode cX1_slyCut 50 = .ok (.goto (-36), 3) := dc167 bqX1_slyCut_47 3 rfl rfl rfl
theorem dX1_slyCut_53 : decode cX1_slyCut 53 = .ok (.iload_n 3, 1) := dc29 bqX1_slyCut_47 6 rfl rfl
theorem dX1_slyCut_54 : decode cX1_slyCut 54 = .ok (.ireturn, 1) := dc172 bqX1_slyCut_47 7 rfl rfl
set_option maxRecDepth 20000 in
theorem gX1_cutsOf_J6_bitCount_0f7a4 : GoodIn wsX1_cutsOf (va_wsS RX1 45 yJ6_bitCount_0f7a4 wsJ6_bitCount_0f7a4) := hs_gC (hs_gS (hs_inG 3 139 rfl rfl) (hs_inG 3 85 rfl rfl) (hs_inG 1 15 rfl rfl) inC_J6_bitCount_0f7a4)
theorem bqX1_cutsOf_0 : hs_bs cX1_cutsOf 0 [4, 42, 180, 0, 24, 4, 100, 120, 4, 100, 61, 27, 27, 4, 122, 130, 28, 126, 184, 0, 45, 172] := hs_bs_of _ _ _ (by decide +kernel)
theorem dX1_cutsOf_0 : decode cX1_cutsOf 0 = .ok (.iconst 1, 1) := dc4 bqX1_cutsOf_0 0 rfl rfl
theorem dX1_cutsOf_1 : decode cX1_cutsOf 1 = .ok (.aload_n 0, 1) := dc42 bqX1_cutsOf_0 1 rfl rfl
theorem dX1_cutsOf_2 : decode cX1_cutsOf 2 = .ok (.getfield 24, 3) := dc180 bqX1_cutsOf_0 2 rfl rfl rfl
theorem dX1_cutsOf_5 : decode cX1_cutsOf 5 = .ok (.iconst 1, 1) := dc4 bqX1_cutsOf_0 5 rfl rfl
theorem dX1_cutsOf_6 : decode cX1_cutsOf 6 = .ok (.isub, 1) := dc100 bqX1_cutsOf_0 6 rfl rfl
theorem dX1_cutsOf_7 : decode cX1_cutsOf 7 = .ok (.ishl, 1) := dc120 bqX1_cutsOf_0 7 rfl rfl
theorem dX1_cutsOf_8 : decode cX1_cutsOf 8 = .ok (.iconst 1, 1) := dc4 bqX1_cutsOf_0 8 rfl rfl
theorem dX1_cutsOf_9 : decode cX1_cutsOf 9 = .ok (.isub, 1) := dc100 bqX1_cutsOf_0 9 rfl rfl
theorem dX1_cutsOf_10 : decode cX1_cutsOf 10 = .ok (.istore_n 2, 1) := dc61 bqX1_cutsOf_0 10 rfl rfl
theorem dX1_cutsOf_11 : decode cX1_cutsOf 11 = .ok (.iload_n 1, 1) := dc27 bqX1_cutsOf_0 11 rfl rfl
theorem dX1_cutsOf_12 : decode cX1_cutsOf 12 = .ok (.iload_n 1, 1) := dc27 bqX1_cutsOf_0 12 rfl rfl
theorem dX1_cutsOf_13 : decode cX1_cutsOf 13 = .ok (.iconst 1, 1) := dc4 bqX1_cutsOf_0 13 rfl rfl
theorem dX1_cutsOf_14 : decode cX1_cutsOf 14 = .ok (.ishr, 1) := dc122 bqX1_cutsOf_0 14 rfl rfl
theorem dX1_cutsOf_15 : decode cX1_cutsOf 15 = .ok (.ixor, 1) := dc130 bqX1_cutsOf_0 15 rfl rfl
theorem dX1_cutsOf_16 : decode cX1_cutsOf 16 = .ok (.iload_n 2, 1) := dc28 bqX1_cutsOf_0 16 rfl rfl
theorem dX1_cutsOf_17 : decode cX1_cutsOf 17 = .ok (.iand, 1) := dc126 bqX1_cutsOf_0 17 rfl rfl
theorem dX1_cutsOf_18 : decode cX1_cutsOf 18 = .ok (.invokestatic 45, 3) := dc184 bqX1_cutsOf_0 18 rfl rfl rfl
theorem dX1_cutsOf_21 : decode cX1_cutsOf 21 = .ok (.ireturn, 1) := dc172 bqX1_cutsOf_0 21 rfl rfl
set_option maxRecDepth 20000 in
theorem gX1_fewestCuts_X6_allCells : GoodIn wsX1_fewestCuts (wsV RX1 28 RX6 yX6_allCells wsX6_allCells) := hs_gC (hs_gV (hs_inG 3 111 rfl rfl) (hs_inG 3 37 rfl rfl) (hs_inG 3 38 rfl rfl) (hs_inG 1 2 rfl rfl) inC_X6_allCells)
set_option maxRecDepth 20000 in
theorem gX1_fewestCuts_X1_cutsOf : GoodIn wsX1_fewestCuts (va_wsS RX1 50 yX1_cutsOf wsX1_cutsOf) := hs_gC (hs_gS (hs_inG 3 136 rfl rfl) (hs_inG 3 137 rfl rfl) (hs_inG 1 16 rfl rfl) inC_X1_cutsOf)
set_option maxRecDepth 20000 in
theorem gX1_fewestCuts_X1_isJustToAll : GoodIn wsX1_fewestCuts (va_wsS RX1 54 yX1_isJustToAll wsX1_isJustToAll) := hs_gC (hs_gS (hs_inG 3 140 rfl rfl) (hs_inG 3 141 rfl rfl) (hs_inG 1 16 rfl rfl) inC_X1_isJustToAll)
theorem bqX1_fewestCuts_0 : hs_bs cX1_fewestCuts 0 [16, 252, 61, 16, 8, 62, 3, 54, 4, 21, 4, 42, 182, 0, 28, 163, 0, 39, 42, 21, 4, 184, 0, 50] := hs_bs_of _ _ _ (by decide +kernel)
theorem dX1_fewestCuts_0 : decode cX1_fewestCuts 0 = .ok (.bipush (-4), 2) := dc16 bqX1_fewestCuts_0 0 rfl rfl rfl
theorem dX1_fewestCuts_2 : decode cX1_fewestCuts 2 = .ok (.istore_n 2, 1) := dc61 bqX1_fewestCuts_0 2 rfl rfl
theorem dX1_fewestCuts_3 : decode cX1_fewestCuts 3 = .ok (.bipush 8, 2) := dc16 bqX1_fewestCuts_0 3 rfl rfl rfl
theorem dX1_fewestCuts_5 : decode cX1_fewestCuts 5 = .ok (.istore_n 3, 1) := dc62 bqX1_fewestCuts_0 5 rfl rfl
theorem dX1_fewestCuts_6 : decode cX1_fewestCuts 6 = .ok (.iconst 0, 1) := dc3 bqX1_fewestCuts_0 6 rfl rfl
theorem dX1_fewestCuts_7 : decode cX1_fewestCuts 7 = .ok (.istore 4, 2) := dc54 bqX1_fewestCuts_0 7 rfl rfl
theorem dX1_fewestCuts_9 : decode cX1_fewestCuts 9 = .ok (.iload 4, 2) := dc21 bqX1_fewestCuts_0 9 rfl rfl
theorem dX1_fewestCuts_11 : decode cX1_fewestCuts 11 = .ok (.aload_n 0, 1) := dc42 bqX1_fewestCuts_0 11 rfl rfl
theorem dX1_fewestCuts_12 : decode cX1_fewestCuts 12 = .ok (.invokevirtual 28, 3) := dc182 bqX1_fewestCuts_0 12 rfl rfl rfl
theorem dX1_fewestCuts_15 : decode cX1_fewestCuts 15 = .ok (.if_icmp .gt 39, 3) := dc163 bqX1_fewestCuts_0 15 rfl rfl rfl
theorem dX1_fewestCuts_18 : decode cX1_fewestCuts 18 = .ok (.aload_n 0, 1) := dc42 bqX1_fewestCuts_0 18 rfl rfl
theorem dX1_fewestCuts_19 : decode cX1_fewestCuts 19 = .ok (.iload 4, 2) := dc21 bqX1_fewestCuts_0 19 rfl rfl
theorem dX1_fewestCuts_21 : decode cX1_fewestCuts 21 = .ok (.invokestatic 50, 3) := dc184 bqX1_fewestCuts_0 21 rfl rfl rfl
theorem bqX1_fewestCuts_24 : hs_bs cX1_fewestCuts 24 [54, 5, 21, 5, 29, 162, 0, 19, 42, 27, 21, 4, 184, 0, 54, 153, 0, 9, 21, 4, 61, 21, 5, 62] := hs_bs_of _ _ _ (by decide +kernel)
theorem dX1_fewestCuts_24 : decode cX1_fewestCuts 24 = .ok (.istore 5, 2) := dc54 bqX1_fewestCuts_24 0 rfl rfl
theorem dX1_fewestCuts_26 : decode cX1_fewestCuts 26 = .ok (.iload 5, 2) := dc21 bqX1_fewestCuts_24 2 rfl rfl
theorem dX1_fewestCuts_28 : decode cX1_fewestCuts 28 = .ok (.iload_n 3, 1) := dc29 bqX1_fewestCuts_24 4 rfl rfl
theorem dX1_fewestCuts_29 : decode cX1_fewestCuts 29 = .ok (.if_icmp .ge 19, 3) := dc162 bqX1_fewestCuts_24 5 rfl rfl rfl
theorem dX1_fewestCuts_32 : decode cX1_fewestCuts 32 = .ok (.aload_n 0, 1) := dc42 bqX1_fewestCuts_24 8 rfl rfl
theorem dX1_fewestCuts_33 : decode cX1_fewestCuts 33 = .ok (.iload_n 1, 1) := dc27 bqX1_fewestCuts_24 9 rfl rfl
theorem dX1_fewestCuts_34 : decode cX1_fewestCuts 34 = .ok (.iload 4, 2) := dc21 bqX1_fewestCuts_24 10 rfl rfl
theorem dX1_fewestCuts_36 : decode cX1_fewestCuts 36 = .ok (.invokestatic 54, 3) := dc184 bqX1_fewestCuts_24 12 rfl rfl rfl
theorem dX1_fewestCuts_39 : decode cX1_fewestCuts 39 = .ok (.ifCond .eq 9, 3) := dc153 bqX1_fewestCuts_24 15 rfl rfl rfl
theorem dX1_fewestCuts_42 : decode cX1_fewestCuts 42 = .ok (.iload 4, 2) := dc21 bqX1_fewestCuts_24 18 rfl rfl
theorem dX1_fewestCuts_44 : decode cX1_fewestCuts 44 = .ok (.istore_n 2, 1) := dc61 bqX1_fewestCuts_24 20 rfl rfl
theorem dX1_fewestCuts_45 : decode cX1_fewestCuts 45 = .ok (.iload 5, 2) := dc21 bqX1_fewestCuts_24 21 rfl rfl
theorem dX1_fewestCuts_47 : decode cX1_fewestCuts 47 = .ok (.istore_n 3, 1) := dc62 bqX1_fewestCuts_24 23 rfl rfl
theorem bqX1_fewestCuts_48 : hs_bs cX1_fewestCuts 48 [132, 4, 1, 167, 255, 214, 28, 172] := hs_bs_of _ _ _ (by decide +kernel)
theorem dX1_fewestCuts_48 : decode cX1_fewestCuts 48 = .ok (.iinc 4 1, 3) := dc132 bqX1_fewestCuts_48 0 rfl rfl rfl
theorem dX1_fewestCuts_51 : decode cX1_fewestCuts 51 = .ok (.goto (-42), 3) := dc167 bqX1_fewestCuts_48 3 rfl rfl rfl
theorem dX1_fewestCuts_54 : decode cX1_fewestCuts 54 = .ok (.iload_n 2, 1) := dc28 bqX1_fewestCuts_48 6 rfl rfl
theorem dX1_fewestCuts_55 : decode cX1_fewestCuts 55 = .ok (.ireturn, 1) := dc172 bqX1_fewestCuts_48 7 rfl rfl
set_option maxRecDepth 20000 in
theorem gX1_isJustToAll_X6_lead : GoodIn wsX1_isJustToAll (wsV RX1 15 RX6 yX6_lead wsX6_lead) := hs_gC (hs_gV (hs_inG 3 98 rfl rfl) (hs_inG 3 65 rfl rfl) (hs_inG 3 66 rfl rfl) (hs_inG 1 2 rfl rfl) inC_X6_lead)
theorem bqX1_isJustToAll_0 : hs_bs cX1_isJustToAll 0 [3, 62, 29, 42, 180, 0, 58, 162, 0, 36, 27, 29, 122, 4, 126, 4, 160, 0, 21, 42, 29, 28] := hs_bs_of _ _ _ (by decide +kernel)
theorem dX1_isJustToAll_0 : decode cX1_isJustToAll 0 = .ok (.iconst 0, 1) := dc3 bqX1_isJustToAll_0 0 rfl rfl
theorem dX1_isJustToAll_1 : decode cX1_isJustToAll 1 = .ok (.istore_n 3, 1) := dc62 bqX1_isJustToAll_0 1 rfl rfl
theorem dX1_isJustToAll_2 : decode cX1_isJustToAll 2 = .ok (.iload_n 3, 1) := dc29 bqX1_isJustToAll_0 2 rfl rfl
theorem dX1_isJustToAll_3 : decode cX1_isJustToAll 3 = .ok (.aload_n 0, 1) := dc42 bqX1_isJustToAll_0 3 rfl rfl
theorem dX1_isJustToAll_4 : decode cX1_isJustToAll 4 = .ok (.getfield 58, 3) := dc180 bqX1_isJustToAll_0 4 rfl rfl rfl
theorem dX1_isJustToAll_7 : decode cX1_isJustToAll 7 = .ok (.if_icmp .ge 36, 3) := dc162 bqX1_isJustToAll_0 7 rfl rfl rfl
theorem dX1_isJustToAll_10 : decode cX1_isJustToAll 10 = .ok (.iload_n 1, 1) := dc27 bqX1_isJustToAll_0 10 rfl rfl
theorem dX1_isJustToAll_11 : decode cX1_isJustToAll 11 = .ok (.iload_n 3, 1) := dc29 bqX1_isJustToAll_0 11 rfl rfl
theorem dX1_isJustToAll_12 : decode cX1_isJustToAll 12 = .ok (.ishr, 1) := dc122 bqX1_isJustToAll_0 12 rfl rfl
theorem dX1_isJustToAll_13 : decode cX1_isJustToAll 13 = .ok (.iconst 1, 1) := dc4 bqX1_isJustToAll_0 13 rfl rfl
theorem dX1_isJustToAll_14 : decode cX1_isJustToAll 14 = .ok (.iand, 1) := dc126 bqX1_isJustToAll_0 14 rfl rfl
theorem dX1_isJustToAll_15 : decode cX1_isJustToAll 15 = .ok (.iconst 1, 1) := dc4 bqX1_isJustToAll_0 15 rfl rfl
theorem dX1_isJustToAll_16 : decode cX1_isJustToAll 16 = .ok (.if_icmp .ne 21, 3) := dc160 bqX1_isJustToAll_0 16 rfl rfl rfl
theorem dX1_isJustToAll_19 : decode cX1_isJustToAll 19 = .ok (.aload_n 0, 1) := dc42 bqX1_isJustToAll_0 19 rfl rfl
theorem dX1_isJustToAll_20 : decode cX1_isJustToAll 20 = .ok (.iload_n 3, 1) := dc29 bqX1_isJustToAll_0 20 rfl rfl
theorem dX1_isJustToAll_21 : decode cX1_isJustToAll 21 = .ok (.iload_n 2, 1) := dc28 bqX1_isJustToAll_0 21 rfl rfl
theorem bqX1_isJustToAll_22 : hs_bs cX1_isJustToAll 22 [182, 0, 15, 184, 0, 19, 42, 180, 0, 61, 164, 0, 5, 3, 172, 132, 3, 1, 167, 255, 218, 4, 172] := hs_bs_of _ _ _ (by decide +kernel)
theorem dX1_isJustToAll_22 : decode cX1_isJustToAll 22 = .ok (.invokevirtual 15, 3) := dc182 bqX1_isJustToAll_22 0 rfl rfl rfl
theorem dX1_isJustToAll_25 : decode cX1_isJustToAll 25 = .ok (.invokestatic 19, 3) := dc184 bqX1_isJustToAll_22 3 rfl rfl rfl
theorem dX1_isJustToAll_28 : decode cX1_isJustToAll 28 = .ok (.aload_n 0, 1) := dc42 bqX1_isJustToAll_22 6 rfl rfl
theorem dX1_isJustToAll_29 : decode cX1_isJustToAll 29 = .ok (.getfield 61, 3) := dc180 bqX1_isJustToAll_22 7 rfl rfl rfl
theorem dX1_isJustToAll_32 : decode cX1_isJustToAll 32 = .ok (.if_icmp .le 5, 3) := dc164 bqX1_isJustToAll_22 10 rfl rfl rfl
theorem dX1_isJustToAll_35 : decode cX1_isJustToAll 35 = .ok (.iconst 0, 1) := dc3 bqX1_isJustToAll_22 13 rfl rfl
theorem dX1_isJustToAll_36 : decode cX1_isJustToAll 36 = .ok (.ireturn, 1) := dc172 bqX1_isJustToAll_22 14 rfl rfl
theorem dX1_isJustToAll_37 : decode cX1_isJustToAll 37 = .ok (.iinc 3 1, 3) := dc132 bqX1_isJustToAll_22 15 rfl rfl rfl
theorem dX1_isJustToAll_40 : decode cX1_isJustToAll 40 = .ok (.goto (-38), 3) := dc167 bqX1_isJustToAll_22 18 rfl rfl rfl
theorem dX1_isJustToAll_43 : decode cX1_isJustToAll 43 = .ok (.iconst 1, 1) := dc4 bqX1_isJustToAll_22 21 rfl rfl
theorem dX1_isJustToAll_44 : decode cX1_isJustToAll 44 = .ok (.ireturn, 1) := dc172 bqX1_isJustToAll_22 22 rfl rfl
theorem bqX2_init_0 : hs_bs cX2_init 0 [42, 183, 0, 3, 42, 8, 188, 10, 181, 0, 9, 42, 16, 32, 188, 10, 181, 0, 15, 177] := hs_bs_of _ _ _ (by decide +kernel)
theorem dX2_init_0 : decode cX2_init 0 = .ok (.aload_n 0, 1) := dc42 bqX2_init_0 0 rfl rfl
theorem dX2_init_1 : decode cX2_init 1 = .ok (.invokespecial 3, 3) := dc183 bqX2_init_0 1 rfl rfl rfl
theorem dX2_init_4 : decode cX2_init 4 = .ok (.aload_n 0, 1) := dc42 bqX2_init_0 4 rfl rfl
theorem dX2_init_5 : decode cX2_init 5 = .ok (.iconst 5, 1) := dc8 bqX2_init_0 5 rfl rfl
theorem dX2_init_6 : decode cX2_init 6 = .ok (.newarray .int, 2) := by decide +kernel
theorem dX2_init_8 : decode cX2_init 8 = .ok (.putfield 9, 3) := dc181 bqX2_init_0 8 rfl rfl rfl
theorem dX2_init_11 : decode cX2_init 11 = .ok (.aload_n 0, 1) := dc42 bqX2_init_0 11 rfl rfl
theorem dX2_init_12 : decode cX2_init 12 = .ok (.bipush 32, 2) := dc16 bqX2_init_0 12 rfl rfl rfl
theorem dX2_init_14 : decode cX2_init 14 = .ok (.newarray .int, 2) := by decide +kernel
theorem dX2_init_16 : decode cX2_init 16 = .ok (.putfield 15, 3) := dc181 bqX2_init_0 16 rfl rfl rfl
theorem dX2_init_19 : decode cX2_init 19 = .ok (.return_, 1) := dc177 bqX2_init_0 19 rfl rfl
theorem bqX2_learn_0 : hs_bs cX2_learn 0 [42, 43, 180, 0, 18, 181, 0, 24, 3, 61, 28, 8, 162, 0, 16, 42, 180, 0, 9, 28, 3, 79] := hs_bs_of _ _ _ (by decide +kernel)
theorem dX2_learn_0 : decode cX2_learn 0 = .ok (.aload_n 0, 1) := dc42 bqX2_learn_0 0 rfl rfl
theorem dX2_learn_1 : decode cX2_learn 1 = .ok (.aload_n 1, 1) := dc43 bqX2_learn_0 1 rfl rfl
theorem dX2_learn_2 : decode cX2_learn 2 = .ok (.getfield 18, 3) := dc180 bqX2_learn_0 2 rfl rfl rfl
theorem dX2_learn_5 : decode cX2_learn 5 = .ok (.putfield 24, 3) := dc181 bqX2_learn_0 5 rfl rfl rfl
theorem dX2_learn_8 : decode cX2_learn 8 = .ok (.iconst 0, 1) := dc3 bqX2_learn_0 8 rfl rfl
theorem dX2_learn_9 : decode cX2_learn 9 = .ok (.istore_n 2, 1) := dc61 bqX2_learn_0 9 rfl rfl
theorem dX2_learn_10 : decode cX2_learn 10 = .ok (.iload_n 2, 1) := dc28 bqX2_learn_0 10 rfl rfl
theorem dX2_learn_11 : decode cX2_learn 11 = .ok (.iconst 5, 1) := dc8 bqX2_learn_0 11 rfl rfl
theorem dX2_learn_12 : decode cX2_learn 12 = .ok (.if_icmp .ge 16, 3) := dc162 bqX2_learn_0 12 rfl rfl rfl
theorem dX2_learn_15 : decode cX2_learn 15 = .ok (.aload_n 0, 1) := dc42 bqX2_learn_0 15 rfl rfl
theorem dX2_learn_16 : decode cX2_learn 16 = .ok (.getfield 9, 3) := dc180 bqX2_learn_0 16 rfl rfl rfl
theorem dX2_learn_19 : decode cX2_learn 19 = .ok (.iload_n 2, 1) := dc28 bqX2_learn_0 19 rfl rfl
theorem dX2_learn_20 : decode cX2_learn 20 = .ok (.iconst 0, 1) := dc3 bqX2_learn_0 20 rfl rfl
theorem dX2_learn_21 : decode cX2_learn 21 = .ok (.iastore, 1) := dc79 bqX2_learn_0 21 rfl rfl
theorem bqX2_learn_22 : hs_bs cX2_learn 22 [132, 2, 1, 167, 255, 241, 3, 61, 28, 43, 180, 0, 27, 162, 0, 31, 42, 180, 0, 9, 43, 180, 0, 30] := hs_bs_of _ _ _ (by decide +kernel)
theorem dX2_learn_22 : decode cX2_learn 22 = .ok (.iinc 2 1, 3) := dc132 bqX2_learn_22 0 rfl rfl rfl
theorem dX2_learn_25 : decode cX2_learn 25 = .ok (.goto (-15), 3) := dc167 bqX2_learn_22 3 rfl rfl rfl
theorem dX2_learn_28 : decode cX2_learn 28 = .ok (.iconst 0, 1) := dc3 bqX2_learn_22 6 rfl rfl
theorem dX2_learn_29 : decode cX2_learn 29 = .ok (.istore_n 2, 1) := dc61 bqX2_learn_22 7 rfl rfl
theorem dX2_learn_30 : decode cX2_learn 30 = .ok (.iload_n 2, 1) := dc28 bqX2_learn_22 8 rfl rfl
theorem dX2_learn_31 : decode cX2_learn 31 = .ok (.aload_n 1, 1) := dc43 bqX2_learn_22 9 rfl rfl
theorem dX2_learn_32 : decode cX2_learn 32 = .ok (.getfield 27, 3) := dc180 bqX2_learn_22 10 rfl rfl rfl
theorem dX2_learn_35 : decode cX2_learn 35 = .ok (.if_icmp .ge 31, 3) := dc162 bqX2_learn_22 13 rfl rfl rfl
theorem dX2_learn_38 : decode cX2_learn 38 = .ok (.aload_n 0, 1) := dc42 bqX2_learn_22 16 rfl rfl
theorem dX2_learn_39 : decode cX2_learn 39 = .ok (.getfield 9, 3) := dc180 bqX2_learn_22 17 rfl rfl rfl
theorem dX2_learn_42 : decode cX2_learn 42 = .ok (.aload_n 1, 1) := dc43 bqX2_learn_22 20 rfl rfl
theorem dX2_learn_43 : decode cX2_learn 43 = .ok (.getfield 30, 3) := dc180 bqX2_learn_22 21 rfl rfl rfl
theorem bqX2_learn_46 : hs_bs cX2_learn 46 [28, 46, 92, 46, 4, 43, 180, 0, 33, 28, 46, 120, 128, 79, 132, 2, 1, 167, 255, 223, 177] := hs_bs_of _ _ _ (by decide +kernel)
theorem dX2_learn_46 : decode cX2_learn 46 = .ok (.iload_n 2, 1) := dc28 bqX2_learn_46 0 rfl rfl
theorem dX2_learn_47 : decode cX2_learn 47 = .ok (.iaload, 1) := dc46 bqX2_learn_46 1 rfl rfl
theorem dX2_learn_48 : decode cX2_learn 48 = .ok (.dup2, 1) := dc92 bqX2_learn_46 2 rfl rfl
theorem dX2_learn_49 : decode cX2_learn 49 = .ok (.iaload, 1) := dc46 bqX2_learn_46 3 rfl rfl
theorem dX2_learn_50 : decode cX2_learn 50 = .ok (.iconst 1, 1) := dc4 bqX2_learn_46 4 rfl rfl
theorem dX2_learn_51 : decode cX2_learn 51 = .ok (.aload_n 1, 1) := dc43 bqX2_learn_46 5 rfl rfl
theorem dX2_learn_52 : decode cX2_learn 52 = .ok (.getfield 33, 3) := dc180 bqX2_learn_46 6 rfl rfl rfl
theorem dX2_learn_55 : decode cX2_learn 55 = .ok (.iload_n 2, 1) := dc28 bqX2_learn_46 9 rfl rfl
theorem dX2_learn_56 : decode cX2_learn 56 = .ok (.iaload, 1) := dc46 bqX2_learn_46 10 rfl rfl
theorem dX2_learn_57 : decode cX2_learn 57 = .ok (.ishl, 1) := dc120 bqX2_learn_46 11 rfl rfl
theorem dX2_learn_58 : decode cX2_learn 58 = .ok (.ior, 1) := dc128 bqX2_learn_46 12 rfl rfl
theorem dX2_learn_59 : decode cX2_learn 59 = .ok (.iastore, 1) := dc79 bqX2_learn_46 13 rfl rfl
theorem dX2_learn_60 : decode cX2_learn 60 = .ok (.iinc 2 1, 3) := dc132 bqX2_learn_46 14 rfl rfl rfl
theorem dX2_learn_63 : decode cX2_learn 63 = .ok (.goto (-33), 3) := dc167 bqX2_learn_46 17 rfl rfl rfl
theorem dX2_learn_66 : decode cX2_learn 66 = .ok (.return_, 1) := dc177 bqX2_learn_46 20 rfl rfl
set_option maxRecDepth 20000 in
theorem gX2_howMany_X2_mayCome : GoodIn wsX2_howMany (wsV RX2 36 RX2 yX2_mayCome wsX2_mayCome) := hs_gC (hs_gV (hs_inG 2 172 rfl rfl) (hs_inG 2 174 rfl rfl) (hs_inG 0 12 rfl rfl) (hs_inG 1 5 rfl rfl) inC_X2_mayCome)
theorem bqX2_howMany_0 : hs_bs cX2_howMany 0 [4, 42, 180, 0, 24, 120, 4, 100, 60, 42, 180, 0, 15, 3, 4, 79, 4, 61, 28, 27, 163, 0, 73, 3] := hs_bs_of _ _ _ (by decide +kernel)
theorem dX2_howMany_0 : decode cX2_howMany 0 = .ok (.iconst 1, 1) := dc4 bqX2_howMany_0 0 rfl rfl
theorem dX2_howMany_1 : decode cX2_howMany 1 = .ok (.aload_n 0, 1) := dc42 bqX2_howMany_0 1 rfl rfl
theorem dX2_howMany_2 : decode cX2_howMany 2 = .ok (.getfield 24, 3) := dc180 bqX2_howMany_0 2 rfl rfl rfl
theorem dX2_howMany_5 : decode cX2_howMany 5 = .ok (.ishl, 1) := dc120 bqX2_howMany_0 5 rfl rfl
theorem dX2_howMany_6 : decode cX2_howMany 6 = .ok (.iconst 1, 1) := dc4 bqX2_howMany_0 6 rfl rfl
theorem dX2_howMany_7 : decode cX2_howMany 7 = .ok (.isub, 1) := dc100 bqX2_howMany_0 7 rfl rfl
theorem dX2_howMany_8 : decode cX2_howMany 8 = .ok (.istore_n 1, 1) := dc60 bqX2_howMany_0 8 rfl rfl
theorem dX2_howMany_9 : decode cX2_howMany 9 = .ok (.aload_n 0, 1) := dc42 bqX2_howMany_0 9 rfl rfl
theorem dX2_howMany_10 : decode cX2_howMany 10 = .ok (.getfield 15, 3) := dc180 bqX2_howMany_0 10 rfl rfl rfl
theorem dX2_howMany_13 : decode cX2_howMany 13 = .ok (.iconst 0, 1) := dc3 bqX2_howMany_0 13 rfl rfl
theorem dX2_howMany_14 : decode cX2_howMany 14 = .ok (.iconst 1, 1) := dc4 bqX2_howMany_0 14 rfl rfl
theorem dX2_howMany_15 : decode cX2_howMany 15 = .ok (.iastore, 1) := dc79 bqX2_howMany_0 15 rfl rfl
theorem dX2_howMany_16 : decode cX2_howMany 16 = .ok (.iconst 1, 1) := dc4 bqX2_howMany_0 16 rfl rfl
theorem dX2_howMany_17 : decode cX2_howMany 17 = .ok (.istore_n 2, 1) := dc61 bqX2_howMany_0 17 rfl rfl
theorem dX2_howMany_18 : decode cX2_howMany 18 = .ok (.iload_n 2, 1) := dc28 bqX2_howMany_0 18 rfl rfl
theorem dX2_howMany_19 : decode cX2_howMany 19 = .ok (.iload_n 1, 1) := dc27 bqX2_howMany_0 19 rfl rfl
theorem dX2_howMany_20 : decode cX2_howMany 20 = .ok (.if_icmp .gt 73, 3) := dc163 bqX2_howMany_0 20 rfl rfl rfl
theorem dX2_howMany_23 : decode cX2_howMany 23 = .ok (.iconst 0, 1) := dc3 bqX2_howMany_0 23 rfl rfl
theorem bqX2_howMany_24 : hs_bs cX2_howMany 24 [62, 3, 54, 4, 21, 4, 42, 180, 0, 24, 162, 0, 46, 28, 4, 21, 4, 120, 2, 130, 126, 54, 5] := hs_bs_of _ _ _ (by decide +kernel)
theorem dX2_howMany_24 : decode cX2_howMany 24 = .ok (.istore_n 3, 1) := dc62 bqX2_howMany_24 0 rfl rfl
theorem dX2_howMany_25 : decode cX2_howMany 25 = .ok (.iconst 0, 1) := dc3 bqX2_howMany_24 1 rfl rfl
theorem dX2_howMany_26 : decode cX2_howMany 26 = .ok (.istore 4, 2) := dc54 bqX2_howMany_24 2 rfl rfl
theorem dX2_howMany_28 : decode cX2_howMany 28 = .ok (.iload 4, 2) := dc21 bqX2_howMany_24 4 rfl rfl
theorem dX2_howMany_30 : decode cX2_howMany 30 = .ok (.aload_n 0, 1) := dc42 bqX2_howMany_24 6 rfl rfl
theorem dX2_howMany_31 : decode cX2_howMany 31 = .ok (.getfield 24, 3) := dc180 bqX2_howMany_24 7 rfl rfl rfl
theorem dX2_howMany_34 : decode cX2_howMany 34 = .ok (.if_icmp .ge 46, 3) := dc162 bqX2_howMany_24 10 rfl rfl rfl
theorem dX2_howMany_37 : decode cX2_howMany 37 = .ok (.iload_n 2, 1) := dc28 bqX2_howMany_24 13 rfl rfl
theorem dX2_howMany_38 : decode cX2_howMany 38 = .ok (.iconst 1, 1) := dc4 bqX2_howMany_24 14 rfl rfl
theorem dX2_howMany_39 : decode cX2_howMany 39 = .ok (.iload 4, 2) := dc21 bqX2_howMany_24 15 rfl rfl
theorem dX2_howMany_41 : decode cX2_howMany 41 = .ok (.ishl, 1) := dc120 bqX2_howMany_24 17 rfl rfl
theorem dX2_howMany_42 : decode cX2_howMany 42 = .ok (.iconst (-1), 1) := dc2 bqX2_howMany_24 18 rfl rfl
theorem dX2_howMany_43 : decode cX2_howMany 43 = .ok (.ixor, 1) := dc130 bqX2_howMany_24 19 rfl rfl
theorem dX2_howMany_44 : decode cX2_howMany 44 = .ok (.iand, 1) := dc126 bqX2_howMany_24 20 rfl rfl
theorem dX2_howMany_45 : decode cX2_howMany 45 = .ok (.istore 5, 2) := dc54 bqX2_howMany_24 21 rfl rfl
theorem bqX2_howMany_47 : hs_bs cX2_howMany 47 [21, 5, 28, 159, 0, 24, 42, 21, 4, 21, 5, 182, 0, 36, 153, 0, 13, 29, 42, 180, 0, 15, 21, 5] := hs_bs_of _ _ _ (by decide +kernel)
theorem dX2_howMany_47 : decode cX2_howMany 47 = .ok (.iload 5, 2) := dc21 bqX2_howMany_47 0 rfl rfl
theorem dX2_howMany_49 : decode cX2_howMany 49 = .ok (.iload_n 2, 1) := dc28 bqX2_howMany_47 2 rfl rfl
theorem dX2_howMany_50 : decode cX2_howMany 50 = .ok (.if_icmp .eq 24, 3) := dc159 bqX2_howMany_47 3 rfl rfl rfl
theorem dX2_howMany_53 : decode cX2_howMany 53 = .ok (.aload_n 0, 1) := dc42 bqX2_howMany_47 6 rfl rfl
theorem dX2_howMany_54 : decode cX2_howMany 54 = .ok (.iload 4, 2) := dc21 bqX2_howMany_47 7 rfl rfl
theorem dX2_howMany_56 : decode cX2_howMany 56 = .ok (.iload 5, 2) := dc21 bqX2_howMany_47 9 rfl rfl
theorem dX2_howMany_58 : decode cX2_howMany 58 = .ok (.invokevirtual 36, 3) := dc182 bqX2_howMany_47 11 rfl rfl rfl
theorem dX2_howMany_61 : decode cX2_howMany 61 = .ok (.ifCond .eq 13, 3) := dc153 bqX2_howMany_47 14 rfl rfl rfl
theorem dX2_howMany_64 : decode cX2_howMany 64 = .ok (.iload_n 3, 1) := dc29 bqX2_howMany_47 17 rfl rfl
theorem dX2_howMany_65 : decode cX2_howMany 65 = .ok (.aload_n 0, 1) := dc42 bqX2_howMany_47 18 rfl rfl
theorem dX2_howMany_66 : decode cX2_howMany 66 = .ok (.getfield 15, 3) := dc180 bqX2_howMany_47 19 rfl rfl rfl
theorem dX2_howMany_69 : decode cX2_howMany 69 = .ok (.iload 5, 2) := dc21 bqX2_howMany_47 22 rfl rfl
theorem bqX2_howMany_71 : hs_bs cX2_howMany 71 [46, 96, 62, 132, 4, 1, 167, 255, 207, 42, 180, 0, 15, 28, 29, 79, 132, 2, 1, 167, 255, 184, 42] := hs_bs_of _ _ _ (by decide +kernel)
theorem dX2_howMany_71 : decode cX2_howMany 71 = .ok (.iaload, 1) := dc46 bqX2_howMany_71 0 rfl rfl
theorem dX2_howMany_72 : decode cX2_howMany 72 = .ok (.iadd, 1) := dc96 bqX2_howMany_71 1 rfl rfl
theorem dX2_howMany_73 : decode cX2_howMany 73 = .ok (.istore_n 3, 1) := dc62 bqX2_howMany_71 2 rfl rfl
theorem dX2_howMany_74 : decode cX2_howMany 74 = .ok (.iinc 4 1, 3) := dc132 bqX2_howMany_71 3 rfl rfl rfl
theorem dX2_howMany_77 : decode cX2_howMany 77 = .ok (.goto (-49), 3) := dc167 bqX2_howMany_71 6 rfl rfl rfl
theorem dX2_howMany_80 : decode cX2_howMany 80 = .ok (.aload_n 0, 1) := dc42 bqX2_howMany_71 9 rfl rfl
theorem dX2_howMany_81 : decode cX2_howMany 81 = .ok (.getfield 15, 3) := dc180 bqX2_howMany_71 10 rfl rfl rfl
theorem dX2_howMany_84 : decode cX2_howMany 84 = .ok (.iload_n 2, 1) := dc28 bqX2_howMany_71 13 rfl rfl
theorem dX2_howMany_85 : decode cX2_howMany 85 = .ok (.iload_n 3, 1) := dc29 bqX2_howMany_71 14 rfl rfl
theorem dX2_howMany_86 : decode cX2_howMany 86 = .ok (.iastore, 1) := dc79 bqX2_howMany_71 15 rfl rfl
theorem dX2_howMany_87 : decode cX2_howMany 87 = .ok (.iinc 2 1, 3) := dc132 bqX2_howMany_71 16 rfl rfl rfl
theorem dX2_howMany_90 : decode cX2_howMany 90 = .ok (.goto (-72), 3) := dc167 bqX2_howMany_71 19 rfl rfl rfl
theorem dX2_howMany_93 : decode cX2_howMany 93 = .ok (.aload_n 0, 1) := dc42 bqX2_howMany_71 22 rfl rfl
theorem bqX2_howMany_94 : hs_bs cX2_howMany 94 [180, 0, 15, 27, 46, 172] := hs_bs_of _ _ _ (by decide +kernel)
theorem dX2_howMany_94 : decode cX2_howMany 94 = .ok (.getfield 15, 3) := dc180 bqX2_howMany_94 0 rfl rfl rfl
theorem dX2_howMany_97 : decode cX2_howMany 97 = .ok (.iload_n 1, 1) := dc27 bqX2_howMany_94 3 rfl rfl
theorem dX2_howMany_98 : decode cX2_howMany 98 = .ok (.iaload, 1) := dc46 bqX2_howMany_94 4 rfl rfl
theorem dX2_howMany_99 : decode cX2_howMany 99 = .ok (.ireturn, 1) := dc172 bqX2_howMany_94 5 rfl rfl
set_option maxRecDepth 20000 in
theorem gX2_howManyWith_X2_howMany : GoodIn wsX2_howManyWith (wsV RX2 40 RX2 yX2_howMany wsX2_howMany) := hs_gC (hs_gV (hs_inG 3 30 rfl rfl) (hs_inG 2 169 rfl rfl) (hs_inG 2 170 rfl rfl) (hs_inG 1 5 rfl rfl) inC_X2_howMany)
theorem bqX2_howManyWith_0 : hs_bs cX2_howManyWith 0 [42, 180, 0, 9, 28, 46, 62, 42, 180, 0, 9, 28, 29, 4, 27, 120, 128, 79, 42, 182, 0, 40, 54, 4] := hs_bs_of _ _ _ (by decide +kernel)
theorem dX2_howManyWith_0 : decode cX2_howManyWith 0 = .ok (.aload_n 0, 1) := dc42 bqX2_howManyWith_0 0 rfl rfl
theorem dX2_howManyWith_1 : decode cX2_howManyWith 1 = .ok (.getfield 9, 3) := dc180 bqX2_howManyWith_0 1 rfl rfl rfl
theorem dX2_howManyWith_4 : decode cX2_howManyWith 4 = .ok (.iload_n 2, 1) := dc28 bqX2_howManyWith_0 4 rfl rfl
theorem dX2_howManyWith_5 : decode cX2_howManyWith 5 = .ok (.iaload, 1) := dc46 bqX2_howManyWith_0 5 rfl rfl
theorem dX2_howManyWith_6 : decode cX2_howManyWith 6 = .ok (.istore_n 3, 1) := dc62 bqX2_howManyWith_0 6 rfl rfl
theorem dX2_howManyWith_7 : decode cX2_howManyWith 7 = .ok (.aload_n 0, 1) := dc42 bqX2_howManyWith_0 7 rfl rfl
theorem dX2_howManyWith_8 : decode cX2_howManyWith 8 = .ok (.getfield 9, 3) := dc180 bqX2_howManyWith_0 8 rfl rfl rfl
theorem dX2_howManyWith_11 : decode cX2_howManyWith 11 = .ok (.iload_n 2, 1) := dc28 bqX2_howManyWith_0 11 rfl rfl
theorem dX2_howManyWith_12 : decode cX2_howManyWith 12 = .ok (.iload_n 3, 1) := dc29 bqX2_howManyWith_0 12 rfl rfl
theorem dX2_howManyWith_13 : decode cX2_howManyWith 13 = .ok (.iconst 1, 1) := dc4 bqX2_howManyWith_0 13 rfl rfl
theorem dX2_howManyWith_14 : decode cX2_howManyWith 14 = .ok (.iload_n 1, 1) := dc27 bqX2_howManyWith_0 14 rfl rfl
theorem dX2_howManyWith_15 : decode cX2_howManyWith 15 = .ok (.ishl, 1) := dc120 bqX2_howManyWith_0 15 rfl rfl
theorem dX2_howManyWith_16 : decode cX2_howManyWith 16 = .ok (.ior, 1) := dc128 bqX2_howManyWith_0 16 rfl rfl
theorem dX2_howManyWith_17 : decode cX2_howManyWith 17 = .ok (.iastore, 1) := dc79 bqX2_howManyWith_0 17 rfl rfl
theorem dX2_howManyWith_18 : decode cX2_howManyWith 18 = .ok (.aload_n 0, 1) := dc42 bqX2_howManyWith_0 18 rfl rfl
theorem dX2_howManyWith_19 : decode cX2_howManyWith 19 = .ok (.invokevirtual 40, 3) := dc182 bqX2_howManyWith_0 19 rfl rfl rfl
theorem dX2_howManyWith_22 : decode cX2_howManyWith 22 = .ok (.istore 4, 2) := dc54 bqX2_howManyWith_0 22 rfl rfl
theorem bqX2_howManyWith_24 : hs_bs cX2_howManyWith 24 [42, 180, 0, 9, 28, 29, 79, 21, 4, 172] := hs_bs_of _ _ _ (by decide +kernel)
theorem dX2_howManyWith_24 : decode cX2_howManyWith 24 = .ok (.aload_n 0, 1) := dc42 bqX2_howManyWith_24 0 rfl rfl
theorem dX2_howManyWith_25 : decode cX2_howManyWith 25 = .ok (.getfield 9, 3) := dc180 bqX2_howManyWith_24 1 rfl rfl rfl
theorem dX2_howManyWith_28 : decode cX2_howManyWith 28 = .ok (.iload_n 2, 1) := dc28 bqX2_howManyWith_24 4 rfl rfl
theorem dX2_howManyWith_29 : decode cX2_howManyWith 29 = .ok (.iload_n 3, 1) := dc29 bqX2_howManyWith_24 5 rfl rfl
theorem dX2_howManyWith_30 : decode cX2_howManyWith 30 = .ok (.iastore, 1) := dc79 bqX2_howManyWith_24 6 rfl rfl
theorem dX2_howManyWith_31 : decode cX2_howManyWith 31 = .ok (.iload 4, 2) := dc21 bqX2_howManyWith_24 7 rfl rfl
theorem dX2_howManyWith_33 : decode cX2_howManyWith 33 = .ok (.ireturn, 1) := dc172 bqX2_howManyWith_24 9 rfl rfl
theorem bqX2_lightest_0 : hs_bs cX2_lightest 0 [3, 60, 3, 61, 28, 42, 180, 0, 24, 162, 0, 24, 42, 180, 0, 9, 28, 46, 154, 0, 9, 27, 4, 28] := hs_bs_of _ _ _ (by decide +kernel)
theorem dX2_lightest_0 : decode cX2_lightest 0 = .ok (.iconst 0, 1) := dc3 bqX2_lightest_0 0 rfl rfl
theorem dX2_lightest_1 : decode cX2_lightest 1 = .ok (.istore_n 1, 1) := dc60 bqX2_lightest_0 1 rfl rfl
theorem dX2_lightest_2 : decode cX2_lightest 2 = .ok (.iconst 0, 1) := dc3 bqX2_lightest_0 2 rfl rfl
theorem dX2_lightest_3 : decode cX2_lightest 3 = .ok (.istore_n 2, 1) := dc61 bqX2_lightest_0 3 rfl rfl
theorem dX2_lightest_4 : decode cX2_lightest 4 = .ok (.iload_n 2, 1) := dc28 bqX2_lightest_0 4 rfl rfl
theorem dX2_lightest_5 : decode cX2_lightest 5 = .ok (.aload_n 0, 1) := dc42 bqX2_lightest_0 5 rfl rfl
theorem dX2_lightest_6 : decode cX2_lightest 6 = .ok (.getfield 24, 3) := dc180 bqX2_lightest_0 6 rfl rfl rfl
theorem dX2_lightest_9 : decode cX2_lightest 9 = .ok (.if_icmp .ge 24, 3) := dc162 bqX2_lightest_0 9 rfl rfl rfl
theorem dX2_lightest_12 : decode cX2_lightest 12 = .ok (.aload_n 0, 1) := dc42 bqX2_lightest_0 12 rfl rfl
theorem dX2_lightest_13 : decode cX2_lightest 13 = .ok (.getfield 9, 3) := dc180 bqX2_lightest_0 13 rfl rfl rfl
theorem dX2_lightest_16 : decode cX2_lightest 16 = .ok (.iload_n 2, 1) := dc28 bqX2_lightest_0 16 rfl rfl
theorem dX2_lightest_17 : decode cX2_lightest 17 = .ok (.iaload, 1) := dc46 bqX2_lightest_0 17 rfl rfl
theorem dX2_lightest_18 : decode cX2_lightest 18 = .ok (.ifCond .ne 9, 3) := dc154 bqX2_lightest_0 18 rfl rfl rfl
theorem dX2_lightest_21 : decode cX2_lightest 21 = .ok (.iload_n 1, 1) := dc27 bqX2_lightest_0 21 rfl rfl
theorem dX2_lightest_22 : decode cX2_lightest 22 = .ok (.iconst 1, 1) := dc4 bqX2_lightest_0 22 rfl rfl
theorem dX2_lightest_23 : decode cX2_lightest 23 = .ok (.iload_n 2, 1) := dc28 bqX2_lightest_0 23 rfl rfl
theorem bqX2_lightest_24 : hs_bs cX2_lightest 24 [120, 128, 60, 132, 2, 1, 167, 255, 230, 27, 172] := hs_bs_of _ _ _ (by decide +kernel)
theorem dX2_lightest_24 : decode cX2_lightest 24 = .ok (.ishl, 1) := dc120 bqX2_lightest_24 0 rfl rfl
theorem dX2_lightest_25 : decode cX2_lightest 25 = .ok (.ior, 1) := dc128 bqX2_lightest_24 1 rfl rfl
theorem dX2_lightest_26 : decode cX2_lightest 26 = .ok (.istore_n 1, 1) := dc60 bqX2_lightest_24 2 rfl rfl
theorem dX2_lightest_27 : decode cX2_lightest 27 = .ok (.iinc 2 1, 3) := dc132 bqX2_lightest_24 3 rfl rfl rfl
theorem dX2_lightest_30 : decode cX2_lightest 30 = .ok (.goto (-26), 3) := dc167 bqX2_lightest_24 6 rfl rfl rfl
theorem dX2_lightest_33 : decode cX2_lightest 33 = .ok (.iload_n 1, 1) := dc27 bqX2_lightest_24 9 rfl rfl
theorem dX2_lightest_34 : decode cX2_lightest 34 = .ok (.ireturn, 1) := dc172 bqX2_lightest_24 10 rfl rfl
theorem bqX2_heaviest_0 : hs_bs cX2_heaviest 0 [4, 42, 180, 0, 24, 120, 4, 100, 60, 3, 61, 28, 42, 180, 0, 24, 162, 0, 20, 27, 42, 180, 0, 9] := hs_bs_of _ _ _ (by decide +kernel)
theorem dX2_heaviest_0 : decode cX2_heaviest 0 = .ok (.iconst 1, 1) := dc4 bqX2_heaviest_0 0 rfl rfl
theorem dX2_heaviest_1 : decode cX2_heaviest 1 = .ok (.aload_n 0, 1) := dc42 bqX2_heaviest_0 1 rfl rfl
theorem dX2_heaviest_2 : decode cX2_heaviest 2 = .ok (.getfield 24, 3) := dc180 bqX2_heaviest_0 2 rfl rfl rfl
theorem dX2_heaviest_5 : decode cX2_heaviest 5 = .ok (.ishl, 1) := dc120 bqX2_heaviest_0 5 rfl rfl
theorem dX2_heaviest_6 : decode cX2_heaviest 6 = .ok (.iconst 1, 1) := dc4 bqX2_heaviest_0 6 rfl rfl
theorem dX2_heaviest_7 : decode cX2_heaviest 7 = .ok (.isub, 1) := dc100 bqX2_heaviest_0 7 rfl rfl
theorem dX2_heaviest_8 : decode cX2_heaviest 8 = .ok (.istore_n 1, 1) := dc60 bqX2_heaviest_0 8 rfl rfl
theorem dX2_heaviest_9 : decode cX2_heaviest 9 = .ok (.iconst 0, 1) := dc3 bqX2_heaviest_0 9 rfl rfl
theorem dX2_heaviest_10 : decode cX2_heaviest 10 = .ok (.istore_n 2, 1) := dc61 bqX2_heaviest_0 10 rfl rfl
theorem dX2_heaviest_11 : decode cX2_heaviest 11 = .ok (.iload_n 2, 1) := dc28 bqX2_heaviest_0 11 rfl rfl
theorem dX2_heaviest_12 : decode cX2_heaviest 12 = .ok (.aload_n 0, 1) := dc42 bqX2_heaviest_0 12 rfl rfl
theorem dX2_heaviest_13 : decode cX2_heaviest 13 = .ok (.getfield 24, 3) := dc180 bqX2_heaviest_0 13 rfl rfl rfl
theorem dX2_heaviest_16 : decode cX2_heaviest 16 = .ok (.if_icmp .ge 20, 3) := dc162 bqX2_heaviest_0 16 rfl rfl rfl
theorem dX2_heaviest_19 : decode cX2_heaviest 19 = .ok (.iload_n 1, 1) := dc27 bqX2_heaviest_0 19 rfl rfl
theorem dX2_heaviest_20 : decode cX2_heaviest 20 = .ok (.aload_n 0, 1) := dc42 bqX2_heaviest_0 20 rfl rfl
theorem dX2_heaviest_21 : decode cX2_heaviest 21 = .ok (.getfield 9, 3) := dc180 bqX2_heaviest_0 21 rfl rfl rfl
theorem bqX2_heaviest_24 : hs_bs cX2_heaviest 24 [28, 46, 2, 130, 126, 60, 132, 2, 1, 167, 255, 234, 27, 172] := hs_bs_of _ _ _ (by decide +kernel)
theorem dX2_heaviest_24 : decode cX2_heaviest 24 = .ok (.iload_n 2, 1) := dc28 bqX2_heaviest_24 0 rfl rfl
theorem dX2_heaviest_25 : decode cX2_heaviest 25 = .ok (.iaload, 1) := dc46 bqX2_heaviest_24 1 rfl rfl
theorem dX2_heaviest_26 : decode cX2_heaviest 26 = .ok (.iconst (-1), 1) := dc2 bqX2_heaviest_24 2 rfl rfl
theorem dX2_heaviest_27 : decode cX2_heaviest 27 = .ok (.ixor, 1) := dc130 bqX2_heaviest_24 3 rfl rfl
theorem dX2_heaviest_28 : decode cX2_heaviest 28 = .ok (.iand, 1) := dc126 bqX2_heaviest_24 4 rfl rfl
theorem dX2_heaviest_29 : decode cX2_heaviest 29 = .ok (.istore_n 1, 1) := dc60 bqX2_heaviest_24 5 rfl rfl
theorem dX2_heaviest_30 : decode cX2_heaviest 30 = .ok (.iinc 2 1, 3) := dc132 bqX2_heaviest_24 6 rfl rfl rfl
theorem dX2_heaviest_33 : decode cX2_heaviest 33 = .ok (.goto (-22), 3) := dc167 bqX2_heaviest_24 9 rfl rfl rfl
theorem dX2_heaviest_36 : decode cX2_heaviest 36 = .ok (.iload_n 1, 1) := dc27 bqX2_heaviest_24 12 rfl rfl
theorem dX2_heaviest_37 : decode cX2_heaviest 37 = .ok (.ireturn, 1) := dc172 bqX2_heaviest_24 13 rfl rfl
set_option maxRecDepth 20000 in
theorem gX2_ofFirst_X2_leastBehind : GoodIn wsX2_ofFirst (wsV RX2 44 RX2 yX2_leastBehind wsX2_leastBehind) := hs_gC (hs_gV (hs_inG 3 165 rfl rfl) (hs_inG 3 167 rfl rfl) (hs_inG 0 14 rfl rfl) (hs_inG 1 5 rfl rfl) inC_X2_leastBehind)
theorem bqX2_ofFirst_0 : hs_bs cX2_ofFirst 0 [3, 61, 16, 252, 62, 3, 54, 4, 21, 4, 27, 163, 0, 30, 42, 28, 182, 0, 44, 62, 29, 16, 252] := hs_bs_of _ _ _ (by decide +kernel)
theorem dX2_ofFirst_0 : decode cX2_ofFirst 0 = .ok (.iconst 0, 1) := dc3 bqX2_ofFirst_0 0 rfl rfl
theorem dX2_ofFirst_1 : decode cX2_ofFirst 1 = .ok (.istore_n 2, 1) := dc61 bqX2_ofFirst_0 1 rfl rfl
theorem dX2_ofFirst_2 : decode cX2_ofFirst 2 = .ok (.bipush (-4), 2) := dc16 bqX2_ofFirst_0 2 rfl rfl rfl
theorem dX2_ofFirst_4 : decode cX2_ofFirst 4 = .ok (.istore_n 3, 1) := dc62 bqX2_ofFirst_0 4 rfl rfl
theorem dX2_ofFirst_5 : decode cX2_ofFirst 5 = .ok (.iconst 0, 1) := dc3 bqX2_ofFirst_0 5 rfl rfl
theorem dX2_ofFirst_6 : decode cX2_ofFirst 6 = .ok (.istore 4, 2) := dc54 bqX2_ofFirst_0 6 rfl rfl
theorem dX2_ofFirst_8 : decode cX2_ofFirst 8 = .ok (.iload 4, 2) := dc21 bqX2_ofFirst_0 8 rfl rfl
theorem dX2_ofFirst_10 : decode cX2_ofFirst 10 = .ok (.iload_n 1, 1) := dc27 bqX2_ofFirst_0 10 rfl rfl
theorem dX2_ofFirst_11 : decode cX2_ofFirst 11 = .ok (.if_icmp .gt 30, 3) := dc163 bqX2_ofFirst_0 11 rfl rfl rfl
theorem dX2_ofFirst_14 : decode cX2_ofFirst 14 = .ok (.aload_n 0, 1) := dc42 bqX2_ofFirst_0 14 rfl rfl
theorem dX2_ofFirst_15 : decode cX2_ofFirst 15 = .ok (.iload_n 2, 1) := dc28 bqX2_ofFirst_0 15 rfl rfl
theorem dX2_ofFirst_16 : decode cX2_ofFirst 16 = .ok (.invokevirtual 44, 3) := dc182 bqX2_ofFirst_0 16 rfl rfl rfl
theorem dX2_ofFirst_19 : decode cX2_ofFirst 19 = .ok (.istore_n 3, 1) := dc62 bqX2_ofFirst_0 19 rfl rfl
theorem dX2_ofFirst_20 : decode cX2_ofFirst 20 = .ok (.iload_n 3, 1) := dc29 bqX2_ofFirst_0 20 rfl rfl
theorem dX2_ofFirst_21 : decode cX2_ofFirst 21 = .ok (.bipush (-4), 2) := dc16 bqX2_ofFirst_0 21 rfl rfl rfl
theorem bqX2_ofFirst_23 : hs_bs cX2_ofFirst 23 [160, 0, 6, 16, 252, 172, 28, 4, 29, 120, 128, 61, 132, 4, 1, 167, 255, 226, 29, 172] := hs_bs_of _ _ _ (by decide +kernel)
theorem dX2_ofFirst_23 : decode cX2_ofFirst 23 = .ok (.if_icmp .ne 6, 3) := dc160 bqX2_ofFirst_23 0 rfl rfl rfl
theorem dX2_ofFirst_26 : decode cX2_ofFirst 26 = .ok (.bipush (-4), 2) := dc16 bqX2_ofFirst_23 3 rfl rfl rfl
theorem dX2_ofFirst_28 : decode cX2_ofFirst 28 = .ok (.ireturn, 1) := dc172 bqX2_ofFirst_23 5 rfl rfl
theorem dX2_ofFirst_29 : decode cX2_ofFirst 29 = .ok (.iload_n 2, 1) := dc28 bqX2_ofFirst_23 6 rfl rfl
theorem dX2_ofFirst_30 : decode cX2_ofFirst 30 = .ok (.iconst 1, 1) := dc4 bqX2_ofFirst_23 7 rfl rfl
theorem dX2_ofFirst_31 : decode cX2_ofFirst 31 = .ok (.iload_n 3, 1) := dc29 bqX2_ofFirst_23 8 rfl rfl
theorem dX2_ofFirst_32 : decode cX2_ofFirst 32 = .ok (.ishl, 1) := dc120 bqX2_ofFirst_23 9 rfl rfl
theorem dX2_ofFirst_33 : decode cX2_ofFirst 33 = .ok (.ior, 1) := dc128 bqX2_ofFirst_23 10 rfl rfl
theorem dX2_ofFirst_34 : decode cX2_ofFirst 34 = .ok (.istore_n 2, 1) := dc61 bqX2_ofFirst_23 11 rfl rfl
theorem dX2_ofFirst_35 : decode cX2_ofFirst 35 = .ok (.iinc 4 1, 3) := dc132 bqX2_ofFirst_23 12 rfl rfl rfl
theorem dX2_ofFirst_38 : decode cX2_ofFirst 38 = .ok (.goto (-30), 3) := dc167 bqX2_ofFirst_23 15 rfl rfl rfl
theorem dX2_ofFirst_41 : decode cX2_ofFirst 41 = .ok (.iload_n 3, 1) := dc29 bqX2_ofFirst_23 18 rfl rfl
theorem dX2_ofFirst_42 : decode cX2_ofFirst 42 = .ok (.ireturn, 1) := dc172 bqX2_ofFirst_23 19 rfl rfl
set_option maxRecDepth 20000 in
theorem gX2_leastBehind_X2_mayCome : GoodIn wsX2_leastBehind (wsV RX2 36 RX2 yX2_mayCome wsX2_mayCome) := hs_gC (hs_gV (hs_inG 2 172 rfl rfl) (hs_inG 2 174 rfl rfl) (hs_inG 0 12 rfl rfl) (hs_inG 1 5 rfl rfl) inC_X2_mayCome)
theorem bqX2_leastBehind_0 : hs_bs cX2_leastBehind 0 [3, 61, 28, 42, 180, 0, 24, 162, 0, 28, 27, 28, 122, 4, 126, 154, 0, 14, 42, 28, 27, 182, 0, 36] := hs_bs_of _ _ _ (by decide +kernel)
theorem dX2_leastBehind_0 : decode cX2_leastBehind 0 = .ok (.iconst 0, 1) := dc3 bqX2_leastBehind_0 0 rfl rfl
theorem dX2_leastBehind_1 : decode cX2_leastBehind 1 = .ok (.istore_n 2, 1) := dc61 bqX2_leastBehind_0 1 rfl rfl
theorem dX2_leastBehind_2 : decode cX2_leastBehind 2 = .ok (.iload_n 2, 1) := dc28 bqX2_leastBehind_0 2 rfl rfl
theorem dX2_leastBehind_3 : decode cX2_leastBehind 3 = .ok (.aload_n 0, 1) := dc42 bqX2_leastBehind_0 3 rfl rfl
theorem dX2_leastBehind_4 : decode cX2_leastBehind 4 = .ok (.getfield 24, 3) := dc180 bqX2_leastBehind_0 4 rfl rfl rfl
theorem dX2_leastBehind_7 : decode cX2_leastBehind 7 = .ok (.if_icmp .ge 28, 3) := dc162 bqX2_leastBehind_0 7 rfl rfl rfl
theorem dX2_leastBehind_10 : decode cX2_leastBehind 10 = .ok (.iload_n 1, 1) := dc27 bqX2_leastBehind_0 10 rfl rfl
theorem dX2_leastBehind_11 : decode cX2_leastBehind 11 = .ok (.iload_n 2, 1) := dc28 bqX2_leastBehind_0 11 rfl rfl
theorem dX2_leastBehind_12 : decode cX2_leastBehind 12 = .ok (.ishr, 1) := dc122 bqX2_leastBehind_0 12 rfl rfl
theorem dX2_leastBehind_13 : decode cX2_leastBehind 13 = .ok (.iconst 1, 1) := dc4 bqX2_leastBehind_0 13 rfl rfl
theorem dX2_leastBehind_14 : decode cX2_leastBehind 14 = .ok (.iand, 1) := dc126 bqX2_leastBehind_0 14 rfl rfl
theorem dX2_leastBehind_15 : decode cX2_leastBehind 15 = .ok (.ifCond .ne 14, 3) := dc154 bqX2_leastBehind_0 15 rfl rfl rfl
theorem dX2_leastBehind_18 : decode cX2_leastBehind 18 = .ok (.aload_n 0, 1) := dc42 bqX2_leastBehind_0 18 rfl rfl
theorem dX2_leastBehind_19 : decode cX2_leastBehind 19 = .ok (.iload_n 2, 1) := dc28 bqX2_leastBehind_0 19 rfl rfl
theorem dX2_leastBehind_20 : decode cX2_leastBehind 20 = .ok (.iload_n 1, 1) := dc27 bqX2_leastBehind_0 20 rfl rfl
theorem dX2_leastBehind_21 : decode cX2_leastBehind 21 = .ok (.invokevirtual 36, 3) := dc182 bqX2_leastBehind_0 21 rfl rfl rfl
theorem bqX2_leastBehind_24 : hs_bs cX2_leastBehind 24 [153, 0, 5, 28, 172, 132, 2, 1, 167, 255, 226, 16, 252, 172] := hs_bs_of _ _ _ (by decide +kernel)
theorem dX2_leastBehind_24 : decode cX2_leastBehind 24 = .ok (.ifCond .eq 5, 3) := dc153 bqX2_leastBehind_24 0 rfl rfl rfl
theorem dX2_leastBehind_27 : decode cX2_leastBehind 27 = .ok (.iload_n 2, 1) := dc28 bqX2_leastBehind_24 3 rfl rfl
theorem dX2_leastBehind_28 : decode cX2_leastBehind 28 = .ok (.ireturn, 1) := dc172 bqX2_leastBehind_24 4 rfl rfl
theorem dX2_leastBehind_29 : decode cX2_leastBehind 29 = .ok (.iinc 2 1, 3) := dc132 bqX2_leastBehind_24 5 rfl rfl rfl
theorem dX2_leastBehind_32 : decode cX2_leastBehind 32 = .ok (.goto (-30), 3) := dc167 bqX2_leastBehind_24 8 rfl rfl rfl
theorem dX2_leastBehind_35 : decode cX2_leastBehind 35 = .ok (.bipush (-4), 2) := dc16 bqX2_leastBehind_24 11 rfl rfl rfl
theorem dX2_leastBehind_37 : decode cX2_leastBehind 37 = .ok (.ireturn, 1) := dc172 bqX2_leastBehind_24 13 rfl rfl
theorem bqX2_mayCome_0 : hs_bs cX2_mayCome 0 [42, 180, 0, 9, 27, 46, 28, 2, 130, 126, 154, 0, 7, 4, 167, 0, 4, 3, 172] := hs_bs_of _ _ _ (by decide +kernel)
theorem dX2_mayCome_0 : decode cX2_mayCome 0 = .ok (.aload_n 0, 1) := dc42 bqX2_mayCome_0 0 rfl rfl
theorem dX2_mayCome_1 : decode cX2_mayCome 1 = .ok (.getfield 9, 3) := dc180 bqX2_mayCome_0 1 rfl rfl rfl
theorem dX2_mayCome_4 : decode cX2_mayCome 4 = .ok (.iload_n 1, 1) := dc27 bqX2_mayCome_0 4 rfl rfl
theorem dX2_mayCome_5 : decode cX2_mayCome 5 = .ok (.iaload, 1) := dc46 bqX2_mayCome_0 5 rfl rfl
theorem dX2_mayCome_6 : decode cX2_mayCome 6 = .ok (.iload_n 2, 1) := dc28 bqX2_mayCome_0 6 rfl rfl
theorem dX2_mayCome_7 : decode cX2_mayCome 7 = .ok (.iconst (-1), 1) := dc2 bqX2_mayCome_0 7 rfl rfl
theorem dX2_mayCome_8 : decode cX2_mayCome 8 = .ok (.ixor, 1) := dc130 bqX2_mayCome_0 8 rfl rfl
theorem dX2_mayCome_9 : decode cX2_mayCome 9 = .ok (.iand, 1) := dc126 bqX2_mayCome_0 9 rfl rfl
theorem dX2_mayCome_10 : decode cX2_mayCome 10 = .ok (.ifCond .ne 7, 3) := dc154 bqX2_mayCome_0 10 rfl rfl rfl
theorem dX2_mayCome_13 : decode cX2_mayCome 13 = .ok (.iconst 1, 1) := dc4 bqX2_mayCome_0 13 rfl rfl
theorem dX2_mayCome_14 : decode cX2_mayCome 14 = .ok (.goto 4, 3) := dc167 bqX2_mayCome_0 14 rfl rfl rfl
theorem dX2_mayCome_17 : decode cX2_mayCome 17 = .ok (.iconst 0, 1) := dc3 bqX2_mayCome_0 17 rfl rfl
theorem dX2_mayCome_18 : decode cX2_mayCome 18 = .ok (.ireturn, 1) := dc172 bqX2_mayCome_0 18 rfl rfl
theorem bqX3_init_0 : hs_bs cX3_init 0 [42, 183, 0, 1, 42, 16, 40, 188, 10, 181, 0, 9, 42, 2, 181, 0, 13, 177] := hs_bs_of _ _ _ (by decide +kernel)
theorem dX3_init_0 : decode cX3_init 0 = .ok (.aload_n 0, 1) := dc42 bqX3_init_0 0 rfl rfl
theorem dX3_init_1 : decode cX3_init 1 = .ok (.invokespecial 1, 3) := dc183 bqX3_init_0 1 rfl rfl rfl
theorem dX3_init_4 : decode cX3_init 4 = .ok (.aload_n 0, 1) := dc42 bqX3_init_0 4 rfl rfl
theorem dX3_init_5 : decode cX3_init 5 = .ok (.bipush 40, 2) := dc16 bqX3_init_0 5 rfl rfl rfl
theorem dX3_init_7 : decode cX3_init 7 = .ok (.newarray .int, 2) := by decide +kernel
theorem dX3_init_9 : decode cX3_init 9 = .ok (.putfield 9, 3) := dc181 bqX3_init_0 9 rfl rfl rfl
theorem dX3_init_12 : decode cX3_init 12 = .ok (.aload_n 0, 1) := dc42 bqX3_init_0 12 rfl rfl
theorem dX3_init_13 : decode cX3_init 13 = .ok (.iconst (-1), 1) := dc2 bqX3_init_0 13 rfl rfl
theorem dX3_init_14 : decode cX3_init 14 = .ok (.putfield 13, 3) := dc181 bqX3_init_0 14 rfl rfl rfl
theorem dX3_init_17 : decode cX3_init 17 = .ok (.return_, 1) := dc177 bqX3_init_0 17 rfl rfl
set_option maxRecDepth 20000 in
theorem gX3_isLane_X7_within_n17 : GoodIn wsX3_isLane (wsX7_within) := hs_gC (hs_gT inC_X7_within)
theorem bqX3_isLane_0 : hs_bs cX3_isLane 0 [26, 3, 5, 184, 0, 17, 172] := hs_bs_of _ _ _ (by decide +kernel)
theorem dX3_isLane_0 : decode cX3_isLane 0 = .ok (.iload_n 0, 1) := dc26 bqX3_isLane_0 0 rfl rfl
theorem dX3_isLane_1 : decode cX3_isLane 1 = .ok (.iconst 0, 1) := dc3 bqX3_isLane_0 1 rfl rfl
theorem dX3_isLane_2 : decode cX3_isLane 2 = .ok (.iconst 2, 1) := dc5 bqX3_isLane_0 2 rfl rfl
theorem dX3_isLane_3 : decode cX3_isLane 3 = .ok (.invokestatic 17, 3) := dc184 bqX3_isLane_0 3 rfl rfl rfl
theorem dX3_isLane_6 : decode cX3_isLane 6 = .ok (.ireturn, 1) := dc172 bqX3_isLane_0 6 rfl rfl
theorem bqX3_isNothing_0 : hs_bs cX3_isNothing 0 [42, 180, 0, 13, 2, 160, 0, 7, 4, 167, 0, 4, 3, 172] := hs_bs_of _ _ _ (by decide +kernel)
theorem dX3_isNothing_0 : decode cX3_isNothing 0 = .ok (.aload_n 0, 1) := dc42 bqX3_isNothing_0 0 rfl rfl
theorem dX3_isNothing_1 : decode cX3_isNothing 1 = .ok (.getfield 13, 3) := dc180 bqX3_isNothing_0 1 rfl rfl rfl
theorem dX3_isNothing_4 : decode cX3_isNothing 4 = .ok (.iconst (-1), 1) := dc2 bqX3_isNothing_0 4 rfl rfl
theorem dX3_isNothing_5 : decode cX3_isNothing 5 = .ok (.if_icmp .ne 7, 3) := dc160 bqX3_isNothing_0 5 rfl rfl rfl
theorem dX3_isNothing_8 : decode cX3_isNothing 8 = .ok (.iconst 1, 1) := dc4 bqX3_isNothing_0 8 rfl rfl
theorem dX3_isNothing_9 : decode cX3_isNothing 9 = .ok (.goto 4, 3) := dc167 bqX3_isNothing_0 9 rfl rfl rfl
theorem dX3_isNothing_12 : decode cX3_isNothing 12 = .ok (.iconst 0, 1) := dc3 bqX3_isNothing_0 12 rfl rfl
theorem dX3_isNothing_13 : decode cX3_isNothing 13 = .ok (.ireturn, 1) := dc172 bqX3_isNothing_0 13 rfl rfl
theorem bqX3_renew_0 : hs_bs cX3_renew 0 [42, 27, 181, 0, 13, 42, 28, 181, 0, 23, 3, 62, 29, 16, 40, 162, 0, 16, 42, 180, 0, 9, 29, 3] := hs_bs_of _ _ _ (by decide +kernel)
theorem dX3_renew_0 : decode cX3_renew 0 = .ok (.aload_n 0, 1) := dc42 bqX3_renew_0 0 rfl rfl
theorem dX3_renew_1 : decode cX3_renew 1 = .ok (.iload_n 1, 1) := dc27 bqX3_renew_0 1 rfl rfl
theorem dX3_renew_2 : decode cX3_renew 2 = .ok (.putfield 13, 3) := dc181 bqX3_renew_0 2 rfl rfl rfl
theorem dX3_renew_5 : decode cX3_renew 5 = .ok (.aload_n 0, 1) := dc42 bqX3_renew_0 5 rfl rfl
theorem dX3_renew_6 : decode cX3_renew 6 = .ok (.iload_n 2, 1) := dc28 bqX3_renew_0 6 rfl rfl
theorem dX3_renew_7 : decode cX3_renew 7 = .ok (.putfield 23, 3) := dc181 bqX3_renew_0 7 rfl rfl rfl
theorem dX3_renew_10 : decode cX3_renew 10 = .ok (.iconst 0, 1) := dc3 bqX3_renew_0 10 rfl rfl
theorem dX3_renew_11 : decode cX3_renew 11 = .ok (.istore_n 3, 1) := dc62 bqX3_renew_0 11 rfl rfl
theorem dX3_renew_12 : decode cX3_renew 12 = .ok (.iload_n 3, 1) := dc29 bqX3_renew_0 12 rfl rfl
theorem dX3_renew_13 : decode cX3_renew 13 = .ok (.bipush 40, 2) := dc16 bqX3_renew_0 13 rfl rfl rfl
theorem dX3_renew_15 : decode cX3_renew 15 = .ok (.if_icmp .ge 16, 3) := dc162 bqX3_renew_0 15 rfl rfl rfl
theorem dX3_renew_18 : decode cX3_renew 18 = .ok (.aload_n 0, 1) := dc42 bqX3_renew_0 18 rfl rfl
theorem dX3_renew_19 : decode cX3_renew 19 = .ok (.getfield 9, 3) := dc180 bqX3_renew_0 19 rfl rfl rfl
theorem dX3_renew_22 : decode cX3_renew 22 = .ok (.iload_n 3, 1) := dc29 bqX3_renew_0 22 rfl rfl
theorem dX3_renew_23 : decode cX3_renew 23 = .ok (.iconst 0, 1) := dc3 bqX3_renew_0 23 rfl rfl
theorem bqX3_renew_24 : hs_bs cX3_renew 24 [79, 132, 3, 1, 167, 255, 240, 177] := hs_bs_of _ _ _ (by decide +kernel)
theorem dX3_renew_24 : decode cX3_renew 24 = .ok (.iastore, 1) := dc79 bqX3_renew_24 0 rfl rfl
theorem dX3_renew_25 : decode cX3_renew 25 = .ok (.iinc 3 1, 3) := dc132 bqX3_renew_24 1 rfl rfl rfl
theorem dX3_renew_28 : decode cX3_renew 28 = .ok (.goto (-16), 3) := dc167 bqX3_renew_24 4 rfl rfl rfl
theorem dX3_renew_31 : decode cX3_renew 31 = .ok (.return_, 1) := dc177 bqX3_renew_24 7 rfl rfl
set_option maxRecDepth 20000 in
theorem gX3_faultAt_X3_isNothing : GoodIn wsX3_faultAt (wsV RX3 26 RX3 yX3_isNothing wsX3_isNothing) := hs_gC (hs_gV (hs_inG 4 31 rfl rfl) (hs_inG 4 32 rfl rfl) (hs_inG 4 33 rfl rfl) (hs_inG 1 7 rfl rfl) inC_X3_isNothing)
set_option maxRecDepth 20000 in
theorem gX3_faultAt_X7_within_n17 : GoodIn wsX3_faultAt (wsX7_within) := hs_gC (hs_gT inC_X7_within)
theorem bqX3_faultAt_0 : hs_bs cX3_faultAt 0 [42, 182, 0, 26, 153, 0, 5, 4, 172, 27, 3, 42, 180, 0, 23, 4, 100, 184, 0, 17, 153, 0, 7, 3] := hs_bs_of _ _ _ (by decide +kernel)
theorem dX3_faultAt_0 : decode cX3_faultAt 0 = .ok (.aload_n 0, 1) := dc42 bqX3_faultAt_0 0 rfl rfl
theorem dX3_faultAt_1 : decode cX3_faultAt 1 = .ok (.invokevirtual 26, 3) := dc182 bqX3_faultAt_0 1 rfl rfl rfl
theorem dX3_faultAt_4 : decode cX3_faultAt 4 = .ok (.ifCond .eq 5, 3) := dc153 bqX3_faultAt_0 4 rfl rfl rfl
theorem dX3_faultAt_7 : decode cX3_faultAt 7 = .ok (.iconst 1, 1) := dc4 bqX3_faultAt_0 7 rfl rfl
theorem dX3_faultAt_8 : decode cX3_faultAt 8 = .ok (.ireturn, 1) := dc172 bqX3_faultAt_0 8 rfl rfl
theorem dX3_faultAt_9 : decode cX3_faultAt 9 = .ok (.iload_n 1, 1) := dc27 bqX3_faultAt_0 9 rfl rfl
theorem dX3_faultAt_10 : decode cX3_faultAt 10 = .ok (.iconst 0, 1) := dc3 bqX3_faultAt_0 10 rfl rfl
theorem dX3_faultAt_11 : decode cX3_faultAt 11 = .ok (.aload_n 0, 1) := dc42 bqX3_faultAt_0 11 rfl rfl
theorem dX3_faultAt_12 : decode cX3_faultAt 12 = .ok (.getfield 23, 3) := dc180 bqX3_faultAt_0 12 rfl rfl rfl
theorem dX3_faultAt_15 : decode cX3_faultAt 15 = .ok (.iconst 1, 1) := dc4 bqX3_faultAt_0 15 rfl rfl
theorem dX3_faultAt_16 : decode cX3_faultAt 16 = .ok (.isub, 1) := dc100 bqX3_faultAt_0 16 rfl rfl
theorem dX3_faultAt_17 : decode cX3_faultAt 17 = .ok (.invokestatic 17, 3) := dc184 bqX3_faultAt_0 17 rfl rfl rfl
theorem dX3_faultAt_20 : decode cX3_faultAt 20 = .ok (.ifCond .eq 7, 3) := dc153 bqX3_faultAt_0 20 rfl rfl rfl
theorem dX3_faultAt_23 : decode cX3_faultAt 23 = .ok (.iconst 0, 1) := dc3 bqX3_faultAt_0 23 rfl rfl
theorem bqX3_faultAt_24 : hs_bs cX3_faultAt 24 [167, 0, 4, 5, 172] := hs_bs_of _ _ _ (by decide +kernel)
theorem dX3_faultAt_24 : decode cX3_faultAt 24 = .ok (.goto 4, 3) := dc167 bqX3_faultAt_24 0 rfl rfl rfl
theorem dX3_faultAt_27 : decode cX3_faultAt 27 = .ok (.iconst 2, 1) := dc5 bqX3_faultAt_24 3 rfl rfl
theorem dX3_faultAt_28 : decode cX3_faultAt 28 = .ok (.ireturn, 1) := dc172 bqX3_faultAt_24 4 rfl rfl
set_option maxRecDepth 20000 in
theorem gX3_faultOfTwo_X3_isNothing : GoodIn wsX3_faultOfTwo (wsV RX3 26 RX3 yX3_isNothing wsX3_isNothing) := hs_gC (hs_gV (hs_inG 4 31 rfl rfl) (hs_inG 4 32 rfl rfl) (hs_inG 4 33 rfl rfl) (hs_inG 1 7 rfl rfl) inC_X3_isNothing)
set_option maxRecDepth 20000 in
theorem gX3_faultOfTwo_X3_faultAt : GoodIn wsX3_faultOfTwo (wsV RX3 30 RX3 yX3_faultAt wsX3_faultAt) := hs_gC (hs_gV (hs_inG 4 47 rfl rfl) (hs_inG 4 28 rfl rfl) (hs_inG 4 29 rfl rfl) (hs_inG 1 7 rfl rfl) inC_X3_faultAt)
theorem bqX3_faultOfTwo_0 : hs_bs cX3_faultOfTwo 0 [42, 182, 0, 26, 154, 0, 13, 27, 42, 180, 0, 13, 159, 0, 5, 6, 172, 42, 28, 182, 0, 30, 62, 29] := hs_bs_of _ _ _ (by decide +kernel)
theorem dX3_faultOfTwo_0 : decode cX3_faultOfTwo 0 = .ok (.aload_n 0, 1) := dc42 bqX3_faultOfTwo_0 0 rfl rfl
theorem dX3_faultOfTwo_1 : decode cX3_faultOfTwo 1 = .ok (.invokevirtual 26, 3) := dc182 bqX3_faultOfTwo_0 1 rfl rfl rfl
theorem dX3_faultOfTwo_4 : decode cX3_faultOfTwo 4 = .ok (.ifCond .ne 13, 3) := dc154 bqX3_faultOfTwo_0 4 rfl rfl rfl
theorem dX3_faultOfTwo_7 : decode cX3_faultOfTwo 7 = .ok (.iload_n 1, 1) := dc27 bqX3_faultOfTwo_0 7 rfl rfl
theorem dX3_faultOfTwo_8 : decode cX3_faultOfTwo 8 = .ok (.aload_n 0, 1) := dc42 bqX3_faultOfTwo_0 8 rfl rfl
theorem dX3_faultOfTwo_9 : decode cX3_faultOfTwo 9 = .ok (.getfield 13, 3) := dc180 bqX3_faultOfTwo_0 9 rfl rfl rfl
theorem dX3_faultOfTwo_12 : decode cX3_faultOfTwo 12 = .ok (.if_icmp .eq 5, 3) := dc159 bqX3_faultOfTwo_0 12 rfl rfl rfl
theorem dX3_faultOfTwo_15 : decode cX3_faultOfTwo 15 = .ok (.iconst 3, 1) := dc6 bqX3_faultOfTwo_0 15 rfl rfl
theorem dX3_faultOfTwo_16 : decode cX3_faultOfTwo 16 = .ok (.ireturn, 1) := dc172 bqX3_faultOfTwo_0 16 rfl rfl
theorem dX3_faultOfTwo_17 : decode cX3_faultOfTwo 17 = .ok (.aload_n 0, 1) := dc42 bqX3_faultOfTwo_0 17 rfl rfl
theorem dX3_faultOfTwo_18 : decode cX3_faultOfTwo 18 = .ok (.iload_n 2, 1) := dc28 bqX3_faultOfTwo_0 18 rfl rfl
theorem dX3_faultOfTwo_19 : decode cX3_faultOfTwo 19 = .ok (.invokevirtual 30, 3) := dc182 bqX3_faultOfTwo_0 19 rfl rfl rfl
theorem dX3_faultOfTwo_22 : decode cX3_faultOfTwo 22 = .ok (.istore_n 3, 1) := dc62 bqX3_faultOfTwo_0 22 rfl rfl
theorem dX3_faultOfTwo_23 : decode cX3_faultOfTwo 23 = .ok (.iload_n 3, 1) := dc29 bqX3_faultOfTwo_0 23 rfl rfl
theorem bqX3_faultOfTwo_24 : hs_bs cX3_faultOfTwo 24 [153, 0, 7, 29, 167, 0, 10, 42, 28, 4, 96, 182, 0, 30, 172] := hs_bs_of _ _ _ (by decide +kernel)
theorem dX3_faultOfTwo_24 : decode cX3_faultOfTwo 24 = .ok (.ifCond .eq 7, 3) := dc153 bqX3_faultOfTwo_24 0 rfl rfl rfl
theorem dX3_faultOfTwo_27 : decode cX3_faultOfTwo 27 = .ok (.iload_n 3, 1) := dc29 bqX3_faultOfTwo_24 3 rfl rfl
theorem dX3_faultOfTwo_28 : decode cX3_faultOfTwo 28 = .ok (.goto 10, 3) := dc167 bqX3_faultOfTwo_24 4 rfl rfl rfl
theorem dX3_faultOfTwo_31 : decode cX3_faultOfTwo 31 = .ok (.aload_n 0, 1) := dc42 bqX3_faultOfTwo_24 7 rfl rfl
theorem dX3_faultOfTwo_32 : decode cX3_faultOfTwo 32 = .ok (.iload_n 2, 1) := dc28 bqX3_faultOfTwo_24 8 rfl rfl
theorem dX3_faultOfTwo_33 : decode cX3_faultOfTwo 33 = .ok (.iconst 1, 1) := dc4 bqX3_faultOfTwo_24 9 rfl rfl
theorem dX3_faultOfTwo_34 : decode cX3_faultOfTwo 34 = .ok (.iadd, 1) := dc96 bqX3_faultOfTwo_24 10 rfl rfl
theorem dX3_faultOfTwo_35 : decode cX3_faultOfTwo 35 = .ok (.invokevirtual 30, 3) := dc182 bqX3_faultOfTwo_24 11 rfl rfl rfl
theorem dX3_faultOfTwo_38 : decode cX3_faultOfTwo 38 = .ok (.ireturn, 1) := dc172 bqX3_faultOfTwo_24 14 rfl rfl
set_option maxRecDepth 20000 in
theorem gX3_at_X7_within_n17 : GoodIn wsX3_at (wsX7_within) := hs_gC (hs_gT inC_X7_within)
theorem bqX3_at_0 : hs_bs cX3_at 0 [27, 3, 42, 180, 0, 23, 4, 100, 184, 0, 17, 153, 0, 12, 42, 180, 0, 9, 27, 46, 167, 0, 4, 3] := hs_bs_of _ _ _ (by decide +kernel)
theorem dX3_at_0 : decode cX3_at 0 = .ok (.iload_n 1, 1) := dc27 bqX3_at_0 0 rfl rfl
theorem dX3_at_1 : decode cX3_at 1 = .ok (.iconst 0, 1) := dc3 bqX3_at_0 1 rfl rfl
theorem dX3_at_2 : decode cX3_at 2 = .ok (.aload_n 0, 1) := dc42 bqX3_at_0 2 rfl rfl
theorem dX3_at_3 : decode cX3_at 3 = .ok (.getfield 23, 3) := dc180 bqX3_at_0 3 rfl rfl rfl
theorem dX3_at_6 : decode cX3_at 6 = .ok (.iconst 1, 1) := dc4 bqX3_at_0 6 rfl rfl
theorem dX3_at_7 : decode cX3_at 7 = .ok (.isub, 1) := dc100 bqX3_at_0 7 rfl rfl
theorem dX3_at_8 : decode cX3_at 8 = .ok (.invokestatic 17, 3) := dc184 bqX3_at_0 8 rfl rfl rfl
theorem dX3_at_11 : decode cX3_at 11 = .ok (.ifCond .eq 12, 3) := dc153 bqX3_at_0 11 rfl rfl rfl
theorem dX3_at_14 : decode cX3_at 14 = .ok (.aload_n 0, 1) := dc42 bqX3_at_0 14 rfl rfl
theorem dX3_at_15 : decode cX3_at 15 = .ok (.getfield 9, 3) := dc180 bqX3_at_0 15 rfl rfl rfl
theorem dX3_at_18 : decode cX3_at 18 = .ok (.iload_n 1, 1) := dc27 bqX3_at_0 18 rfl rfl
theorem dX3_at_19 : decode cX3_at 19 = .ok (.iaload, 1) := dc46 bqX3_at_0 19 rfl rfl
theorem dX3_at_20 : decode cX3_at 20 = .ok (.goto 4, 3) := dc167 bqX3_at_0 20 rfl rfl rfl
theorem dX3_at_23 : decode cX3_at 23 = .ok (.iconst 0, 1) := dc3 bqX3_at_0 23 rfl rfl
theorem bqX3_at_24 : hs_bs cX3_at 24 [172] := hs_bs_of _ _ _ (by decide +kernel)
theorem dX3_at_24 : decode cX3_at 24 = .ok (.ireturn, 1) := dc172 bqX3_at_24 0 rfl rfl
theorem bqX3_put_0 : hs_bs cX3_put 0 [42, 180, 0, 13, 154, 0, 14, 42, 180, 0, 9, 27, 28, 145, 79, 167, 0, 29, 42, 180, 0, 13, 4] := hs_bs_of _ _ _ (by decide +kernel)
theorem dX3_put_0 : decode cX3_put 0 = .ok (.aload_n 0, 1) := dc42 bqX3_put_0 0 rfl rfl
theorem dX3_put_1 : decode cX3_put 1 = .ok (.getfield 13, 3) := dc180 bqX3_put_0 1 rfl rfl rfl
theorem dX3_put_4 : decode cX3_put 4 = .ok (.ifCond .ne 14, 3) := dc154 bqX3_put_0 4 rfl rfl rfl
theorem dX3_put_7 : decode cX3_put 7 = .ok (.aload_n 0, 1) := dc42 bqX3_put_0 7 rfl rfl
theorem dX3_put_8 : decode cX3_put 8 = .ok (.getfield 9, 3) := dc180 bqX3_put_0 8 rfl rfl rfl
theorem dX3_put_11 : decode cX3_put 11 = .ok (.iload_n 1, 1) := dc27 bqX3_put_0 11 rfl rfl
theorem dX3_put_12 : decode cX3_put 12 = .ok (.iload_n 2, 1) := dc28 bqX3_put_0 12 rfl rfl
theorem dX3_put_13 : decode cX3_put 13 = .ok (.i2b, 1) := dc145 bqX3_put_0 13 rfl rfl
theorem dX3_put_14 : decode cX3_put 14 = .ok (.iastore, 1) := dc79 bqX3_put_0 14 rfl rfl
theorem dX3_put_15 : decode cX3_put 15 = .ok (.goto 29, 3) := dc167 bqX3_put_0 15 rfl rfl rfl
theorem dX3_put_18 : decode cX3_put 18 = .ok (.aload_n 0, 1) := dc42 bqX3_put_0 18 rfl rfl
theorem dX3_put_19 : decode cX3_put 19 = .ok (.getfield 13, 3) := dc180 bqX3_put_0 19 rfl rfl rfl
theorem dX3_put_22 : decode cX3_put 22 = .ok (.iconst 1, 1) := dc4 bqX3_put_0 22 rfl rfl
theorem bqX3_put_23 : hs_bs cX3_put 23 [160, 0, 14, 42, 180, 0, 9, 27, 28, 147, 79, 167, 0, 10, 42, 180, 0, 9, 27, 28, 79, 177] := hs_bs_of _ _ _ (by decide +kernel)
theorem dX3_put_23 : decode cX3_put 23 = .ok (.if_icmp .ne 14, 3) := dc160 bqX3_put_23 0 rfl rfl rfl
theorem dX3_put_26 : decode cX3_put 26 = .ok (.aload_n 0, 1) := dc42 bqX3_put_23 3 rfl rfl
theorem dX3_put_27 : decode cX3_put 27 = .ok (.getfield 9, 3) := dc180 bqX3_put_23 4 rfl rfl rfl
theorem dX3_put_30 : decode cX3_put 30 = .ok (.iload_n 1, 1) := dc27 bqX3_put_23 7 rfl rfl
theorem dX3_put_31 : decode cX3_put 31 = .ok (.iload_n 2, 1) := dc28 bqX3_put_23 8 rfl rfl
theorem dX3_put_32 : decode cX3_put 32 = .ok (.i2s, 1) := dc147 bqX3_put_23 9 rfl rfl
theorem dX3_put_33 : decode cX3_put 33 = .ok (.iastore, 1) := dc79 bqX3_put_23 10 rfl rfl
theorem dX3_put_34 : decode cX3_put 34 = .ok (.goto 10, 3) := dc167 bqX3_put_23 11 rfl rfl rfl
theorem dX3_put_37 : decode cX3_put 37 = .ok (.aload_n 0, 1) := dc42 bqX3_put_23 14 rfl rfl
theorem dX3_put_38 : decode cX3_put 38 = .ok (.getfield 9, 3) := dc180 bqX3_put_23 15 rfl rfl rfl
theorem dX3_put_41 : decode cX3_put 41 = .ok (.iload_n 1, 1) := dc27 bqX3_put_23 18 rfl rfl
theorem dX3_put_42 : decode cX3_put 42 = .ok (.iload_n 2, 1) := dc28 bqX3_put_23 19 rfl rfl
theorem dX3_put_43 : decode cX3_put 43 = .ok (.iastore, 1) := dc79 bqX3_put_23 20 rfl rfl
theorem dX3_put_44 : decode cX3_put 44 = .ok (.return_, 1) := dc177 bqX3_put_23 21 rfl rfl
theorem bqX4_init_0 : hs_bs cX4_init 0 [42, 183, 0, 3, 42, 17, 0, 160, 188, 10, 181, 0, 9, 177] := hs_bs_of _ _ _ (by decide +kernel)
theorem dX4_init_0 : decode cX4_init 0 = .ok (.aload_n 0, 1) := dc42 bqX4_init_0 0 rfl rfl
theorem dX4_init_1 : decode cX4_init 1 = .ok (.invokespecial 3, 3) := dc183 bqX4_init_0 1 rfl rfl rfl
theorem dX4_init_4 : decode cX4_init 4 = .ok (.aload_n 0, 1) := dc42 bqX4_init_0 4 rfl rfl
theorem dX4_init_5 : decode cX4_init 5 = .ok (.sipush 160, 3) := dc17 bqX4_init_0 5 rfl rfl rfl
theorem dX4_init_8 : decode cX4_init 8 = .ok (.newarray .int, 2) := by decide +kernel
theorem dX4_init_10 : decode cX4_init 10 = .ok (.putfield 9, 3) := dc181 bqX4_init_0 10 rfl rfl rfl
theorem dX4_init_13 : decode cX4_init 13 = .ok (.return_, 1) := dc177 bqX4_init_0 13 rfl rfl
set_option maxRecDepth 20000 in
theorem gX4_restart_X4_advance : GoodIn wsX4_restart (wsV RX4 19 RX4 yX4_advance wsX4_advance) := hs_gC (hs_gV (hs_inG 2 30 rfl rfl) (hs_inG 2 31 rfl rfl) (hs_inG 2 32 rfl rfl) (hs_inG 1 4 rfl rfl) inC_X4_advance)
theorem bqX4_restart_0 : hs_bs cX4_restart 0 [42, 3, 181, 0, 15, 42, 182, 0, 19, 177] := hs_bs_of _ _ _ (by decide +kernel)
theorem dX4_restart_0 : decode cX4_restart 0 = .ok (.aload_n 0, 1) := dc42 bqX4_restart_0 0 rfl rfl
theorem dX4_restart_1 : decode cX4_restart 1 = .ok (.iconst 0, 1) := dc3 bqX4_restart_0 1 rfl rfl
theorem dX4_restart_2 : decode cX4_restart 2 = .ok (.putfield 15, 3) := dc181 bqX4_restart_0 2 rfl rfl rfl
theorem dX4_restart_5 : decode cX4_restart 5 = .ok (.aload_n 0, 1) := dc42 bqX4_restart_0 5 rfl rfl
theorem dX4_restart_6 : decode cX4_restart 6 = .ok (.invokevirtual 19, 3) := dc182 bqX4_restart_0 6 rfl rfl rfl
theorem dX4_restart_9 : decode cX4_restart 9 = .ok (.return_, 1) := dc177 bqX4_restart_0 9 rfl rfl
set_option maxRecDepth 20000 in
theorem gX4_advance_X4_kindOfSign : GoodIn wsX4_advance (va_wsS RX4 34 yX4_kindOfSign wsX4_kindOfSign) := hs_gC (hs_gS (hs_inG 2 34 rfl rfl) (hs_inG 2 35 rfl rfl) (hs_inG 1 4 rfl rfl) inC_X4_kindOfSign)
set_option maxRecDepth 20000 in
theorem gX4_advance_X4_isLong : GoodIn wsX4_advance (wsV RX4 38 RX4 yX4_isLong wsX4_isLong) := hs_gC (hs_gV (hs_inG 2 37 rfl rfl) (hs_inG 2 39 rfl rfl) (hs_inG 0 0 rfl rfl) (hs_inG 1 4 rfl rfl) inC_X4_isLong)
set_option maxRecDepth 20000 in
theorem gX4_advance_X4_measure : GoodIn wsX4_advance (wsV RX4 42 RX4 yX4_measure wsX4_measure) := hs_gC (hs_gV (hs_inG 2 41 rfl rfl) (hs_inG 2 43 rfl rfl) (hs_inG 0 1 rfl rfl) (hs_inG 1 4 rfl rfl) inC_X4_measure)
theorem bqX4_advance_0 : hs_bs cX4_advance 0 [42, 42, 180, 0, 15, 181, 0, 22, 42, 180, 0, 22, 42, 180, 0, 25, 162, 0, 30, 42, 180, 0, 9, 42] := hs_bs_of _ _ _ (by decide +kernel)
theorem dX4_advance_0 : decode cX4_advance 0 = .ok (.aload_n 0, 1) := dc42 bqX4_advance_0 0 rfl rfl
theorem dX4_advance_1 : decode cX4_advance 1 = .ok (.aload_n 0, 1) := dc42 bqX4_advance_0 1 rfl rfl
theorem dX4_advance_2 : decode cX4_advance 2 = .ok (.getfield 15, 3) := dc180 bqX4_advance_0 2 rfl rfl rfl
theorem dX4_advance_5 : decode cX4_advance 5 = .ok (.putfield 22, 3) := dc181 bqX4_advance_0 5 rfl rfl rfl
theorem dX4_advance_8 : decode cX4_advance 8 = .ok (.aload_n 0, 1) := dc42 bqX4_advance_0 8 rfl rfl
theorem dX4_advance_9 : decode cX4_advance 9 = .ok (.getfield 22, 3) := dc180 bqX4_advance_0 9 rfl rfl rfl
theorem dX4_advance_12 : decode cX4_advance 12 = .ok (.aload_n 0, 1) := dc42 bqX4_advance_0 12 rfl rfl
theorem dX4_advance_13 : decode cX4_advance 13 = .ok (.getfield 25, 3) := dc180 bqX4_advance_0 13 rfl rfl rfl
theorem dX4_advance_16 : decode cX4_advance 16 = .ok (.if_icmp .ge 30, 3) := dc162 bqX4_advance_0 16 rfl rfl rfl
theorem dX4_advance_19 : decode cX4_advance 19 = .ok (.aload_n 0, 1) := dc42 bqX4_advance_0 19 rfl rfl
theorem dX4_advance_20 : decode cX4_advance 20 = .ok (.getfield 9, 3) := dc180 bqX4_advance_0 20 rfl rfl rfl
theorem dX4_advance_23 : decode cX4_advance 23 = .ok (.aload_n 0, 1) := dc42 bqX4_advance_0 23 rfl rfl
theorem bqX4_advance_24 : hs_bs cX4_advance 24 [180, 0, 22, 46, 16, 32, 160, 0, 16, 42, 89, 180, 0, 22, 4, 96, 181, 0, 22, 167, 255, 221, 42, 42] := hs_bs_of _ _ _ (by decide +kernel)
theorem dX4_advance_24 : decode cX4_advance 24 = .ok (.getfield 22, 3) := dc180 bqX4_advance_24 0 rfl rfl rfl
theorem dX4_advance_27 : decode cX4_advance 27 = .ok (.iaload, 1) := dc46 bqX4_advance_24 3 rfl rfl
theorem dX4_advance_28 : decode cX4_advance 28 = .ok (.bipush 32, 2) := dc16 bqX4_advance_24 4 rfl rfl rfl
theorem dX4_advance_30 : decode cX4_advance 30 = .ok (.if_icmp .ne 16, 3) := dc160 bqX4_advance_24 6 rfl rfl rfl
theorem dX4_advance_33 : decode cX4_advance 33 = .ok (.aload_n 0, 1) := dc42 bqX4_advance_24 9 rfl rfl
theorem dX4_advance_34 : decode cX4_advance 34 = .ok (.dup, 1) := dc89 bqX4_advance_24 10 rfl rfl
theorem dX4_advance_35 : decode cX4_advance 35 = .ok (.getfield 22, 3) := dc180 bqX4_advance_24 11 rfl rfl rfl
theorem dX4_advance_38 : decode cX4_advance 38 = .ok (.iconst 1, 1) := dc4 bqX4_advance_24 14 rfl rfl
theorem dX4_advance_39 : decode cX4_advance 39 = .ok (.iadd, 1) := dc96 bqX4_advance_24 15 rfl rfl
theorem dX4_advance_40 : decode cX4_advance 40 = .ok (.putfield 22, 3) := dc181 bqX4_advance_24 16 rfl rfl rfl
theorem dX4_advance_43 : decode cX4_advance 43 = .ok (.goto (-35), 3) := dc167 bqX4_advance_24 19 rfl rfl rfl
theorem dX4_advance_46 : decode cX4_advance 46 = .ok (.aload_n 0, 1) := dc42 bqX4_advance_24 22 rfl rfl
theorem dX4_advance_47 : decode cX4_advance 47 = .ok (.aload_n 0, 1) := dc42 bqX4_advance_24 23 rfl rfl
theorem bqX4_advance_48 : hs_bs cX4_advance 48 [180, 0, 22, 181, 0, 15, 42, 3, 181, 0, 28, 42, 180, 0, 22, 42, 180, 0, 25, 161, 0, 9, 42, 3] := hs_bs_of _ _ _ (by decide +kernel)
theorem dX4_advance_48 : decode cX4_advance 48 = .ok (.getfield 22, 3) := dc180 bqX4_advance_48 0 rfl rfl rfl
theorem dX4_advance_51 : decode cX4_advance 51 = .ok (.putfield 15, 3) := dc181 bqX4_advance_48 3 rfl rfl rfl
theorem dX4_advance_54 : decode cX4_advance 54 = .ok (.aload_n 0, 1) := dc42 bqX4_advance_48 6 rfl rfl
theorem dX4_advance_55 : decode cX4_advance 55 = .ok (.iconst 0, 1) := dc3 bqX4_advance_48 7 rfl rfl
theorem dX4_advance_56 : decode cX4_advance 56 = .ok (.putfield 28, 3) := dc181 bqX4_advance_48 8 rfl rfl rfl
theorem dX4_advance_59 : decode cX4_advance 59 = .ok (.aload_n 0, 1) := dc42 bqX4_advance_48 11 rfl rfl
theorem dX4_advance_60 : decode cX4_advance 60 = .ok (.getfield 22, 3) := dc180 bqX4_advance_48 12 rfl rfl rfl
theorem dX4_advance_63 : decode cX4_advance 63 = .ok (.aload_n 0, 1) := dc42 bqX4_advance_48 15 rfl rfl
theorem dX4_advance_64 : decode cX4_advance 64 = .ok (.getfield 25, 3) := dc180 bqX4_advance_48 16 rfl rfl rfl
