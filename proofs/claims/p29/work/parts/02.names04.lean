theorem dX4_advance_67 : decode cX4_advance 67 = .ok (.if_icmp .lt 9, 3) := dc161 bqX4_advance_48 19 rfl rfl rfl
theorem dX4_advance_70 : decode cX4_advance 70 = .ok (.aload_n 0, 1) := dc42 bqX4_advance_48 22 rfl rfl
theorem dX4_advance_71 : decode cX4_advance 71 = .ok (.iconst 0, 1) := dc3 bqX4_advance_48 23 rfl rfl
theorem bqX4_advance_72 : hs_bs cX4_advance 72 [181, 0, 31, 177, 42, 42, 180, 0, 9, 42, 180, 0, 22, 46, 184, 0, 34, 181, 0, 31, 42, 89] := hs_bs_of _ _ _ (by decide +kernel)
theorem dX4_advance_72 : decode cX4_advance 72 = .ok (.putfield 31, 3) := dc181 bqX4_advance_72 0 rfl rfl rfl
theorem dX4_advance_75 : decode cX4_advance 75 = .ok (.return_, 1) := dc177 bqX4_advance_72 3 rfl rfl
theorem dX4_advance_76 : decode cX4_advance 76 = .ok (.aload_n 0, 1) := dc42 bqX4_advance_72 4 rfl rfl
theorem dX4_advance_77 : decode cX4_advance 77 = .ok (.aload_n 0, 1) := dc42 bqX4_advance_72 5 rfl rfl
theorem dX4_advance_78 : decode cX4_advance 78 = .ok (.getfield 9, 3) := dc180 bqX4_advance_72 6 rfl rfl rfl
theorem dX4_advance_81 : decode cX4_advance 81 = .ok (.aload_n 0, 1) := dc42 bqX4_advance_72 9 rfl rfl
theorem dX4_advance_82 : decode cX4_advance 82 = .ok (.getfield 22, 3) := dc180 bqX4_advance_72 10 rfl rfl rfl
theorem dX4_advance_85 : decode cX4_advance 85 = .ok (.iaload, 1) := dc46 bqX4_advance_72 13 rfl rfl
theorem dX4_advance_86 : decode cX4_advance 86 = .ok (.invokestatic 34, 3) := dc184 bqX4_advance_72 14 rfl rfl rfl
theorem dX4_advance_89 : decode cX4_advance 89 = .ok (.putfield 31, 3) := dc181 bqX4_advance_72 17 rfl rfl rfl
theorem dX4_advance_92 : decode cX4_advance 92 = .ok (.aload_n 0, 1) := dc42 bqX4_advance_72 20 rfl rfl
theorem dX4_advance_93 : decode cX4_advance 93 = .ok (.dup, 1) := dc89 bqX4_advance_72 21 rfl rfl
theorem bqX4_advance_94 : hs_bs cX4_advance 94 [180, 0, 15, 4, 96, 181, 0, 15, 42, 182, 0, 38, 153, 0, 33, 42, 180, 0, 15, 42, 180, 0, 25] := hs_bs_of _ _ _ (by decide +kernel)
theorem dX4_advance_94 : decode cX4_advance 94 = .ok (.getfield 15, 3) := dc180 bqX4_advance_94 0 rfl rfl rfl
theorem dX4_advance_97 : decode cX4_advance 97 = .ok (.iconst 1, 1) := dc4 bqX4_advance_94 3 rfl rfl
theorem dX4_advance_98 : decode cX4_advance 98 = .ok (.iadd, 1) := dc96 bqX4_advance_94 4 rfl rfl
theorem dX4_advance_99 : decode cX4_advance 99 = .ok (.putfield 15, 3) := dc181 bqX4_advance_94 5 rfl rfl rfl
theorem dX4_advance_102 : decode cX4_advance 102 = .ok (.aload_n 0, 1) := dc42 bqX4_advance_94 8 rfl rfl
theorem dX4_advance_103 : decode cX4_advance 103 = .ok (.invokevirtual 38, 3) := dc182 bqX4_advance_94 9 rfl rfl rfl
theorem dX4_advance_106 : decode cX4_advance 106 = .ok (.ifCond .eq 33, 3) := dc153 bqX4_advance_94 12 rfl rfl rfl
theorem dX4_advance_109 : decode cX4_advance 109 = .ok (.aload_n 0, 1) := dc42 bqX4_advance_94 15 rfl rfl
theorem dX4_advance_110 : decode cX4_advance 110 = .ok (.getfield 15, 3) := dc180 bqX4_advance_94 16 rfl rfl rfl
theorem dX4_advance_113 : decode cX4_advance 113 = .ok (.aload_n 0, 1) := dc42 bqX4_advance_94 19 rfl rfl
theorem dX4_advance_114 : decode cX4_advance 114 = .ok (.getfield 25, 3) := dc180 bqX4_advance_94 20 rfl rfl rfl
theorem bqX4_advance_117 : hs_bs cX4_advance 117 [162, 0, 22, 42, 180, 0, 9, 42, 180, 0, 15, 46, 184, 0, 34, 42, 180, 0, 31, 159, 255, 212, 42] := hs_bs_of _ _ _ (by decide +kernel)
theorem dX4_advance_117 : decode cX4_advance 117 = .ok (.if_icmp .ge 22, 3) := dc162 bqX4_advance_117 0 rfl rfl rfl
theorem dX4_advance_120 : decode cX4_advance 120 = .ok (.aload_n 0, 1) := dc42 bqX4_advance_117 3 rfl rfl
theorem dX4_advance_121 : decode cX4_advance 121 = .ok (.getfield 9, 3) := dc180 bqX4_advance_117 4 rfl rfl rfl
theorem dX4_advance_124 : decode cX4_advance 124 = .ok (.aload_n 0, 1) := dc42 bqX4_advance_117 7 rfl rfl
theorem dX4_advance_125 : decode cX4_advance 125 = .ok (.getfield 15, 3) := dc180 bqX4_advance_117 8 rfl rfl rfl
theorem dX4_advance_128 : decode cX4_advance 128 = .ok (.iaload, 1) := dc46 bqX4_advance_117 11 rfl rfl
theorem dX4_advance_129 : decode cX4_advance 129 = .ok (.invokestatic 34, 3) := dc184 bqX4_advance_117 12 rfl rfl rfl
theorem dX4_advance_132 : decode cX4_advance 132 = .ok (.aload_n 0, 1) := dc42 bqX4_advance_117 15 rfl rfl
theorem dX4_advance_133 : decode cX4_advance 133 = .ok (.getfield 31, 3) := dc180 bqX4_advance_117 16 rfl rfl rfl
theorem dX4_advance_136 : decode cX4_advance 136 = .ok (.if_icmp .eq (-44), 3) := dc159 bqX4_advance_117 19 rfl rfl rfl
theorem dX4_advance_139 : decode cX4_advance 139 = .ok (.aload_n 0, 1) := dc42 bqX4_advance_117 22 rfl rfl
theorem bqX4_advance_140 : hs_bs cX4_advance 140 [180, 0, 31, 5, 160, 0, 7, 42, 182, 0, 42, 177] := hs_bs_of _ _ _ (by decide +kernel)
theorem dX4_advance_140 : decode cX4_advance 140 = .ok (.getfield 31, 3) := dc180 bqX4_advance_140 0 rfl rfl rfl
theorem dX4_advance_143 : decode cX4_advance 143 = .ok (.iconst 2, 1) := dc5 bqX4_advance_140 3 rfl rfl
theorem dX4_advance_144 : decode cX4_advance 144 = .ok (.if_icmp .ne 7, 3) := dc160 bqX4_advance_140 4 rfl rfl rfl
theorem dX4_advance_147 : decode cX4_advance 147 = .ok (.aload_n 0, 1) := dc42 bqX4_advance_140 7 rfl rfl
theorem dX4_advance_148 : decode cX4_advance 148 = .ok (.invokevirtual 42, 3) := dc182 bqX4_advance_140 8 rfl rfl rfl
theorem dX4_advance_151 : decode cX4_advance 151 = .ok (.return_, 1) := dc177 bqX4_advance_140 11 rfl rfl
theorem bqX4_measure_0 : hs_bs cX4_measure 0 [42, 180, 0, 15, 42, 180, 0, 22, 100, 5, 164, 0, 9, 42, 7, 181, 0, 31, 177, 42, 180, 0, 22, 60] := hs_bs_of _ _ _ (by decide +kernel)
theorem dX4_measure_0 : decode cX4_measure 0 = .ok (.aload_n 0, 1) := dc42 bqX4_measure_0 0 rfl rfl
theorem dX4_measure_1 : decode cX4_measure 1 = .ok (.getfield 15, 3) := dc180 bqX4_measure_0 1 rfl rfl rfl
theorem dX4_measure_4 : decode cX4_measure 4 = .ok (.aload_n 0, 1) := dc42 bqX4_measure_0 4 rfl rfl
theorem dX4_measure_5 : decode cX4_measure 5 = .ok (.getfield 22, 3) := dc180 bqX4_measure_0 5 rfl rfl rfl
theorem dX4_measure_8 : decode cX4_measure 8 = .ok (.isub, 1) := dc100 bqX4_measure_0 8 rfl rfl
theorem dX4_measure_9 : decode cX4_measure 9 = .ok (.iconst 2, 1) := dc5 bqX4_measure_0 9 rfl rfl
theorem dX4_measure_10 : decode cX4_measure 10 = .ok (.if_icmp .le 9, 3) := dc164 bqX4_measure_0 10 rfl rfl rfl
theorem dX4_measure_13 : decode cX4_measure 13 = .ok (.aload_n 0, 1) := dc42 bqX4_measure_0 13 rfl rfl
theorem dX4_measure_14 : decode cX4_measure 14 = .ok (.iconst 4, 1) := dc7 bqX4_measure_0 14 rfl rfl
theorem dX4_measure_15 : decode cX4_measure 15 = .ok (.putfield 31, 3) := dc181 bqX4_measure_0 15 rfl rfl rfl
theorem dX4_measure_18 : decode cX4_measure 18 = .ok (.return_, 1) := dc177 bqX4_measure_0 18 rfl rfl
theorem dX4_measure_19 : decode cX4_measure 19 = .ok (.aload_n 0, 1) := dc42 bqX4_measure_0 19 rfl rfl
theorem dX4_measure_20 : decode cX4_measure 20 = .ok (.getfield 22, 3) := dc180 bqX4_measure_0 20 rfl rfl rfl
theorem dX4_measure_23 : decode cX4_measure 23 = .ok (.istore_n 1, 1) := dc60 bqX4_measure_0 23 rfl rfl
theorem bqX4_measure_24 : hs_bs cX4_measure 24 [27, 42, 180, 0, 15, 162, 0, 30, 42, 42, 180, 0, 28, 16, 10, 104, 42, 180, 0, 9, 27, 46, 96] := hs_bs_of _ _ _ (by decide +kernel)
theorem dX4_measure_24 : decode cX4_measure 24 = .ok (.iload_n 1, 1) := dc27 bqX4_measure_24 0 rfl rfl
theorem dX4_measure_25 : decode cX4_measure 25 = .ok (.aload_n 0, 1) := dc42 bqX4_measure_24 1 rfl rfl
theorem dX4_measure_26 : decode cX4_measure 26 = .ok (.getfield 15, 3) := dc180 bqX4_measure_24 2 rfl rfl rfl
theorem dX4_measure_29 : decode cX4_measure 29 = .ok (.if_icmp .ge 30, 3) := dc162 bqX4_measure_24 5 rfl rfl rfl
theorem dX4_measure_32 : decode cX4_measure 32 = .ok (.aload_n 0, 1) := dc42 bqX4_measure_24 8 rfl rfl
theorem dX4_measure_33 : decode cX4_measure 33 = .ok (.aload_n 0, 1) := dc42 bqX4_measure_24 9 rfl rfl
theorem dX4_measure_34 : decode cX4_measure 34 = .ok (.getfield 28, 3) := dc180 bqX4_measure_24 10 rfl rfl rfl
theorem dX4_measure_37 : decode cX4_measure 37 = .ok (.bipush 10, 2) := dc16 bqX4_measure_24 13 rfl rfl rfl
theorem dX4_measure_39 : decode cX4_measure 39 = .ok (.imul, 1) := dc104 bqX4_measure_24 15 rfl rfl
theorem dX4_measure_40 : decode cX4_measure 40 = .ok (.aload_n 0, 1) := dc42 bqX4_measure_24 16 rfl rfl
theorem dX4_measure_41 : decode cX4_measure 41 = .ok (.getfield 9, 3) := dc180 bqX4_measure_24 17 rfl rfl rfl
theorem dX4_measure_44 : decode cX4_measure 44 = .ok (.iload_n 1, 1) := dc27 bqX4_measure_24 20 rfl rfl
theorem dX4_measure_45 : decode cX4_measure 45 = .ok (.iaload, 1) := dc46 bqX4_measure_24 21 rfl rfl
theorem dX4_measure_46 : decode cX4_measure 46 = .ok (.iadd, 1) := dc96 bqX4_measure_24 22 rfl rfl
theorem bqX4_measure_47 : hs_bs cX4_measure 47 [16, 48, 100, 181, 0, 28, 132, 1, 1, 167, 255, 224, 177] := hs_bs_of _ _ _ (by decide +kernel)
theorem dX4_measure_47 : decode cX4_measure 47 = .ok (.bipush 48, 2) := dc16 bqX4_measure_47 0 rfl rfl rfl
theorem dX4_measure_49 : decode cX4_measure 49 = .ok (.isub, 1) := dc100 bqX4_measure_47 2 rfl rfl
theorem dX4_measure_50 : decode cX4_measure 50 = .ok (.putfield 28, 3) := dc181 bqX4_measure_47 3 rfl rfl rfl
theorem dX4_measure_53 : decode cX4_measure 53 = .ok (.iinc 1 1, 3) := dc132 bqX4_measure_47 6 rfl rfl rfl
theorem dX4_measure_56 : decode cX4_measure 56 = .ok (.goto (-32), 3) := dc167 bqX4_measure_47 9 rfl rfl rfl
theorem dX4_measure_59 : decode cX4_measure 59 = .ok (.return_, 1) := dc177 bqX4_measure_47 12 rfl rfl
set_option maxRecDepth 20000 in
theorem gX4_isWord_J0_length_8abf5 : GoodIn wsX4_isWord (wsV RX4 45 RJ0 yJ0_length_8abf5 wsJ0_length_8abf5) := hs_gC (hs_gV (hs_inG 2 69 rfl rfl) (hs_inG 2 70 rfl rfl) (hs_inG 2 71 rfl rfl) (hs_inG 1 9 rfl rfl) inC_J0_length_8abf5)
set_option maxRecDepth 20000 in
theorem gX4_isWord_J0_charAt_5068e : GoodIn wsX4_isWord (wsV RX4 50 RJ0 yJ0_charAt_5068e wsJ0_charAt_5068e) := hs_gC (hs_gV (hs_inG 2 79 rfl rfl) (hs_inG 2 80 rfl rfl) (hs_inG 2 81 rfl rfl) (hs_inG 1 9 rfl rfl) inC_J0_charAt_5068e)
theorem bqX4_isWord_0 : hs_bs cX4_isWord 0 [43, 182, 0, 45, 42, 180, 0, 15, 42, 180, 0, 22, 100, 159, 0, 5, 3, 172, 3, 61, 28, 43] := hs_bs_of _ _ _ (by decide +kernel)
theorem dX4_isWord_0 : decode cX4_isWord 0 = .ok (.aload_n 1, 1) := dc43 bqX4_isWord_0 0 rfl rfl
theorem dX4_isWord_1 : decode cX4_isWord 1 = .ok (.invokevirtual 45, 3) := dc182 bqX4_isWord_0 1 rfl rfl rfl
theorem dX4_isWord_4 : decode cX4_isWord 4 = .ok (.aload_n 0, 1) := dc42 bqX4_isWord_0 4 rfl rfl
theorem dX4_isWord_5 : decode cX4_isWord 5 = .ok (.getfield 15, 3) := dc180 bqX4_isWord_0 5 rfl rfl rfl
theorem dX4_isWord_8 : decode cX4_isWord 8 = .ok (.aload_n 0, 1) := dc42 bqX4_isWord_0 8 rfl rfl
theorem dX4_isWord_9 : decode cX4_isWord 9 = .ok (.getfield 22, 3) := dc180 bqX4_isWord_0 9 rfl rfl rfl
theorem dX4_isWord_12 : decode cX4_isWord 12 = .ok (.isub, 1) := dc100 bqX4_isWord_0 12 rfl rfl
theorem dX4_isWord_13 : decode cX4_isWord 13 = .ok (.if_icmp .eq 5, 3) := dc159 bqX4_isWord_0 13 rfl rfl rfl
theorem dX4_isWord_16 : decode cX4_isWord 16 = .ok (.iconst 0, 1) := dc3 bqX4_isWord_0 16 rfl rfl
theorem dX4_isWord_17 : decode cX4_isWord 17 = .ok (.ireturn, 1) := dc172 bqX4_isWord_0 17 rfl rfl
theorem dX4_isWord_18 : decode cX4_isWord 18 = .ok (.iconst 0, 1) := dc3 bqX4_isWord_0 18 rfl rfl
theorem dX4_isWord_19 : decode cX4_isWord 19 = .ok (.istore_n 2, 1) := dc61 bqX4_isWord_0 19 rfl rfl
theorem dX4_isWord_20 : decode cX4_isWord 20 = .ok (.iload_n 2, 1) := dc28 bqX4_isWord_0 20 rfl rfl
theorem dX4_isWord_21 : decode cX4_isWord 21 = .ok (.aload_n 1, 1) := dc43 bqX4_isWord_0 21 rfl rfl
theorem bqX4_isWord_22 : hs_bs cX4_isWord 22 [182, 0, 45, 162, 0, 30, 42, 180, 0, 9, 42, 180, 0, 22, 28, 96, 46, 43, 28, 182, 0, 50] := hs_bs_of _ _ _ (by decide +kernel)
theorem dX4_isWord_22 : decode cX4_isWord 22 = .ok (.invokevirtual 45, 3) := dc182 bqX4_isWord_22 0 rfl rfl rfl
theorem dX4_isWord_25 : decode cX4_isWord 25 = .ok (.if_icmp .ge 30, 3) := dc162 bqX4_isWord_22 3 rfl rfl rfl
theorem dX4_isWord_28 : decode cX4_isWord 28 = .ok (.aload_n 0, 1) := dc42 bqX4_isWord_22 6 rfl rfl
theorem dX4_isWord_29 : decode cX4_isWord 29 = .ok (.getfield 9, 3) := dc180 bqX4_isWord_22 7 rfl rfl rfl
theorem dX4_isWord_32 : decode cX4_isWord 32 = .ok (.aload_n 0, 1) := dc42 bqX4_isWord_22 10 rfl rfl
theorem dX4_isWord_33 : decode cX4_isWord 33 = .ok (.getfield 22, 3) := dc180 bqX4_isWord_22 11 rfl rfl rfl
theorem dX4_isWord_36 : decode cX4_isWord 36 = .ok (.iload_n 2, 1) := dc28 bqX4_isWord_22 14 rfl rfl
theorem dX4_isWord_37 : decode cX4_isWord 37 = .ok (.iadd, 1) := dc96 bqX4_isWord_22 15 rfl rfl
theorem dX4_isWord_38 : decode cX4_isWord 38 = .ok (.iaload, 1) := dc46 bqX4_isWord_22 16 rfl rfl
theorem dX4_isWord_39 : decode cX4_isWord 39 = .ok (.aload_n 1, 1) := dc43 bqX4_isWord_22 17 rfl rfl
theorem dX4_isWord_40 : decode cX4_isWord 40 = .ok (.iload_n 2, 1) := dc28 bqX4_isWord_22 18 rfl rfl
theorem dX4_isWord_41 : decode cX4_isWord 41 = .ok (.invokevirtual 50, 3) := dc182 bqX4_isWord_22 19 rfl rfl rfl
theorem bqX4_isWord_44 : hs_bs cX4_isWord 44 [159, 0, 5, 3, 172, 132, 2, 1, 167, 255, 224, 4, 172] := hs_bs_of _ _ _ (by decide +kernel)
theorem dX4_isWord_44 : decode cX4_isWord 44 = .ok (.if_icmp .eq 5, 3) := dc159 bqX4_isWord_44 0 rfl rfl rfl
theorem dX4_isWord_47 : decode cX4_isWord 47 = .ok (.iconst 0, 1) := dc3 bqX4_isWord_44 3 rfl rfl
theorem dX4_isWord_48 : decode cX4_isWord 48 = .ok (.ireturn, 1) := dc172 bqX4_isWord_44 4 rfl rfl
theorem dX4_isWord_49 : decode cX4_isWord 49 = .ok (.iinc 2 1, 3) := dc132 bqX4_isWord_44 5 rfl rfl rfl
theorem dX4_isWord_52 : decode cX4_isWord 52 = .ok (.goto (-32), 3) := dc167 bqX4_isWord_44 8 rfl rfl rfl
theorem dX4_isWord_55 : decode cX4_isWord 55 = .ok (.iconst 1, 1) := dc4 bqX4_isWord_44 11 rfl rfl
theorem dX4_isWord_56 : decode cX4_isWord 56 = .ok (.ireturn, 1) := dc172 bqX4_isWord_44 12 rfl rfl
theorem bqX4_isLong_0 : hs_bs cX4_isLong 0 [42, 180, 0, 31, 4, 159, 0, 11, 42, 180, 0, 31, 5, 160, 0, 7, 4, 167, 0, 4, 3, 172] := hs_bs_of _ _ _ (by decide +kernel)
theorem dX4_isLong_0 : decode cX4_isLong 0 = .ok (.aload_n 0, 1) := dc42 bqX4_isLong_0 0 rfl rfl
theorem dX4_isLong_1 : decode cX4_isLong 1 = .ok (.getfield 31, 3) := dc180 bqX4_isLong_0 1 rfl rfl rfl
theorem dX4_isLong_4 : decode cX4_isLong 4 = .ok (.iconst 1, 1) := dc4 bqX4_isLong_0 4 rfl rfl
theorem dX4_isLong_5 : decode cX4_isLong 5 = .ok (.if_icmp .eq 11, 3) := dc159 bqX4_isLong_0 5 rfl rfl rfl
theorem dX4_isLong_8 : decode cX4_isLong 8 = .ok (.aload_n 0, 1) := dc42 bqX4_isLong_0 8 rfl rfl
theorem dX4_isLong_9 : decode cX4_isLong 9 = .ok (.getfield 31, 3) := dc180 bqX4_isLong_0 9 rfl rfl rfl
theorem dX4_isLong_12 : decode cX4_isLong 12 = .ok (.iconst 2, 1) := dc5 bqX4_isLong_0 12 rfl rfl
theorem dX4_isLong_13 : decode cX4_isLong 13 = .ok (.if_icmp .ne 7, 3) := dc160 bqX4_isLong_0 13 rfl rfl rfl
theorem dX4_isLong_16 : decode cX4_isLong 16 = .ok (.iconst 1, 1) := dc4 bqX4_isLong_0 16 rfl rfl
theorem dX4_isLong_17 : decode cX4_isLong 17 = .ok (.goto 4, 3) := dc167 bqX4_isLong_0 17 rfl rfl rfl
theorem dX4_isLong_20 : decode cX4_isLong 20 = .ok (.iconst 0, 1) := dc3 bqX4_isLong_0 20 rfl rfl
theorem dX4_isLong_21 : decode cX4_isLong 21 = .ok (.ireturn, 1) := dc172 bqX4_isLong_0 21 rfl rfl
theorem bqX4_kindOfSign_0 : hs_bs cX4_kindOfSign 0 [26, 16, 97, 161, 0, 11, 26, 16, 122, 163, 0, 5, 4, 172, 26, 16, 48, 161, 0, 11, 26, 16, 57] := hs_bs_of _ _ _ (by decide +kernel)
theorem dX4_kindOfSign_0 : decode cX4_kindOfSign 0 = .ok (.iload_n 0, 1) := dc26 bqX4_kindOfSign_0 0 rfl rfl
theorem dX4_kindOfSign_1 : decode cX4_kindOfSign 1 = .ok (.bipush 97, 2) := dc16 bqX4_kindOfSign_0 1 rfl rfl rfl
theorem dX4_kindOfSign_3 : decode cX4_kindOfSign 3 = .ok (.if_icmp .lt 11, 3) := dc161 bqX4_kindOfSign_0 3 rfl rfl rfl
theorem dX4_kindOfSign_6 : decode cX4_kindOfSign 6 = .ok (.iload_n 0, 1) := dc26 bqX4_kindOfSign_0 6 rfl rfl
theorem dX4_kindOfSign_7 : decode cX4_kindOfSign 7 = .ok (.bipush 122, 2) := dc16 bqX4_kindOfSign_0 7 rfl rfl rfl
theorem dX4_kindOfSign_9 : decode cX4_kindOfSign 9 = .ok (.if_icmp .gt 5, 3) := dc163 bqX4_kindOfSign_0 9 rfl rfl rfl
theorem dX4_kindOfSign_12 : decode cX4_kindOfSign 12 = .ok (.iconst 1, 1) := dc4 bqX4_kindOfSign_0 12 rfl rfl
theorem dX4_kindOfSign_13 : decode cX4_kindOfSign 13 = .ok (.ireturn, 1) := dc172 bqX4_kindOfSign_0 13 rfl rfl
theorem dX4_kindOfSign_14 : decode cX4_kindOfSign 14 = .ok (.iload_n 0, 1) := dc26 bqX4_kindOfSign_0 14 rfl rfl
theorem dX4_kindOfSign_15 : decode cX4_kindOfSign 15 = .ok (.bipush 48, 2) := dc16 bqX4_kindOfSign_0 15 rfl rfl rfl
theorem dX4_kindOfSign_17 : decode cX4_kindOfSign 17 = .ok (.if_icmp .lt 11, 3) := dc161 bqX4_kindOfSign_0 17 rfl rfl rfl
theorem dX4_kindOfSign_20 : decode cX4_kindOfSign 20 = .ok (.iload_n 0, 1) := dc26 bqX4_kindOfSign_0 20 rfl rfl
theorem dX4_kindOfSign_21 : decode cX4_kindOfSign 21 = .ok (.bipush 57, 2) := dc16 bqX4_kindOfSign_0 21 rfl rfl rfl
theorem bqX4_kindOfSign_23 : hs_bs cX4_kindOfSign 23 [163, 0, 5, 5, 172, 26, 16, 59, 160, 0, 7, 6, 167, 0, 4, 7, 172] := hs_bs_of _ _ _ (by decide +kernel)
theorem dX4_kindOfSign_23 : decode cX4_kindOfSign 23 = .ok (.if_icmp .gt 5, 3) := dc163 bqX4_kindOfSign_23 0 rfl rfl rfl
theorem dX4_kindOfSign_26 : decode cX4_kindOfSign 26 = .ok (.iconst 2, 1) := dc5 bqX4_kindOfSign_23 3 rfl rfl
theorem dX4_kindOfSign_27 : decode cX4_kindOfSign 27 = .ok (.ireturn, 1) := dc172 bqX4_kindOfSign_23 4 rfl rfl
theorem dX4_kindOfSign_28 : decode cX4_kindOfSign 28 = .ok (.iload_n 0, 1) := dc26 bqX4_kindOfSign_23 5 rfl rfl
theorem dX4_kindOfSign_29 : decode cX4_kindOfSign 29 = .ok (.bipush 59, 2) := dc16 bqX4_kindOfSign_23 6 rfl rfl rfl
theorem dX4_kindOfSign_31 : decode cX4_kindOfSign 31 = .ok (.if_icmp .ne 7, 3) := dc160 bqX4_kindOfSign_23 8 rfl rfl rfl
theorem dX4_kindOfSign_34 : decode cX4_kindOfSign 34 = .ok (.iconst 3, 1) := dc6 bqX4_kindOfSign_23 11 rfl rfl
theorem dX4_kindOfSign_35 : decode cX4_kindOfSign 35 = .ok (.goto 4, 3) := dc167 bqX4_kindOfSign_23 12 rfl rfl rfl
theorem dX4_kindOfSign_38 : decode cX4_kindOfSign 38 = .ok (.iconst 4, 1) := dc7 bqX4_kindOfSign_23 15 rfl rfl
theorem dX4_kindOfSign_39 : decode cX4_kindOfSign 39 = .ok (.ireturn, 1) := dc172 bqX4_kindOfSign_23 16 rfl rfl
set_option maxRecDepth 20000 in
theorem gX5_init_X4_init_n11 : GoodIn wsX5_init (wsX4_init) := hs_gC (hs_gT inC_X4_init)
set_option maxRecDepth 20000 in
theorem gX5_init_X6_init : GoodIn wsX5_init (wsX6_init) := hs_gC (hs_gT inC_X6_init)
theorem bqX5_init_0 : hs_bs cX5_init 0 [42, 183, 0, 3, 42, 187, 0, 9, 89, 183, 0, 11, 181, 0, 12, 42, 187, 0, 18, 89, 183, 0, 20] := hs_bs_of _ _ _ (by decide +kernel)
theorem dX5_init_0 : decode cX5_init 0 = .ok (.aload_n 0, 1) := dc42 bqX5_init_0 0 rfl rfl
theorem dX5_init_1 : decode cX5_init 1 = .ok (.invokespecial 3, 3) := dc183 bqX5_init_0 1 rfl rfl rfl
theorem dX5_init_4 : decode cX5_init 4 = .ok (.aload_n 0, 1) := dc42 bqX5_init_0 4 rfl rfl
theorem dX5_init_5 : decode cX5_init 5 = .ok (.new 9, 3) := dc187 bqX5_init_0 5 rfl rfl rfl
theorem dX5_init_8 : decode cX5_init 8 = .ok (.dup, 1) := dc89 bqX5_init_0 8 rfl rfl
theorem dX5_init_9 : decode cX5_init 9 = .ok (.invokespecial 11, 3) := dc183 bqX5_init_0 9 rfl rfl rfl
theorem dX5_init_12 : decode cX5_init 12 = .ok (.putfield 12, 3) := dc181 bqX5_init_0 12 rfl rfl rfl
theorem dX5_init_15 : decode cX5_init 15 = .ok (.aload_n 0, 1) := dc42 bqX5_init_0 15 rfl rfl
theorem dX5_init_16 : decode cX5_init 16 = .ok (.new 18, 3) := dc187 bqX5_init_0 16 rfl rfl rfl
theorem dX5_init_19 : decode cX5_init 19 = .ok (.dup, 1) := dc89 bqX5_init_0 19 rfl rfl
theorem dX5_init_20 : decode cX5_init 20 = .ok (.invokespecial 20, 3) := dc183 bqX5_init_0 20 rfl rfl rfl
theorem bqX5_init_23 : hs_bs cX5_init 23 [181, 0, 21, 177] := hs_bs_of _ _ _ (by decide +kernel)
theorem dX5_init_23 : decode cX5_init 23 = .ok (.putfield 21, 3) := dc181 bqX5_init_23 0 rfl rfl rfl
theorem dX5_init_26 : decode cX5_init 26 = .ok (.return_, 1) := dc177 bqX5_init_23 3 rfl rfl
set_option maxRecDepth 20000 in
theorem gX5_tellAll_X6_begin : GoodIn wsX5_tellAll (wsV RX5 25 RX6 yX6_begin wsX6_begin) := hs_gC (hs_gV (hs_inG 2 25 rfl rfl) (hs_inG 1 32 rfl rfl) (hs_inG 1 33 rfl rfl) (hs_inG 1 2 rfl rfl) inC_X6_begin)
set_option maxRecDepth 20000 in
theorem gX5_tellAll_X4_restart : GoodIn wsX5_tellAll (wsV RX5 38 RX4 yX4_restart wsX4_restart) := hs_gC (hs_gV (hs_inG 2 26 rfl rfl) (hs_inG 2 27 rfl rfl) (hs_inG 2 28 rfl rfl) (hs_inG 1 4 rfl rfl) inC_X4_restart)
set_option maxRecDepth 20000 in
theorem gX5_tellAll_X5_takeLine : GoodIn wsX5_tellAll (wsV RX5 44 RX5 yX5_takeLine wsX5_takeLine) := hs_gC (hs_gV (hs_inG 2 45 rfl rfl) (hs_inG 2 47 rfl rfl) (hs_inG 0 2 rfl rfl) (hs_inG 1 3 rfl rfl) inC_X5_takeLine)
set_option maxRecDepth 20000 in
theorem gX5_tellAll_X5_checkCase : GoodIn wsX5_tellAll (wsV RX5 47 RX5 yX5_checkCase wsX5_checkCase) := hs_gC (hs_gV (hs_inG 2 155 rfl rfl) (hs_inG 2 157 rfl rfl) (hs_inG 0 11 rfl rfl) (hs_inG 1 3 rfl rfl) inC_X5_checkCase)
theorem bqX5_tellAll_0 : hs_bs cX5_tellAll 0 [42, 180, 0, 21, 182, 0, 25, 42, 3, 181, 0, 28, 42, 3, 181, 0, 32, 42, 3, 181, 0, 35, 42] := hs_bs_of _ _ _ (by decide +kernel)
theorem dX5_tellAll_0 : decode cX5_tellAll 0 = .ok (.aload_n 0, 1) := dc42 bqX5_tellAll_0 0 rfl rfl
theorem dX5_tellAll_1 : decode cX5_tellAll 1 = .ok (.getfield 21, 3) := dc180 bqX5_tellAll_0 1 rfl rfl rfl
theorem dX5_tellAll_4 : decode cX5_tellAll 4 = .ok (.invokevirtual 25, 3) := dc182 bqX5_tellAll_0 4 rfl rfl rfl
theorem dX5_tellAll_7 : decode cX5_tellAll 7 = .ok (.aload_n 0, 1) := dc42 bqX5_tellAll_0 7 rfl rfl
theorem dX5_tellAll_8 : decode cX5_tellAll 8 = .ok (.iconst 0, 1) := dc3 bqX5_tellAll_0 8 rfl rfl
theorem dX5_tellAll_9 : decode cX5_tellAll 9 = .ok (.putfield 28, 3) := dc181 bqX5_tellAll_0 9 rfl rfl rfl
theorem dX5_tellAll_12 : decode cX5_tellAll 12 = .ok (.aload_n 0, 1) := dc42 bqX5_tellAll_0 12 rfl rfl
theorem dX5_tellAll_13 : decode cX5_tellAll 13 = .ok (.iconst 0, 1) := dc3 bqX5_tellAll_0 13 rfl rfl
theorem dX5_tellAll_14 : decode cX5_tellAll 14 = .ok (.putfield 32, 3) := dc181 bqX5_tellAll_0 14 rfl rfl rfl
theorem dX5_tellAll_17 : decode cX5_tellAll 17 = .ok (.aload_n 0, 1) := dc42 bqX5_tellAll_0 17 rfl rfl
theorem dX5_tellAll_18 : decode cX5_tellAll 18 = .ok (.iconst 0, 1) := dc3 bqX5_tellAll_0 18 rfl rfl
theorem dX5_tellAll_19 : decode cX5_tellAll 19 = .ok (.putfield 35, 3) := dc181 bqX5_tellAll_0 19 rfl rfl rfl
theorem dX5_tellAll_22 : decode cX5_tellAll 22 = .ok (.aload_n 0, 1) := dc42 bqX5_tellAll_0 22 rfl rfl
theorem bqX5_tellAll_23 : hs_bs cX5_tellAll 23 [180, 0, 12, 182, 0, 38, 3, 61, 28, 17, 0, 160, 162, 0, 30, 42, 180, 0, 32, 154, 0, 23, 42] := hs_bs_of _ _ _ (by decide +kernel)
theorem dX5_tellAll_23 : decode cX5_tellAll 23 = .ok (.getfield 12, 3) := dc180 bqX5_tellAll_23 0 rfl rfl rfl
theorem dX5_tellAll_26 : decode cX5_tellAll 26 = .ok (.invokevirtual 38, 3) := dc182 bqX5_tellAll_23 3 rfl rfl rfl
theorem dX5_tellAll_29 : decode cX5_tellAll 29 = .ok (.iconst 0, 1) := dc3 bqX5_tellAll_23 6 rfl rfl
theorem dX5_tellAll_30 : decode cX5_tellAll 30 = .ok (.istore_n 2, 1) := dc61 bqX5_tellAll_23 7 rfl rfl
theorem dX5_tellAll_31 : decode cX5_tellAll 31 = .ok (.iload_n 2, 1) := dc28 bqX5_tellAll_23 8 rfl rfl
theorem dX5_tellAll_32 : decode cX5_tellAll 32 = .ok (.sipush 160, 3) := dc17 bqX5_tellAll_23 9 rfl rfl rfl
theorem dX5_tellAll_35 : decode cX5_tellAll 35 = .ok (.if_icmp .ge 30, 3) := dc162 bqX5_tellAll_23 12 rfl rfl rfl
theorem dX5_tellAll_38 : decode cX5_tellAll 38 = .ok (.aload_n 0, 1) := dc42 bqX5_tellAll_23 15 rfl rfl
theorem dX5_tellAll_39 : decode cX5_tellAll 39 = .ok (.getfield 32, 3) := dc180 bqX5_tellAll_23 16 rfl rfl rfl
theorem dX5_tellAll_42 : decode cX5_tellAll 42 = .ok (.ifCond .ne 23, 3) := dc154 bqX5_tellAll_23 19 rfl rfl rfl
theorem dX5_tellAll_45 : decode cX5_tellAll 45 = .ok (.aload_n 0, 1) := dc42 bqX5_tellAll_23 22 rfl rfl
theorem bqX5_tellAll_46 : hs_bs cX5_tellAll 46 [180, 0, 12, 180, 0, 41, 153, 0, 13, 42, 182, 0, 44, 132, 2, 1, 167, 255, 225, 42, 180, 0, 32] := hs_bs_of _ _ _ (by decide +kernel)
theorem dX5_tellAll_46 : decode cX5_tellAll 46 = .ok (.getfield 12, 3) := dc180 bqX5_tellAll_46 0 rfl rfl rfl
theorem dX5_tellAll_49 : decode cX5_tellAll 49 = .ok (.getfield 41, 3) := dc180 bqX5_tellAll_46 3 rfl rfl rfl
theorem dX5_tellAll_52 : decode cX5_tellAll 52 = .ok (.ifCond .eq 13, 3) := dc153 bqX5_tellAll_46 6 rfl rfl rfl
theorem dX5_tellAll_55 : decode cX5_tellAll 55 = .ok (.aload_n 0, 1) := dc42 bqX5_tellAll_46 9 rfl rfl
theorem dX5_tellAll_56 : decode cX5_tellAll 56 = .ok (.invokevirtual 44, 3) := dc182 bqX5_tellAll_46 10 rfl rfl rfl
theorem dX5_tellAll_59 : decode cX5_tellAll 59 = .ok (.iinc 2 1, 3) := dc132 bqX5_tellAll_46 13 rfl rfl rfl
theorem dX5_tellAll_62 : decode cX5_tellAll 62 = .ok (.goto (-31), 3) := dc167 bqX5_tellAll_46 16 rfl rfl rfl
theorem dX5_tellAll_65 : decode cX5_tellAll 65 = .ok (.aload_n 0, 1) := dc42 bqX5_tellAll_46 19 rfl rfl
theorem dX5_tellAll_66 : decode cX5_tellAll 66 = .ok (.getfield 32, 3) := dc180 bqX5_tellAll_46 20 rfl rfl rfl
theorem bqX5_tellAll_69 : hs_bs cX5_tellAll 69 [154, 0, 8, 42, 43, 182, 0, 47, 28, 172] := hs_bs_of _ _ _ (by decide +kernel)
theorem dX5_tellAll_69 : decode cX5_tellAll 69 = .ok (.ifCond .ne 8, 3) := dc154 bqX5_tellAll_69 0 rfl rfl rfl
theorem dX5_tellAll_72 : decode cX5_tellAll 72 = .ok (.aload_n 0, 1) := dc42 bqX5_tellAll_69 3 rfl rfl
theorem dX5_tellAll_73 : decode cX5_tellAll 73 = .ok (.aload_n 1, 1) := dc43 bqX5_tellAll_69 4 rfl rfl
theorem dX5_tellAll_74 : decode cX5_tellAll 74 = .ok (.invokevirtual 47, 3) := dc182 bqX5_tellAll_69 5 rfl rfl rfl
theorem dX5_tellAll_77 : decode cX5_tellAll 77 = .ok (.iload_n 2, 1) := dc28 bqX5_tellAll_69 8 rfl rfl
theorem dX5_tellAll_78 : decode cX5_tellAll 78 = .ok (.ireturn, 1) := dc172 bqX5_tellAll_69 9 rfl rfl
set_option maxRecDepth 20000 in
theorem gX5_takeLine_X5_lineHere : GoodIn wsX5_takeLine (wsV RX5 51 RX5 yX5_lineHere wsX5_lineHere) := hs_gC (hs_gV (hs_inG 2 49 rfl rfl) (hs_inG 2 51 rfl rfl) (hs_inG 0 3 rfl rfl) (hs_inG 1 3 rfl rfl) inC_X5_lineHere)
set_option maxRecDepth 20000 in
theorem gX5_takeLine_X5_checkName : GoodIn wsX5_takeLine (wsV RX5 55 RX5 yX5_checkName wsX5_checkName) := hs_gC (hs_gV (hs_inG 2 117 rfl rfl) (hs_inG 2 119 rfl rfl) (hs_inG 0 4 rfl rfl) (hs_inG 1 3 rfl rfl) inC_X5_checkName)
set_option maxRecDepth 20000 in
theorem gX5_takeLine_X4_advance : GoodIn wsX5_takeLine (wsV RX5 59 RX4 yX4_advance wsX4_advance) := hs_gC (hs_gV (hs_inG 2 129 rfl rfl) (hs_inG 2 31 rfl rfl) (hs_inG 2 32 rfl rfl) (hs_inG 1 4 rfl rfl) inC_X4_advance)
set_option maxRecDepth 20000 in
theorem gX5_takeLine_X5_takeCells : GoodIn wsX5_takeLine (wsV RX5 62 RX5 yX5_takeCells wsX5_takeCells) := hs_gC (hs_gV (hs_inG 2 130 rfl rfl) (hs_inG 2 132 rfl rfl) (hs_inG 0 7 rfl rfl) (hs_inG 1 3 rfl rfl) inC_X5_takeCells)
set_option maxRecDepth 20000 in
theorem gX5_takeLine_X5_takeNumber : GoodIn wsX5_takeLine (wsV RX5 65 RX5 yX5_takeNumber wsX5_takeNumber) := hs_gC (hs_gV (hs_inG 2 134 rfl rfl) (hs_inG 2 136 rfl rfl) (hs_inG 0 8 rfl rfl) (hs_inG 1 3 rfl rfl) inC_X5_takeNumber)
set_option maxRecDepth 20000 in
theorem gX5_takeLine_X5_takePair : GoodIn wsX5_takeLine (wsV RX5 78 RX5 yX5_takePair wsX5_takePair) := hs_gC (hs_gV (hs_inG 2 139 rfl rfl) (hs_inG 2 141 rfl rfl) (hs_inG 0 9 rfl rfl) (hs_inG 1 3 rfl rfl) inC_X5_takePair)
set_option maxRecDepth 20000 in
theorem gX5_takeLine_X6_addPerson : GoodIn wsX5_takeLine (wsV RX5 81 RX6 yX6_addPerson wsX6_addPerson) := hs_gC (hs_gV (hs_inG 2 147 rfl rfl) (hs_inG 2 148 rfl rfl) (hs_inG 2 149 rfl rfl) (hs_inG 1 2 rfl rfl) inC_X6_addPerson)
set_option maxRecDepth 20000 in
theorem gX5_takeLine_X5_takeMark : GoodIn wsX5_takeLine (wsV RX5 84 RX5 yX5_takeMark wsX5_takeMark) := hs_gC (hs_gV (hs_inG 2 151 rfl rfl) (hs_inG 2 153 rfl rfl) (hs_inG 0 10 rfl rfl) (hs_inG 1 3 rfl rfl) inC_X5_takeMark)
theorem bqX5_takeLine_0 : hs_bs cX5_takeLine 0 [42, 182, 0, 51, 60, 42, 27, 182, 0, 55, 42, 180, 0, 32, 153, 0, 4, 177, 42, 180, 0, 12] := hs_bs_of _ _ _ (by decide +kernel)
theorem dX5_takeLine_0 : decode cX5_takeLine 0 = .ok (.aload_n 0, 1) := dc42 bqX5_takeLine_0 0 rfl rfl
theorem dX5_takeLine_1 : decode cX5_takeLine 1 = .ok (.invokevirtual 51, 3) := dc182 bqX5_takeLine_0 1 rfl rfl rfl
theorem dX5_takeLine_4 : decode cX5_takeLine 4 = .ok (.istore_n 1, 1) := dc60 bqX5_takeLine_0 4 rfl rfl
theorem dX5_takeLine_5 : decode cX5_takeLine 5 = .ok (.aload_n 0, 1) := dc42 bqX5_takeLine_0 5 rfl rfl
theorem dX5_takeLine_6 : decode cX5_takeLine 6 = .ok (.iload_n 1, 1) := dc27 bqX5_takeLine_0 6 rfl rfl
theorem dX5_takeLine_7 : decode cX5_takeLine 7 = .ok (.invokevirtual 55, 3) := dc182 bqX5_takeLine_0 7 rfl rfl rfl
theorem dX5_takeLine_10 : decode cX5_takeLine 10 = .ok (.aload_n 0, 1) := dc42 bqX5_takeLine_0 10 rfl rfl
theorem dX5_takeLine_11 : decode cX5_takeLine 11 = .ok (.getfield 32, 3) := dc180 bqX5_takeLine_0 11 rfl rfl rfl
theorem dX5_takeLine_14 : decode cX5_takeLine 14 = .ok (.ifCond .eq 4, 3) := dc153 bqX5_takeLine_0 14 rfl rfl rfl
theorem dX5_takeLine_17 : decode cX5_takeLine 17 = .ok (.return_, 1) := dc177 bqX5_takeLine_0 17 rfl rfl
theorem dX5_takeLine_18 : decode cX5_takeLine 18 = .ok (.aload_n 0, 1) := dc42 bqX5_takeLine_0 18 rfl rfl
theorem dX5_takeLine_19 : decode cX5_takeLine 19 = .ok (.getfield 12, 3) := dc180 bqX5_takeLine_0 19 rfl rfl rfl
theorem bqX5_takeLine_22 : hs_bs cX5_takeLine 22 [182, 0, 59, 27] := hs_bs_of _ _ _ (by decide +kernel)
theorem dX5_takeLine_22 : decode cX5_takeLine 22 = .ok (.invokevirtual 59, 3) := dc182 bqX5_takeLine_22 0 rfl rfl rfl
theorem dX5_takeLine_25 : decode cX5_takeLine 25 = .ok (.iload_n 1, 1) := dc27 bqX5_takeLine_22 3 rfl rfl
theorem dX5_takeLine_26 : decode cX5_takeLine 26 = .ok (.tableswitch 104 4 8 #[34, 41, 60, 79, 97], 34) := by decide +kernel
theorem bqX5_takeLine_60 : hs_bs cX5_takeLine 60 [42, 182, 0, 62, 167, 0, 74, 42, 180, 0, 21, 42, 3, 16, 9, 16, 252, 182, 0, 65, 181, 0, 69] := hs_bs_of _ _ _ (by decide +kernel)
theorem dX5_takeLine_60 : decode cX5_takeLine 60 = .ok (.aload_n 0, 1) := dc42 bqX5_takeLine_60 0 rfl rfl
theorem dX5_takeLine_61 : decode cX5_takeLine 61 = .ok (.invokevirtual 62, 3) := dc182 bqX5_takeLine_60 1 rfl rfl rfl
theorem dX5_takeLine_64 : decode cX5_takeLine 64 = .ok (.goto 74, 3) := dc167 bqX5_takeLine_60 4 rfl rfl rfl
theorem dX5_takeLine_67 : decode cX5_takeLine 67 = .ok (.aload_n 0, 1) := dc42 bqX5_takeLine_60 7 rfl rfl
theorem dX5_takeLine_68 : decode cX5_takeLine 68 = .ok (.getfield 21, 3) := dc180 bqX5_takeLine_60 8 rfl rfl rfl
theorem dX5_takeLine_71 : decode cX5_takeLine 71 = .ok (.aload_n 0, 1) := dc42 bqX5_takeLine_60 11 rfl rfl
theorem dX5_takeLine_72 : decode cX5_takeLine 72 = .ok (.iconst 0, 1) := dc3 bqX5_takeLine_60 12 rfl rfl
theorem dX5_takeLine_73 : decode cX5_takeLine 73 = .ok (.bipush 9, 2) := dc16 bqX5_takeLine_60 13 rfl rfl rfl
theorem dX5_takeLine_75 : decode cX5_takeLine 75 = .ok (.bipush (-4), 2) := dc16 bqX5_takeLine_60 15 rfl rfl rfl
theorem dX5_takeLine_77 : decode cX5_takeLine 77 = .ok (.invokevirtual 65, 3) := dc182 bqX5_takeLine_60 17 rfl rfl rfl
theorem dX5_takeLine_80 : decode cX5_takeLine 80 = .ok (.putfield 69, 3) := dc181 bqX5_takeLine_60 20 rfl rfl rfl
theorem bqX5_takeLine_83 : hs_bs cX5_takeLine 83 [167, 0, 55, 42, 180, 0, 21, 42, 3, 16, 99, 16, 252, 182, 0, 65, 181, 0, 72, 167, 0, 36, 42] := hs_bs_of _ _ _ (by decide +kernel)
theorem dX5_takeLine_83 : decode cX5_takeLine 83 = .ok (.goto 55, 3) := dc167 bqX5_takeLine_83 0 rfl rfl rfl
theorem dX5_takeLine_86 : decode cX5_takeLine 86 = .ok (.aload_n 0, 1) := dc42 bqX5_takeLine_83 3 rfl rfl
theorem dX5_takeLine_87 : decode cX5_takeLine 87 = .ok (.getfield 21, 3) := dc180 bqX5_takeLine_83 4 rfl rfl rfl
theorem dX5_takeLine_90 : decode cX5_takeLine 90 = .ok (.aload_n 0, 1) := dc42 bqX5_takeLine_83 7 rfl rfl
theorem dX5_takeLine_91 : decode cX5_takeLine 91 = .ok (.iconst 0, 1) := dc3 bqX5_takeLine_83 8 rfl rfl
theorem dX5_takeLine_92 : decode cX5_takeLine 92 = .ok (.bipush 99, 2) := dc16 bqX5_takeLine_83 9 rfl rfl rfl
theorem dX5_takeLine_94 : decode cX5_takeLine 94 = .ok (.bipush (-4), 2) := dc16 bqX5_takeLine_83 11 rfl rfl rfl
theorem dX5_takeLine_96 : decode cX5_takeLine 96 = .ok (.invokevirtual 65, 3) := dc182 bqX5_takeLine_83 13 rfl rfl rfl
theorem dX5_takeLine_99 : decode cX5_takeLine 99 = .ok (.putfield 72, 3) := dc181 bqX5_takeLine_83 16 rfl rfl rfl
theorem dX5_takeLine_102 : decode cX5_takeLine 102 = .ok (.goto 36, 3) := dc167 bqX5_takeLine_83 19 rfl rfl rfl
theorem dX5_takeLine_105 : decode cX5_takeLine 105 = .ok (.aload_n 0, 1) := dc42 bqX5_takeLine_83 22 rfl rfl
theorem bqX5_takeLine_106 : hs_bs cX5_takeLine 106 [180, 0, 21, 42, 5, 8, 16, 252, 182, 0, 65, 181, 0, 75, 167, 0, 18, 42, 182, 0, 78, 167, 0, 11] := hs_bs_of _ _ _ (by decide +kernel)
theorem dX5_takeLine_106 : decode cX5_takeLine 106 = .ok (.getfield 21, 3) := dc180 bqX5_takeLine_106 0 rfl rfl rfl
theorem dX5_takeLine_109 : decode cX5_takeLine 109 = .ok (.aload_n 0, 1) := dc42 bqX5_takeLine_106 3 rfl rfl
theorem dX5_takeLine_110 : decode cX5_takeLine 110 = .ok (.iconst 2, 1) := dc5 bqX5_takeLine_106 4 rfl rfl
theorem dX5_takeLine_111 : decode cX5_takeLine 111 = .ok (.iconst 5, 1) := dc8 bqX5_takeLine_106 5 rfl rfl
theorem dX5_takeLine_112 : decode cX5_takeLine 112 = .ok (.bipush (-4), 2) := dc16 bqX5_takeLine_106 6 rfl rfl rfl
theorem dX5_takeLine_114 : decode cX5_takeLine 114 = .ok (.invokevirtual 65, 3) := dc182 bqX5_takeLine_106 8 rfl rfl rfl
theorem dX5_takeLine_117 : decode cX5_takeLine 117 = .ok (.putfield 75, 3) := dc181 bqX5_takeLine_106 11 rfl rfl rfl
theorem dX5_takeLine_120 : decode cX5_takeLine 120 = .ok (.goto 18, 3) := dc167 bqX5_takeLine_106 14 rfl rfl rfl
theorem dX5_takeLine_123 : decode cX5_takeLine 123 = .ok (.aload_n 0, 1) := dc42 bqX5_takeLine_106 17 rfl rfl
theorem dX5_takeLine_124 : decode cX5_takeLine 124 = .ok (.invokevirtual 78, 3) := dc182 bqX5_takeLine_106 18 rfl rfl rfl
theorem dX5_takeLine_127 : decode cX5_takeLine 127 = .ok (.goto 11, 3) := dc167 bqX5_takeLine_106 21 rfl rfl rfl
theorem bqX5_takeLine_130 : hs_bs cX5_takeLine 130 [42, 180, 0, 21, 27, 182, 0, 81, 42, 182, 0, 84, 177] := hs_bs_of _ _ _ (by decide +kernel)
theorem dX5_takeLine_130 : decode cX5_takeLine 130 = .ok (.aload_n 0, 1) := dc42 bqX5_takeLine_130 0 rfl rfl
theorem dX5_takeLine_131 : decode cX5_takeLine 131 = .ok (.getfield 21, 3) := dc180 bqX5_takeLine_130 1 rfl rfl rfl
theorem dX5_takeLine_134 : decode cX5_takeLine 134 = .ok (.iload_n 1, 1) := dc27 bqX5_takeLine_130 4 rfl rfl
theorem dX5_takeLine_135 : decode cX5_takeLine 135 = .ok (.invokevirtual 81, 3) := dc182 bqX5_takeLine_130 5 rfl rfl rfl
theorem dX5_takeLine_138 : decode cX5_takeLine 138 = .ok (.aload_n 0, 1) := dc42 bqX5_takeLine_130 8 rfl rfl
theorem dX5_takeLine_139 : decode cX5_takeLine 139 = .ok (.invokevirtual 84, 3) := dc182 bqX5_takeLine_130 9 rfl rfl rfl
theorem dX5_takeLine_142 : decode cX5_takeLine 142 = .ok (.return_, 1) := dc177 bqX5_takeLine_130 12 rfl rfl
set_option maxRecDepth 20000 in
theorem gX5_lineHere_X5_wordOf : GoodIn wsX5_lineHere (va_wsS RX5 87 yX5_wordOf wsX5_wordOf) := hs_gC (hs_gS (hs_inG 2 53 rfl rfl) (hs_inG 2 54 rfl rfl) (hs_inG 1 3 rfl rfl) inC_X5_wordOf)
set_option maxRecDepth 20000 in
theorem gX5_lineHere_X4_isWord : GoodIn wsX5_lineHere (wsV RX5 91 RX4 yX4_isWord wsX4_isWord) := hs_gC (hs_gV (hs_inG 2 65 rfl rfl) (hs_inG 2 66 rfl rfl) (hs_inG 2 67 rfl rfl) (hs_inG 1 4 rfl rfl) inC_X4_isWord)
theorem bqX5_lineHere_0 : hs_bs cX5_lineHere 0 [42, 180, 0, 12, 180, 0, 41, 4, 159, 0, 6, 16, 252, 172, 3, 60, 27, 16, 9, 162, 0, 25, 42] := hs_bs_of _ _ _ (by decide +kernel)
theorem dX5_lineHere_0 : decode cX5_lineHere 0 = .ok (.aload_n 0, 1) := dc42 bqX5_lineHere_0 0 rfl rfl
theorem dX5_lineHere_1 : decode cX5_lineHere 1 = .ok (.getfield 12, 3) := dc180 bqX5_lineHere_0 1 rfl rfl rfl
theorem dX5_lineHere_4 : decode cX5_lineHere 4 = .ok (.getfield 41, 3) := dc180 bqX5_lineHere_0 4 rfl rfl rfl
theorem dX5_lineHere_7 : decode cX5_lineHere 7 = .ok (.iconst 1, 1) := dc4 bqX5_lineHere_0 7 rfl rfl
theorem dX5_lineHere_8 : decode cX5_lineHere 8 = .ok (.if_icmp .eq 6, 3) := dc159 bqX5_lineHere_0 8 rfl rfl rfl
theorem dX5_lineHere_11 : decode cX5_lineHere 11 = .ok (.bipush (-4), 2) := dc16 bqX5_lineHere_0 11 rfl rfl rfl
theorem dX5_lineHere_13 : decode cX5_lineHere 13 = .ok (.ireturn, 1) := dc172 bqX5_lineHere_0 13 rfl rfl
theorem dX5_lineHere_14 : decode cX5_lineHere 14 = .ok (.iconst 0, 1) := dc3 bqX5_lineHere_0 14 rfl rfl
theorem dX5_lineHere_15 : decode cX5_lineHere 15 = .ok (.istore_n 1, 1) := dc60 bqX5_lineHere_0 15 rfl rfl
theorem dX5_lineHere_16 : decode cX5_lineHere 16 = .ok (.iload_n 1, 1) := dc27 bqX5_lineHere_0 16 rfl rfl
theorem dX5_lineHere_17 : decode cX5_lineHere 17 = .ok (.bipush 9, 2) := dc16 bqX5_lineHere_0 17 rfl rfl rfl
theorem dX5_lineHere_19 : decode cX5_lineHere 19 = .ok (.if_icmp .ge 25, 3) := dc162 bqX5_lineHere_0 19 rfl rfl rfl
theorem dX5_lineHere_22 : decode cX5_lineHere 22 = .ok (.aload_n 0, 1) := dc42 bqX5_lineHere_0 22 rfl rfl
theorem bqX5_lineHere_23 : hs_bs cX5_lineHere 23 [180, 0, 12, 27, 184, 0, 87, 182, 0, 91, 153, 0, 5, 27, 172, 132, 1, 1, 167, 255, 231, 16, 252, 172] := hs_bs_of _ _ _ (by decide +kernel)
theorem dX5_lineHere_23 : decode cX5_lineHere 23 = .ok (.getfield 12, 3) := dc180 bqX5_lineHere_23 0 rfl rfl rfl
theorem dX5_lineHere_26 : decode cX5_lineHere 26 = .ok (.iload_n 1, 1) := dc27 bqX5_lineHere_23 3 rfl rfl
theorem dX5_lineHere_27 : decode cX5_lineHere 27 = .ok (.invokestatic 87, 3) := dc184 bqX5_lineHere_23 4 rfl rfl rfl
theorem dX5_lineHere_30 : decode cX5_lineHere 30 = .ok (.invokevirtual 91, 3) := dc182 bqX5_lineHere_23 7 rfl rfl rfl
theorem dX5_lineHere_33 : decode cX5_lineHere 33 = .ok (.ifCond .eq 5, 3) := dc153 bqX5_lineHere_23 10 rfl rfl rfl
theorem dX5_lineHere_36 : decode cX5_lineHere 36 = .ok (.iload_n 1, 1) := dc27 bqX5_lineHere_23 13 rfl rfl
theorem dX5_lineHere_37 : decode cX5_lineHere 37 = .ok (.ireturn, 1) := dc172 bqX5_lineHere_23 14 rfl rfl
theorem dX5_lineHere_38 : decode cX5_lineHere 38 = .ok (.iinc 1 1, 3) := dc132 bqX5_lineHere_23 15 rfl rfl rfl
theorem dX5_lineHere_41 : decode cX5_lineHere 41 = .ok (.goto (-25), 3) := dc167 bqX5_lineHere_23 18 rfl rfl rfl
theorem dX5_lineHere_44 : decode cX5_lineHere 44 = .ok (.bipush (-4), 2) := dc16 bqX5_lineHere_23 21 rfl rfl rfl
theorem dX5_lineHere_46 : decode cX5_lineHere 46 = .ok (.ireturn, 1) := dc172 bqX5_lineHere_23 23 rfl rfl
theorem bqX5_wordOf_0 : hs_bs cX5_wordOf 0 [26] := hs_bs_of _ _ _ (by decide +kernel)
theorem dX5_wordOf_0 : decode cX5_wordOf 0 = .ok (.iload_n 0, 1) := dc26 bqX5_wordOf_0 0 rfl rfl
theorem dX5_wordOf_1 : decode cX5_wordOf 1 = .ok (.tableswitch 71 0 7 #[47, 50, 53, 56, 59, 62, 65, 68], 47) := by decide +kernel
theorem bqX5_wordOf_48 : hs_bs cX5_wordOf 48 [18, 95, 176, 18, 97, 176, 18, 99, 176, 18, 101, 176, 18, 103, 176, 18, 105, 176, 18, 106, 176, 18, 107, 176] := hs_bs_of _ _ _ (by decide +kernel)
theorem dX5_wordOf_48 : decode cX5_wordOf 48 = .ok (.ldc 95, 2) := dc18 bqX5_wordOf_48 0 rfl rfl
theorem dX5_wordOf_50 : decode cX5_wordOf 50 = .ok (.areturn, 1) := dc176 bqX5_wordOf_48 2 rfl rfl
theorem dX5_wordOf_51 : decode cX5_wordOf 51 = .ok (.ldc 97, 2) := dc18 bqX5_wordOf_48 3 rfl rfl
theorem dX5_wordOf_53 : decode cX5_wordOf 53 = .ok (.areturn, 1) := dc176 bqX5_wordOf_48 5 rfl rfl
theorem dX5_wordOf_54 : decode cX5_wordOf 54 = .ok (.ldc 99, 2) := dc18 bqX5_wordOf_48 6 rfl rfl
theorem dX5_wordOf_56 : decode cX5_wordOf 56 = .ok (.areturn, 1) := dc176 bqX5_wordOf_48 8 rfl rfl
theorem dX5_wordOf_57 : decode cX5_wordOf 57 = .ok (.ldc 101, 2) := dc18 bqX5_wordOf_48 9 rfl rfl
theorem dX5_wordOf_59 : decode cX5_wordOf 59 = .ok (.areturn, 1) := dc176 bqX5_wordOf_48 11 rfl rfl
theorem dX5_wordOf_60 : decode cX5_wordOf 60 = .ok (.ldc 103, 2) := dc18 bqX5_wordOf_48 12 rfl rfl
theorem dX5_wordOf_62 : decode cX5_wordOf 62 = .ok (.areturn, 1) := dc176 bqX5_wordOf_48 14 rfl rfl
theorem dX5_wordOf_63 : decode cX5_wordOf 63 = .ok (.ldc 105, 2) := dc18 bqX5_wordOf_48 15 rfl rfl
theorem dX5_wordOf_65 : decode cX5_wordOf 65 = .ok (.areturn, 1) := dc176 bqX5_wordOf_48 17 rfl rfl
theorem dX5_wordOf_66 : decode cX5_wordOf 66 = .ok (.ldc 106, 2) := dc18 bqX5_wordOf_48 18 rfl rfl
theorem dX5_wordOf_68 : decode cX5_wordOf 68 = .ok (.areturn, 1) := dc176 bqX5_wordOf_48 20 rfl rfl
theorem dX5_wordOf_69 : decode cX5_wordOf 69 = .ok (.ldc 107, 2) := dc18 bqX5_wordOf_48 21 rfl rfl
theorem dX5_wordOf_71 : decode cX5_wordOf 71 = .ok (.areturn, 1) := dc176 bqX5_wordOf_48 23 rfl rfl
theorem bqX5_wordOf_72 : hs_bs cX5_wordOf 72 [18, 109, 176] := hs_bs_of _ _ _ (by decide +kernel)
theorem dX5_wordOf_72 : decode cX5_wordOf 72 = .ok (.ldc 109, 2) := dc18 bqX5_wordOf_72 0 rfl rfl
theorem dX5_wordOf_74 : decode cX5_wordOf 74 = .ok (.areturn, 1) := dc176 bqX5_wordOf_72 2 rfl rfl
set_option maxRecDepth 20000 in
theorem gX5_checkName_X5_blameFor : GoodIn wsX5_checkName (wsV RX5 111 RX5 yX5_blameFor wsX5_blameFor) := hs_gC (hs_gV (hs_inG 2 121 rfl rfl) (hs_inG 2 123 rfl rfl) (hs_inG 0 5 rfl rfl) (hs_inG 1 3 rfl rfl) inC_X5_blameFor)
set_option maxRecDepth 20000 in
theorem gX5_checkName_X5_blame : GoodIn wsX5_checkName (wsV RX5 114 RX5 yX5_blame wsX5_blame) := hs_gC (hs_gV (hs_inG 2 125 rfl rfl) (hs_inG 2 127 rfl rfl) (hs_inG 0 6 rfl rfl) (hs_inG 1 3 rfl rfl) inC_X5_blame)
theorem bqX5_checkName_0 : hs_bs cX5_checkName 0 [27, 16, 252, 160, 0, 16, 42, 4, 182, 0, 111, 42, 5, 182, 0, 114, 167, 0, 85, 27, 16, 8] := hs_bs_of _ _ _ (by decide +kernel)
theorem dX5_checkName_0 : decode cX5_checkName 0 = .ok (.iload_n 1, 1) := dc27 bqX5_checkName_0 0 rfl rfl
theorem dX5_checkName_1 : decode cX5_checkName 1 = .ok (.bipush (-4), 2) := dc16 bqX5_checkName_0 1 rfl rfl rfl
theorem dX5_checkName_3 : decode cX5_checkName 3 = .ok (.if_icmp .ne 16, 3) := dc160 bqX5_checkName_0 3 rfl rfl rfl
theorem dX5_checkName_6 : decode cX5_checkName 6 = .ok (.aload_n 0, 1) := dc42 bqX5_checkName_0 6 rfl rfl
theorem dX5_checkName_7 : decode cX5_checkName 7 = .ok (.iconst 1, 1) := dc4 bqX5_checkName_0 7 rfl rfl
theorem dX5_checkName_8 : decode cX5_checkName 8 = .ok (.invokevirtual 111, 3) := dc182 bqX5_checkName_0 8 rfl rfl rfl
theorem dX5_checkName_11 : decode cX5_checkName 11 = .ok (.aload_n 0, 1) := dc42 bqX5_checkName_0 11 rfl rfl
theorem dX5_checkName_12 : decode cX5_checkName 12 = .ok (.iconst 2, 1) := dc5 bqX5_checkName_0 12 rfl rfl
theorem dX5_checkName_13 : decode cX5_checkName 13 = .ok (.invokevirtual 114, 3) := dc182 bqX5_checkName_0 13 rfl rfl rfl
theorem dX5_checkName_16 : decode cX5_checkName 16 = .ok (.goto 85, 3) := dc167 bqX5_checkName_0 16 rfl rfl rfl
theorem dX5_checkName_19 : decode cX5_checkName 19 = .ok (.iload_n 1, 1) := dc27 bqX5_checkName_0 19 rfl rfl
theorem dX5_checkName_20 : decode cX5_checkName 20 = .ok (.bipush 8, 2) := dc16 bqX5_checkName_0 20 rfl rfl rfl
theorem bqX5_checkName_22 : hs_bs cX5_checkName 22 [160, 0, 23, 42, 180, 0, 21, 180, 0, 117, 16, 8, 161, 0, 67, 42, 8, 182, 0, 114, 167, 0, 59, 27] := hs_bs_of _ _ _ (by decide +kernel)
theorem dX5_checkName_22 : decode cX5_checkName 22 = .ok (.if_icmp .ne 23, 3) := dc160 bqX5_checkName_22 0 rfl rfl rfl
theorem dX5_checkName_25 : decode cX5_checkName 25 = .ok (.aload_n 0, 1) := dc42 bqX5_checkName_22 3 rfl rfl
theorem dX5_checkName_26 : decode cX5_checkName 26 = .ok (.getfield 21, 3) := dc180 bqX5_checkName_22 4 rfl rfl rfl
theorem dX5_checkName_29 : decode cX5_checkName 29 = .ok (.getfield 117, 3) := dc180 bqX5_checkName_22 7 rfl rfl rfl
theorem dX5_checkName_32 : decode cX5_checkName 32 = .ok (.bipush 8, 2) := dc16 bqX5_checkName_22 10 rfl rfl rfl
theorem dX5_checkName_34 : decode cX5_checkName 34 = .ok (.if_icmp .lt 67, 3) := dc161 bqX5_checkName_22 12 rfl rfl rfl
theorem dX5_checkName_37 : decode cX5_checkName 37 = .ok (.aload_n 0, 1) := dc42 bqX5_checkName_22 15 rfl rfl
theorem dX5_checkName_38 : decode cX5_checkName 38 = .ok (.iconst 5, 1) := dc8 bqX5_checkName_22 16 rfl rfl
theorem dX5_checkName_39 : decode cX5_checkName 39 = .ok (.invokevirtual 114, 3) := dc182 bqX5_checkName_22 17 rfl rfl rfl
theorem dX5_checkName_42 : decode cX5_checkName 42 = .ok (.goto 59, 3) := dc167 bqX5_checkName_22 20 rfl rfl rfl
theorem dX5_checkName_45 : decode cX5_checkName 45 = .ok (.iload_n 1, 1) := dc27 bqX5_checkName_22 23 rfl rfl
theorem bqX5_checkName_46 : hs_bs cX5_checkName 46 [6, 163, 0, 22, 42, 180, 0, 21, 180, 0, 120, 7, 161, 0, 43, 42, 8, 182, 0, 114, 167, 0, 35, 42] := hs_bs_of _ _ _ (by decide +kernel)
theorem dX5_checkName_46 : decode cX5_checkName 46 = .ok (.iconst 3, 1) := dc6 bqX5_checkName_46 0 rfl rfl
theorem dX5_checkName_47 : decode cX5_checkName 47 = .ok (.if_icmp .gt 22, 3) := dc163 bqX5_checkName_46 1 rfl rfl rfl
theorem dX5_checkName_50 : decode cX5_checkName 50 = .ok (.aload_n 0, 1) := dc42 bqX5_checkName_46 4 rfl rfl
theorem dX5_checkName_51 : decode cX5_checkName 51 = .ok (.getfield 21, 3) := dc180 bqX5_checkName_46 5 rfl rfl rfl
theorem dX5_checkName_54 : decode cX5_checkName 54 = .ok (.getfield 120, 3) := dc180 bqX5_checkName_46 8 rfl rfl rfl
theorem dX5_checkName_57 : decode cX5_checkName 57 = .ok (.iconst 4, 1) := dc7 bqX5_checkName_46 11 rfl rfl
theorem dX5_checkName_58 : decode cX5_checkName 58 = .ok (.if_icmp .lt 43, 3) := dc161 bqX5_checkName_46 12 rfl rfl rfl
theorem dX5_checkName_61 : decode cX5_checkName 61 = .ok (.aload_n 0, 1) := dc42 bqX5_checkName_46 15 rfl rfl
theorem dX5_checkName_62 : decode cX5_checkName 62 = .ok (.iconst 5, 1) := dc8 bqX5_checkName_46 16 rfl rfl
theorem dX5_checkName_63 : decode cX5_checkName 63 = .ok (.invokevirtual 114, 3) := dc182 bqX5_checkName_46 17 rfl rfl rfl
theorem dX5_checkName_66 : decode cX5_checkName 66 = .ok (.goto 35, 3) := dc167 bqX5_checkName_46 20 rfl rfl rfl
theorem dX5_checkName_69 : decode cX5_checkName 69 = .ok (.aload_n 0, 1) := dc42 bqX5_checkName_46 23 rfl rfl
theorem bqX5_checkName_70 : hs_bs cX5_checkName 70 [180, 0, 28, 27, 122, 4, 126, 4, 160, 0, 11, 42, 7, 182, 0, 114, 167, 0, 15, 42, 89, 180, 0, 28] := hs_bs_of _ _ _ (by decide +kernel)
theorem dX5_checkName_70 : decode cX5_checkName 70 = .ok (.getfield 28, 3) := dc180 bqX5_checkName_70 0 rfl rfl rfl
theorem dX5_checkName_73 : decode cX5_checkName 73 = .ok (.iload_n 1, 1) := dc27 bqX5_checkName_70 3 rfl rfl
theorem dX5_checkName_74 : decode cX5_checkName 74 = .ok (.ishr, 1) := dc122 bqX5_checkName_70 4 rfl rfl
theorem dX5_checkName_75 : decode cX5_checkName 75 = .ok (.iconst 1, 1) := dc4 bqX5_checkName_70 5 rfl rfl
theorem dX5_checkName_76 : decode cX5_checkName 76 = .ok (.iand, 1) := dc126 bqX5_checkName_70 6 rfl rfl
theorem dX5_checkName_77 : decode cX5_checkName 77 = .ok (.iconst 1, 1) := dc4 bqX5_checkName_70 7 rfl rfl
theorem dX5_checkName_78 : decode cX5_checkName 78 = .ok (.if_icmp .ne 11, 3) := dc160 bqX5_checkName_70 8 rfl rfl rfl
theorem dX5_checkName_81 : decode cX5_checkName 81 = .ok (.aload_n 0, 1) := dc42 bqX5_checkName_70 11 rfl rfl
theorem dX5_checkName_82 : decode cX5_checkName 82 = .ok (.iconst 4, 1) := dc7 bqX5_checkName_70 12 rfl rfl
theorem dX5_checkName_83 : decode cX5_checkName 83 = .ok (.invokevirtual 114, 3) := dc182 bqX5_checkName_70 13 rfl rfl rfl
theorem dX5_checkName_86 : decode cX5_checkName 86 = .ok (.goto 15, 3) := dc167 bqX5_checkName_70 16 rfl rfl rfl
theorem dX5_checkName_89 : decode cX5_checkName 89 = .ok (.aload_n 0, 1) := dc42 bqX5_checkName_70 19 rfl rfl
theorem dX5_checkName_90 : decode cX5_checkName 90 = .ok (.dup, 1) := dc89 bqX5_checkName_70 20 rfl rfl
theorem dX5_checkName_91 : decode cX5_checkName 91 = .ok (.getfield 28, 3) := dc180 bqX5_checkName_70 21 rfl rfl rfl
theorem bqX5_checkName_94 : hs_bs cX5_checkName 94 [4, 27, 120, 128, 181, 0, 28, 177] := hs_bs_of _ _ _ (by decide +kernel)
theorem dX5_checkName_94 : decode cX5_checkName 94 = .ok (.iconst 1, 1) := dc4 bqX5_checkName_94 0 rfl rfl
theorem dX5_checkName_95 : decode cX5_checkName 95 = .ok (.iload_n 1, 1) := dc27 bqX5_checkName_94 1 rfl rfl
theorem dX5_checkName_96 : decode cX5_checkName 96 = .ok (.ishl, 1) := dc120 bqX5_checkName_94 2 rfl rfl
theorem dX5_checkName_97 : decode cX5_checkName 97 = .ok (.ior, 1) := dc128 bqX5_checkName_94 3 rfl rfl
theorem dX5_checkName_98 : decode cX5_checkName 98 = .ok (.putfield 28, 3) := dc181 bqX5_checkName_94 4 rfl rfl rfl
theorem dX5_checkName_101 : decode cX5_checkName 101 = .ok (.return_, 1) := dc177 bqX5_checkName_94 7 rfl rfl
set_option maxRecDepth 20000 in
theorem gX5_takeCells_X5_takeNumber : GoodIn wsX5_takeCells (wsV RX5 65 RX5 yX5_takeNumber wsX5_takeNumber) := hs_gC (hs_gV (hs_inG 2 134 rfl rfl) (hs_inG 2 136 rfl rfl) (hs_inG 0 8 rfl rfl) (hs_inG 1 3 rfl rfl) inC_X5_takeNumber)
set_option maxRecDepth 20000 in
theorem gX5_takeCells_X5_blame : GoodIn wsX5_takeCells (wsV RX5 114 RX5 yX5_blame wsX5_blame) := hs_gC (hs_gV (hs_inG 2 125 rfl rfl) (hs_inG 2 127 rfl rfl) (hs_inG 0 6 rfl rfl) (hs_inG 1 3 rfl rfl) inC_X5_blame)
theorem bqX5_takeCells_0 : hs_bs cX5_takeCells 0 [42, 180, 0, 21, 3, 181, 0, 123, 42, 180, 0, 21, 180, 0, 123, 16, 8, 162, 0, 72, 42, 180, 0, 32] := hs_bs_of _ _ _ (by decide +kernel)
theorem dX5_takeCells_0 : decode cX5_takeCells 0 = .ok (.aload_n 0, 1) := dc42 bqX5_takeCells_0 0 rfl rfl
theorem dX5_takeCells_1 : decode cX5_takeCells 1 = .ok (.getfield 21, 3) := dc180 bqX5_takeCells_0 1 rfl rfl rfl
theorem dX5_takeCells_4 : decode cX5_takeCells 4 = .ok (.iconst 0, 1) := dc3 bqX5_takeCells_0 4 rfl rfl
theorem dX5_takeCells_5 : decode cX5_takeCells 5 = .ok (.putfield 123, 3) := dc181 bqX5_takeCells_0 5 rfl rfl rfl
theorem dX5_takeCells_8 : decode cX5_takeCells 8 = .ok (.aload_n 0, 1) := dc42 bqX5_takeCells_0 8 rfl rfl
theorem dX5_takeCells_9 : decode cX5_takeCells 9 = .ok (.getfield 21, 3) := dc180 bqX5_takeCells_0 9 rfl rfl rfl
theorem dX5_takeCells_12 : decode cX5_takeCells 12 = .ok (.getfield 123, 3) := dc180 bqX5_takeCells_0 12 rfl rfl rfl
theorem dX5_takeCells_15 : decode cX5_takeCells 15 = .ok (.bipush 8, 2) := dc16 bqX5_takeCells_0 15 rfl rfl rfl
theorem dX5_takeCells_17 : decode cX5_takeCells 17 = .ok (.if_icmp .ge 72, 3) := dc162 bqX5_takeCells_0 17 rfl rfl rfl
theorem dX5_takeCells_20 : decode cX5_takeCells 20 = .ok (.aload_n 0, 1) := dc42 bqX5_takeCells_0 20 rfl rfl
theorem dX5_takeCells_21 : decode cX5_takeCells 21 = .ok (.getfield 32, 3) := dc180 bqX5_takeCells_0 21 rfl rfl rfl
theorem bqX5_takeCells_24 : hs_bs cX5_takeCells 24 [154, 0, 65, 42, 180, 0, 21, 180, 0, 123, 5, 161, 0, 14, 42, 180, 0, 12, 180, 0, 41, 5] := hs_bs_of _ _ _ (by decide +kernel)
theorem dX5_takeCells_24 : decode cX5_takeCells 24 = .ok (.ifCond .ne 65, 3) := dc154 bqX5_takeCells_24 0 rfl rfl rfl
theorem dX5_takeCells_27 : decode cX5_takeCells 27 = .ok (.aload_n 0, 1) := dc42 bqX5_takeCells_24 3 rfl rfl
theorem dX5_takeCells_28 : decode cX5_takeCells 28 = .ok (.getfield 21, 3) := dc180 bqX5_takeCells_24 4 rfl rfl rfl
theorem dX5_takeCells_31 : decode cX5_takeCells 31 = .ok (.getfield 123, 3) := dc180 bqX5_takeCells_24 7 rfl rfl rfl
theorem dX5_takeCells_34 : decode cX5_takeCells 34 = .ok (.iconst 2, 1) := dc5 bqX5_takeCells_24 10 rfl rfl
theorem dX5_takeCells_35 : decode cX5_takeCells 35 = .ok (.if_icmp .lt 14, 3) := dc161 bqX5_takeCells_24 11 rfl rfl rfl
theorem dX5_takeCells_38 : decode cX5_takeCells 38 = .ok (.aload_n 0, 1) := dc42 bqX5_takeCells_24 14 rfl rfl
theorem dX5_takeCells_39 : decode cX5_takeCells 39 = .ok (.getfield 12, 3) := dc180 bqX5_takeCells_24 15 rfl rfl rfl
theorem dX5_takeCells_42 : decode cX5_takeCells 42 = .ok (.getfield 41, 3) := dc180 bqX5_takeCells_24 18 rfl rfl rfl
theorem dX5_takeCells_45 : decode cX5_takeCells 45 = .ok (.iconst 2, 1) := dc5 bqX5_takeCells_24 21 rfl rfl
theorem bqX5_takeCells_46 : hs_bs cX5_takeCells 46 [160, 0, 43, 42, 180, 0, 21, 180, 0, 126, 42, 180, 0, 21, 180, 0, 123, 42, 3, 16, 9, 16, 252] := hs_bs_of _ _ _ (by decide +kernel)
theorem dX5_takeCells_46 : decode cX5_takeCells 46 = .ok (.if_icmp .ne 43, 3) := dc160 bqX5_takeCells_46 0 rfl rfl rfl
theorem dX5_takeCells_49 : decode cX5_takeCells 49 = .ok (.aload_n 0, 1) := dc42 bqX5_takeCells_46 3 rfl rfl
theorem dX5_takeCells_50 : decode cX5_takeCells 50 = .ok (.getfield 21, 3) := dc180 bqX5_takeCells_46 4 rfl rfl rfl
theorem dX5_takeCells_53 : decode cX5_takeCells 53 = .ok (.getfield 126, 3) := dc180 bqX5_takeCells_46 7 rfl rfl rfl
theorem dX5_takeCells_56 : decode cX5_takeCells 56 = .ok (.aload_n 0, 1) := dc42 bqX5_takeCells_46 10 rfl rfl
theorem dX5_takeCells_57 : decode cX5_takeCells 57 = .ok (.getfield 21, 3) := dc180 bqX5_takeCells_46 11 rfl rfl rfl
theorem dX5_takeCells_60 : decode cX5_takeCells 60 = .ok (.getfield 123, 3) := dc180 bqX5_takeCells_46 14 rfl rfl rfl
theorem dX5_takeCells_63 : decode cX5_takeCells 63 = .ok (.aload_n 0, 1) := dc42 bqX5_takeCells_46 17 rfl rfl
theorem dX5_takeCells_64 : decode cX5_takeCells 64 = .ok (.iconst 0, 1) := dc3 bqX5_takeCells_46 18 rfl rfl
theorem dX5_takeCells_65 : decode cX5_takeCells 65 = .ok (.bipush 9, 2) := dc16 bqX5_takeCells_46 19 rfl rfl rfl
theorem dX5_takeCells_67 : decode cX5_takeCells 67 = .ok (.bipush (-4), 2) := dc16 bqX5_takeCells_46 21 rfl rfl rfl
theorem bqX5_takeCells_69 : hs_bs cX5_takeCells 69 [182, 0, 65, 79, 42, 180, 0, 21, 89, 180, 0, 123, 4, 96, 181, 0, 123, 167, 255, 178, 42, 180, 0, 12] := hs_bs_of _ _ _ (by decide +kernel)
theorem dX5_takeCells_69 : decode cX5_takeCells 69 = .ok (.invokevirtual 65, 3) := dc182 bqX5_takeCells_69 0 rfl rfl rfl
theorem dX5_takeCells_72 : decode cX5_takeCells 72 = .ok (.iastore, 1) := dc79 bqX5_takeCells_69 3 rfl rfl
theorem dX5_takeCells_73 : decode cX5_takeCells 73 = .ok (.aload_n 0, 1) := dc42 bqX5_takeCells_69 4 rfl rfl
theorem dX5_takeCells_74 : decode cX5_takeCells 74 = .ok (.getfield 21, 3) := dc180 bqX5_takeCells_69 5 rfl rfl rfl
theorem dX5_takeCells_77 : decode cX5_takeCells 77 = .ok (.dup, 1) := dc89 bqX5_takeCells_69 8 rfl rfl
theorem dX5_takeCells_78 : decode cX5_takeCells 78 = .ok (.getfield 123, 3) := dc180 bqX5_takeCells_69 9 rfl rfl rfl
theorem dX5_takeCells_81 : decode cX5_takeCells 81 = .ok (.iconst 1, 1) := dc4 bqX5_takeCells_69 12 rfl rfl
theorem dX5_takeCells_82 : decode cX5_takeCells 82 = .ok (.iadd, 1) := dc96 bqX5_takeCells_69 13 rfl rfl
theorem dX5_takeCells_83 : decode cX5_takeCells 83 = .ok (.putfield 123, 3) := dc181 bqX5_takeCells_69 14 rfl rfl rfl
theorem dX5_takeCells_86 : decode cX5_takeCells 86 = .ok (.goto (-78), 3) := dc167 bqX5_takeCells_69 17 rfl rfl rfl
theorem dX5_takeCells_89 : decode cX5_takeCells 89 = .ok (.aload_n 0, 1) := dc42 bqX5_takeCells_69 20 rfl rfl
theorem dX5_takeCells_90 : decode cX5_takeCells 90 = .ok (.getfield 12, 3) := dc180 bqX5_takeCells_69 21 rfl rfl rfl
theorem bqX5_takeCells_93 : hs_bs cX5_takeCells 93 [180, 0, 41, 5, 160, 0, 24, 42, 42, 180, 0, 12, 180, 0, 130, 16, 9, 164, 0, 7, 6, 167, 0, 4] := hs_bs_of _ _ _ (by decide +kernel)
theorem dX5_takeCells_93 : decode cX5_takeCells 93 = .ok (.getfield 41, 3) := dc180 bqX5_takeCells_93 0 rfl rfl rfl
theorem dX5_takeCells_96 : decode cX5_takeCells 96 = .ok (.iconst 2, 1) := dc5 bqX5_takeCells_93 3 rfl rfl
theorem dX5_takeCells_97 : decode cX5_takeCells 97 = .ok (.if_icmp .ne 24, 3) := dc160 bqX5_takeCells_93 4 rfl rfl rfl
theorem dX5_takeCells_100 : decode cX5_takeCells 100 = .ok (.aload_n 0, 1) := dc42 bqX5_takeCells_93 7 rfl rfl
theorem dX5_takeCells_101 : decode cX5_takeCells 101 = .ok (.aload_n 0, 1) := dc42 bqX5_takeCells_93 8 rfl rfl
theorem dX5_takeCells_102 : decode cX5_takeCells 102 = .ok (.getfield 12, 3) := dc180 bqX5_takeCells_93 9 rfl rfl rfl
theorem dX5_takeCells_105 : decode cX5_takeCells 105 = .ok (.getfield 130, 3) := dc180 bqX5_takeCells_93 12 rfl rfl rfl
theorem dX5_takeCells_108 : decode cX5_takeCells 108 = .ok (.bipush 9, 2) := dc16 bqX5_takeCells_93 15 rfl rfl rfl
theorem dX5_takeCells_110 : decode cX5_takeCells 110 = .ok (.if_icmp .le 7, 3) := dc164 bqX5_takeCells_93 17 rfl rfl rfl
theorem dX5_takeCells_113 : decode cX5_takeCells 113 = .ok (.iconst 3, 1) := dc6 bqX5_takeCells_93 20 rfl rfl
theorem dX5_takeCells_114 : decode cX5_takeCells 114 = .ok (.goto 4, 3) := dc167 bqX5_takeCells_93 21 rfl rfl rfl
theorem bqX5_takeCells_117 : hs_bs cX5_takeCells 117 [8, 182, 0, 114, 177] := hs_bs_of _ _ _ (by decide +kernel)
theorem dX5_takeCells_117 : decode cX5_takeCells 117 = .ok (.iconst 5, 1) := dc8 bqX5_takeCells_117 0 rfl rfl
theorem dX5_takeCells_118 : decode cX5_takeCells 118 = .ok (.invokevirtual 114, 3) := dc182 bqX5_takeCells_117 1 rfl rfl rfl
theorem dX5_takeCells_121 : decode cX5_takeCells 121 = .ok (.return_, 1) := dc177 bqX5_takeCells_117 4 rfl rfl
set_option maxRecDepth 20000 in
theorem gX5_takePair_X5_takeNumber : GoodIn wsX5_takePair (wsV RX5 65 RX5 yX5_takeNumber wsX5_takeNumber) := hs_gC (hs_gV (hs_inG 2 134 rfl rfl) (hs_inG 2 136 rfl rfl) (hs_inG 0 8 rfl rfl) (hs_inG 1 3 rfl rfl) inC_X5_takeNumber)
set_option maxRecDepth 20000 in
theorem gX5_takePair_X6_addPair : GoodIn wsX5_takePair (wsV RX5 133 RX6 yX6_addPair wsX6_addPair) := hs_gC (hs_gV (hs_inG 2 143 rfl rfl) (hs_inG 2 144 rfl rfl) (hs_inG 2 145 rfl rfl) (hs_inG 1 2 rfl rfl) inC_X6_addPair)
theorem bqX5_takePair_0 : hs_bs cX5_takePair 0 [42, 3, 7, 16, 252, 182, 0, 65, 60, 42, 3, 7, 27, 182, 0, 65, 61, 42, 180, 0, 21, 27, 28] := hs_bs_of _ _ _ (by decide +kernel)
theorem dX5_takePair_0 : decode cX5_takePair 0 = .ok (.aload_n 0, 1) := dc42 bqX5_takePair_0 0 rfl rfl
theorem dX5_takePair_1 : decode cX5_takePair 1 = .ok (.iconst 0, 1) := dc3 bqX5_takePair_0 1 rfl rfl
theorem dX5_takePair_2 : decode cX5_takePair 2 = .ok (.iconst 4, 1) := dc7 bqX5_takePair_0 2 rfl rfl
theorem dX5_takePair_3 : decode cX5_takePair 3 = .ok (.bipush (-4), 2) := dc16 bqX5_takePair_0 3 rfl rfl rfl
theorem dX5_takePair_5 : decode cX5_takePair 5 = .ok (.invokevirtual 65, 3) := dc182 bqX5_takePair_0 5 rfl rfl rfl
theorem dX5_takePair_8 : decode cX5_takePair 8 = .ok (.istore_n 1, 1) := dc60 bqX5_takePair_0 8 rfl rfl
theorem dX5_takePair_9 : decode cX5_takePair 9 = .ok (.aload_n 0, 1) := dc42 bqX5_takePair_0 9 rfl rfl
theorem dX5_takePair_10 : decode cX5_takePair 10 = .ok (.iconst 0, 1) := dc3 bqX5_takePair_0 10 rfl rfl
theorem dX5_takePair_11 : decode cX5_takePair 11 = .ok (.iconst 4, 1) := dc7 bqX5_takePair_0 11 rfl rfl
theorem dX5_takePair_12 : decode cX5_takePair 12 = .ok (.iload_n 1, 1) := dc27 bqX5_takePair_0 12 rfl rfl
theorem dX5_takePair_13 : decode cX5_takePair 13 = .ok (.invokevirtual 65, 3) := dc182 bqX5_takePair_0 13 rfl rfl rfl
theorem dX5_takePair_16 : decode cX5_takePair 16 = .ok (.istore_n 2, 1) := dc61 bqX5_takePair_0 16 rfl rfl
theorem dX5_takePair_17 : decode cX5_takePair 17 = .ok (.aload_n 0, 1) := dc42 bqX5_takePair_0 17 rfl rfl
theorem dX5_takePair_18 : decode cX5_takePair 18 = .ok (.getfield 21, 3) := dc180 bqX5_takePair_0 18 rfl rfl rfl
theorem dX5_takePair_21 : decode cX5_takePair 21 = .ok (.iload_n 1, 1) := dc27 bqX5_takePair_0 21 rfl rfl
theorem dX5_takePair_22 : decode cX5_takePair 22 = .ok (.iload_n 2, 1) := dc28 bqX5_takePair_0 22 rfl rfl
theorem bqX5_takePair_23 : hs_bs cX5_takePair 23 [182, 0, 133, 177] := hs_bs_of _ _ _ (by decide +kernel)
theorem dX5_takePair_23 : decode cX5_takePair 23 = .ok (.invokevirtual 133, 3) := dc182 bqX5_takePair_23 0 rfl rfl rfl
theorem dX5_takePair_26 : decode cX5_takePair 26 = .ok (.return_, 1) := dc177 bqX5_takePair_23 3 rfl rfl
set_option maxRecDepth 20000 in
theorem gX5_takeNumber_X5_blameFor : GoodIn wsX5_takeNumber (wsV RX5 111 RX5 yX5_blameFor wsX5_blameFor) := hs_gC (hs_gV (hs_inG 2 121 rfl rfl) (hs_inG 2 123 rfl rfl) (hs_inG 0 5 rfl rfl) (hs_inG 1 3 rfl rfl) inC_X5_blameFor)
set_option maxRecDepth 20000 in
theorem gX5_takeNumber_X7_within_n137 : GoodIn wsX5_takeNumber (wsX7_within) := hs_gC (hs_gT inC_X7_within)
set_option maxRecDepth 20000 in
theorem gX5_takeNumber_X5_blame : GoodIn wsX5_takeNumber (wsV RX5 114 RX5 yX5_blame wsX5_blame) := hs_gC (hs_gV (hs_inG 2 125 rfl rfl) (hs_inG 2 127 rfl rfl) (hs_inG 0 6 rfl rfl) (hs_inG 1 3 rfl rfl) inC_X5_blame)
set_option maxRecDepth 20000 in
theorem gX5_takeNumber_X4_advance : GoodIn wsX5_takeNumber (wsV RX5 59 RX4 yX4_advance wsX4_advance) := hs_gC (hs_gV (hs_inG 2 129 rfl rfl) (hs_inG 2 31 rfl rfl) (hs_inG 2 32 rfl rfl) (hs_inG 1 4 rfl rfl) inC_X4_advance)
theorem bqX5_takeNumber_0 : hs_bs cX5_takeNumber 0 [42, 5, 182, 0, 111, 42, 180, 0, 12, 180, 0, 130, 27, 28, 184, 0, 137, 153, 0, 14, 42, 180, 0, 12] := hs_bs_of _ _ _ (by decide +kernel)
theorem dX5_takeNumber_0 : decode cX5_takeNumber 0 = .ok (.aload_n 0, 1) := dc42 bqX5_takeNumber_0 0 rfl rfl
theorem dX5_takeNumber_1 : decode cX5_takeNumber 1 = .ok (.iconst 2, 1) := dc5 bqX5_takeNumber_0 1 rfl rfl
theorem dX5_takeNumber_2 : decode cX5_takeNumber 2 = .ok (.invokevirtual 111, 3) := dc182 bqX5_takeNumber_0 2 rfl rfl rfl
theorem dX5_takeNumber_5 : decode cX5_takeNumber 5 = .ok (.aload_n 0, 1) := dc42 bqX5_takeNumber_0 5 rfl rfl
theorem dX5_takeNumber_6 : decode cX5_takeNumber 6 = .ok (.getfield 12, 3) := dc180 bqX5_takeNumber_0 6 rfl rfl rfl
theorem dX5_takeNumber_9 : decode cX5_takeNumber 9 = .ok (.getfield 130, 3) := dc180 bqX5_takeNumber_0 9 rfl rfl rfl
theorem dX5_takeNumber_12 : decode cX5_takeNumber 12 = .ok (.iload_n 1, 1) := dc27 bqX5_takeNumber_0 12 rfl rfl
theorem dX5_takeNumber_13 : decode cX5_takeNumber 13 = .ok (.iload_n 2, 1) := dc28 bqX5_takeNumber_0 13 rfl rfl
theorem dX5_takeNumber_14 : decode cX5_takeNumber 14 = .ok (.invokestatic 137, 3) := dc184 bqX5_takeNumber_0 14 rfl rfl rfl
theorem dX5_takeNumber_17 : decode cX5_takeNumber 17 = .ok (.ifCond .eq 14, 3) := dc153 bqX5_takeNumber_0 17 rfl rfl rfl
theorem dX5_takeNumber_20 : decode cX5_takeNumber 20 = .ok (.aload_n 0, 1) := dc42 bqX5_takeNumber_0 20 rfl rfl
theorem dX5_takeNumber_21 : decode cX5_takeNumber 21 = .ok (.getfield 12, 3) := dc180 bqX5_takeNumber_0 21 rfl rfl rfl
theorem bqX5_takeNumber_24 : hs_bs cX5_takeNumber 24 [180, 0, 130, 29, 160, 0, 8, 42, 6, 182, 0, 114, 42, 180, 0, 32, 153, 0, 5, 27, 172, 42] := hs_bs_of _ _ _ (by decide +kernel)
theorem dX5_takeNumber_24 : decode cX5_takeNumber 24 = .ok (.getfield 130, 3) := dc180 bqX5_takeNumber_24 0 rfl rfl rfl
theorem dX5_takeNumber_27 : decode cX5_takeNumber 27 = .ok (.iload_n 3, 1) := dc29 bqX5_takeNumber_24 3 rfl rfl
theorem dX5_takeNumber_28 : decode cX5_takeNumber 28 = .ok (.if_icmp .ne 8, 3) := dc160 bqX5_takeNumber_24 4 rfl rfl rfl
theorem dX5_takeNumber_31 : decode cX5_takeNumber 31 = .ok (.aload_n 0, 1) := dc42 bqX5_takeNumber_24 7 rfl rfl
theorem dX5_takeNumber_32 : decode cX5_takeNumber 32 = .ok (.iconst 3, 1) := dc6 bqX5_takeNumber_24 8 rfl rfl
theorem dX5_takeNumber_33 : decode cX5_takeNumber 33 = .ok (.invokevirtual 114, 3) := dc182 bqX5_takeNumber_24 9 rfl rfl rfl
theorem dX5_takeNumber_36 : decode cX5_takeNumber 36 = .ok (.aload_n 0, 1) := dc42 bqX5_takeNumber_24 12 rfl rfl
theorem dX5_takeNumber_37 : decode cX5_takeNumber 37 = .ok (.getfield 32, 3) := dc180 bqX5_takeNumber_24 13 rfl rfl rfl
theorem dX5_takeNumber_40 : decode cX5_takeNumber 40 = .ok (.ifCond .eq 5, 3) := dc153 bqX5_takeNumber_24 16 rfl rfl rfl
theorem dX5_takeNumber_43 : decode cX5_takeNumber 43 = .ok (.iload_n 1, 1) := dc27 bqX5_takeNumber_24 19 rfl rfl
theorem dX5_takeNumber_44 : decode cX5_takeNumber 44 = .ok (.ireturn, 1) := dc172 bqX5_takeNumber_24 20 rfl rfl
theorem dX5_takeNumber_45 : decode cX5_takeNumber 45 = .ok (.aload_n 0, 1) := dc42 bqX5_takeNumber_24 21 rfl rfl
theorem bqX5_takeNumber_46 : hs_bs cX5_takeNumber 46 [180, 0, 12, 180, 0, 130, 54, 4, 42, 180, 0, 12, 182, 0, 59, 21, 4, 172] := hs_bs_of _ _ _ (by decide +kernel)
theorem dX5_takeNumber_46 : decode cX5_takeNumber 46 = .ok (.getfield 12, 3) := dc180 bqX5_takeNumber_46 0 rfl rfl rfl
theorem dX5_takeNumber_49 : decode cX5_takeNumber 49 = .ok (.getfield 130, 3) := dc180 bqX5_takeNumber_46 3 rfl rfl rfl
theorem dX5_takeNumber_52 : decode cX5_takeNumber 52 = .ok (.istore 4, 2) := dc54 bqX5_takeNumber_46 6 rfl rfl
theorem dX5_takeNumber_54 : decode cX5_takeNumber 54 = .ok (.aload_n 0, 1) := dc42 bqX5_takeNumber_46 8 rfl rfl
theorem dX5_takeNumber_55 : decode cX5_takeNumber 55 = .ok (.getfield 12, 3) := dc180 bqX5_takeNumber_46 9 rfl rfl rfl
theorem dX5_takeNumber_58 : decode cX5_takeNumber 58 = .ok (.invokevirtual 59, 3) := dc182 bqX5_takeNumber_46 12 rfl rfl rfl
theorem dX5_takeNumber_61 : decode cX5_takeNumber 61 = .ok (.iload 4, 2) := dc21 bqX5_takeNumber_46 15 rfl rfl
theorem dX5_takeNumber_63 : decode cX5_takeNumber 63 = .ok (.ireturn, 1) := dc172 bqX5_takeNumber_46 17 rfl rfl
set_option maxRecDepth 20000 in
theorem gX5_takeMark_X5_blameFor : GoodIn wsX5_takeMark (wsV RX5 111 RX5 yX5_blameFor wsX5_blameFor) := hs_gC (hs_gV (hs_inG 2 121 rfl rfl) (hs_inG 2 123 rfl rfl) (hs_inG 0 5 rfl rfl) (hs_inG 1 3 rfl rfl) inC_X5_blameFor)
set_option maxRecDepth 20000 in
theorem gX5_takeMark_X4_advance : GoodIn wsX5_takeMark (wsV RX5 59 RX4 yX4_advance wsX4_advance) := hs_gC (hs_gV (hs_inG 2 129 rfl rfl) (hs_inG 2 31 rfl rfl) (hs_inG 2 32 rfl rfl) (hs_inG 1 4 rfl rfl) inC_X4_advance)
theorem bqX5_takeMark_0 : hs_bs cX5_takeMark 0 [42, 6, 182, 0, 111, 42, 180, 0, 32, 154, 0, 10, 42, 180, 0, 12, 182, 0, 59, 177] := hs_bs_of _ _ _ (by decide +kernel)
theorem dX5_takeMark_0 : decode cX5_takeMark 0 = .ok (.aload_n 0, 1) := dc42 bqX5_takeMark_0 0 rfl rfl
theorem dX5_takeMark_1 : decode cX5_takeMark 1 = .ok (.iconst 3, 1) := dc6 bqX5_takeMark_0 1 rfl rfl
theorem dX5_takeMark_2 : decode cX5_takeMark 2 = .ok (.invokevirtual 111, 3) := dc182 bqX5_takeMark_0 2 rfl rfl rfl
theorem dX5_takeMark_5 : decode cX5_takeMark 5 = .ok (.aload_n 0, 1) := dc42 bqX5_takeMark_0 5 rfl rfl
theorem dX5_takeMark_6 : decode cX5_takeMark 6 = .ok (.getfield 32, 3) := dc180 bqX5_takeMark_0 6 rfl rfl rfl
theorem dX5_takeMark_9 : decode cX5_takeMark 9 = .ok (.ifCond .ne 10, 3) := dc154 bqX5_takeMark_0 9 rfl rfl rfl
theorem dX5_takeMark_12 : decode cX5_takeMark 12 = .ok (.aload_n 0, 1) := dc42 bqX5_takeMark_0 12 rfl rfl
theorem dX5_takeMark_13 : decode cX5_takeMark 13 = .ok (.getfield 12, 3) := dc180 bqX5_takeMark_0 13 rfl rfl rfl
theorem dX5_takeMark_16 : decode cX5_takeMark 16 = .ok (.invokevirtual 59, 3) := dc182 bqX5_takeMark_0 16 rfl rfl rfl
theorem dX5_takeMark_19 : decode cX5_takeMark 19 = .ok (.return_, 1) := dc177 bqX5_takeMark_0 19 rfl rfl
set_option maxRecDepth 20000 in
theorem gX5_checkCase_X6_isHalf : GoodIn wsX5_checkCase (wsV RX5 144 RX6 yX6_isHalf wsX6_isHalf) := hs_gC (hs_gV (hs_inG 2 159 rfl rfl) (hs_inG 2 160 rfl rfl) (hs_inG 2 161 rfl rfl) (hs_inG 1 2 rfl rfl) inC_X6_isHalf)
set_option maxRecDepth 20000 in
theorem gX5_checkCase_X5_blame : GoodIn wsX5_checkCase (wsV RX5 114 RX5 yX5_blame wsX5_blame) := hs_gC (hs_gV (hs_inG 2 125 rfl rfl) (hs_inG 2 127 rfl rfl) (hs_inG 0 6 rfl rfl) (hs_inG 1 3 rfl rfl) inC_X5_blame)
set_option maxRecDepth 20000 in
theorem gX5_checkCase_X2_learn : GoodIn wsX5_checkCase (wsV RX5 151 RX2 yX2_learn wsX2_learn) := hs_gC (hs_gV (hs_inG 2 164 rfl rfl) (hs_inG 2 165 rfl rfl) (hs_inG 2 166 rfl rfl) (hs_inG 1 5 rfl rfl) inC_X2_learn)
set_option maxRecDepth 20000 in
theorem gX5_checkCase_X2_howMany : GoodIn wsX5_checkCase (wsV RX5 157 RX2 yX2_howMany wsX2_howMany) := hs_gC (hs_gV (hs_inG 2 168 rfl rfl) (hs_inG 2 169 rfl rfl) (hs_inG 2 170 rfl rfl) (hs_inG 1 5 rfl rfl) inC_X2_howMany)
theorem bqX5_checkCase_0 : hs_bs cX5_checkCase 0 [3, 61, 28, 42, 180, 0, 21, 180, 0, 117, 162, 0, 53, 42, 180, 0, 21, 42, 180, 0, 21, 180, 0, 141] := hs_bs_of _ _ _ (by decide +kernel)
theorem dX5_checkCase_0 : decode cX5_checkCase 0 = .ok (.iconst 0, 1) := dc3 bqX5_checkCase_0 0 rfl rfl
theorem dX5_checkCase_1 : decode cX5_checkCase 1 = .ok (.istore_n 2, 1) := dc61 bqX5_checkCase_0 1 rfl rfl
theorem dX5_checkCase_2 : decode cX5_checkCase 2 = .ok (.iload_n 2, 1) := dc28 bqX5_checkCase_0 2 rfl rfl
theorem dX5_checkCase_3 : decode cX5_checkCase 3 = .ok (.aload_n 0, 1) := dc42 bqX5_checkCase_0 3 rfl rfl
theorem dX5_checkCase_4 : decode cX5_checkCase 4 = .ok (.getfield 21, 3) := dc180 bqX5_checkCase_0 4 rfl rfl rfl
theorem dX5_checkCase_7 : decode cX5_checkCase 7 = .ok (.getfield 117, 3) := dc180 bqX5_checkCase_0 7 rfl rfl rfl
theorem dX5_checkCase_10 : decode cX5_checkCase 10 = .ok (.if_icmp .ge 53, 3) := dc162 bqX5_checkCase_0 10 rfl rfl rfl
theorem dX5_checkCase_13 : decode cX5_checkCase 13 = .ok (.aload_n 0, 1) := dc42 bqX5_checkCase_0 13 rfl rfl
theorem dX5_checkCase_14 : decode cX5_checkCase 14 = .ok (.getfield 21, 3) := dc180 bqX5_checkCase_0 14 rfl rfl rfl
theorem dX5_checkCase_17 : decode cX5_checkCase 17 = .ok (.aload_n 0, 1) := dc42 bqX5_checkCase_0 17 rfl rfl
theorem dX5_checkCase_18 : decode cX5_checkCase 18 = .ok (.getfield 21, 3) := dc180 bqX5_checkCase_0 18 rfl rfl rfl
theorem dX5_checkCase_21 : decode cX5_checkCase 21 = .ok (.getfield 141, 3) := dc180 bqX5_checkCase_0 21 rfl rfl rfl
theorem bqX5_checkCase_24 : hs_bs cX5_checkCase 24 [28, 46, 182, 0, 144, 153, 0, 22, 42, 180, 0, 21, 42, 180, 0, 21, 180, 0, 148, 28, 46, 182, 0, 144] := hs_bs_of _ _ _ (by decide +kernel)
theorem dX5_checkCase_24 : decode cX5_checkCase 24 = .ok (.iload_n 2, 1) := dc28 bqX5_checkCase_24 0 rfl rfl
theorem dX5_checkCase_25 : decode cX5_checkCase 25 = .ok (.iaload, 1) := dc46 bqX5_checkCase_24 1 rfl rfl
theorem dX5_checkCase_26 : decode cX5_checkCase 26 = .ok (.invokevirtual 144, 3) := dc182 bqX5_checkCase_24 2 rfl rfl rfl
theorem dX5_checkCase_29 : decode cX5_checkCase 29 = .ok (.ifCond .eq 22, 3) := dc153 bqX5_checkCase_24 5 rfl rfl rfl
theorem dX5_checkCase_32 : decode cX5_checkCase 32 = .ok (.aload_n 0, 1) := dc42 bqX5_checkCase_24 8 rfl rfl
theorem dX5_checkCase_33 : decode cX5_checkCase 33 = .ok (.getfield 21, 3) := dc180 bqX5_checkCase_24 9 rfl rfl rfl
theorem dX5_checkCase_36 : decode cX5_checkCase 36 = .ok (.aload_n 0, 1) := dc42 bqX5_checkCase_24 12 rfl rfl
theorem dX5_checkCase_37 : decode cX5_checkCase 37 = .ok (.getfield 21, 3) := dc180 bqX5_checkCase_24 13 rfl rfl rfl
theorem dX5_checkCase_40 : decode cX5_checkCase 40 = .ok (.getfield 148, 3) := dc180 bqX5_checkCase_24 16 rfl rfl rfl
theorem dX5_checkCase_43 : decode cX5_checkCase 43 = .ok (.iload_n 2, 1) := dc28 bqX5_checkCase_24 19 rfl rfl
theorem dX5_checkCase_44 : decode cX5_checkCase 44 = .ok (.iaload, 1) := dc46 bqX5_checkCase_24 20 rfl rfl
theorem dX5_checkCase_45 : decode cX5_checkCase 45 = .ok (.invokevirtual 144, 3) := dc182 bqX5_checkCase_24 21 rfl rfl rfl
theorem bqX5_checkCase_48 : hs_bs cX5_checkCase 48 [154, 0, 9, 42, 16, 6, 182, 0, 114, 132, 2, 1, 167, 255, 198, 43, 42, 180, 0, 21, 182, 0, 151, 43] := hs_bs_of _ _ _ (by decide +kernel)
theorem dX5_checkCase_48 : decode cX5_checkCase 48 = .ok (.ifCond .ne 9, 3) := dc154 bqX5_checkCase_48 0 rfl rfl rfl
theorem dX5_checkCase_51 : decode cX5_checkCase 51 = .ok (.aload_n 0, 1) := dc42 bqX5_checkCase_48 3 rfl rfl
theorem dX5_checkCase_52 : decode cX5_checkCase 52 = .ok (.bipush 6, 2) := dc16 bqX5_checkCase_48 4 rfl rfl rfl
theorem dX5_checkCase_54 : decode cX5_checkCase 54 = .ok (.invokevirtual 114, 3) := dc182 bqX5_checkCase_48 6 rfl rfl rfl
theorem dX5_checkCase_57 : decode cX5_checkCase 57 = .ok (.iinc 2 1, 3) := dc132 bqX5_checkCase_48 9 rfl rfl rfl
theorem dX5_checkCase_60 : decode cX5_checkCase 60 = .ok (.goto (-58), 3) := dc167 bqX5_checkCase_48 12 rfl rfl rfl
theorem dX5_checkCase_63 : decode cX5_checkCase 63 = .ok (.aload_n 1, 1) := dc43 bqX5_checkCase_48 15 rfl rfl
theorem dX5_checkCase_64 : decode cX5_checkCase 64 = .ok (.aload_n 0, 1) := dc42 bqX5_checkCase_48 16 rfl rfl
theorem dX5_checkCase_65 : decode cX5_checkCase 65 = .ok (.getfield 21, 3) := dc180 bqX5_checkCase_48 17 rfl rfl rfl
theorem dX5_checkCase_68 : decode cX5_checkCase 68 = .ok (.invokevirtual 151, 3) := dc182 bqX5_checkCase_48 20 rfl rfl rfl
theorem dX5_checkCase_71 : decode cX5_checkCase 71 = .ok (.aload_n 1, 1) := dc43 bqX5_checkCase_48 23 rfl rfl
theorem bqX5_checkCase_72 : hs_bs cX5_checkCase 72 [182, 0, 157, 154, 0, 9, 42, 16, 7, 182, 0, 114, 177] := hs_bs_of _ _ _ (by decide +kernel)
theorem dX5_checkCase_72 : decode cX5_checkCase 72 = .ok (.invokevirtual 157, 3) := dc182 bqX5_checkCase_72 0 rfl rfl rfl
theorem dX5_checkCase_75 : decode cX5_checkCase 75 = .ok (.ifCond .ne 9, 3) := dc154 bqX5_checkCase_72 3 rfl rfl rfl
theorem dX5_checkCase_78 : decode cX5_checkCase 78 = .ok (.aload_n 0, 1) := dc42 bqX5_checkCase_72 6 rfl rfl
theorem dX5_checkCase_79 : decode cX5_checkCase 79 = .ok (.bipush 7, 2) := dc16 bqX5_checkCase_72 7 rfl rfl rfl
theorem dX5_checkCase_81 : decode cX5_checkCase 81 = .ok (.invokevirtual 114, 3) := dc182 bqX5_checkCase_72 9 rfl rfl rfl
theorem dX5_checkCase_84 : decode cX5_checkCase 84 = .ok (.return_, 1) := dc177 bqX5_checkCase_72 12 rfl rfl
set_option maxRecDepth 20000 in
theorem gX5_blameFor_X5_blame : GoodIn wsX5_blameFor (wsV RX5 114 RX5 yX5_blame wsX5_blame) := hs_gC (hs_gV (hs_inG 2 125 rfl rfl) (hs_inG 2 127 rfl rfl) (hs_inG 0 6 rfl rfl) (hs_inG 1 3 rfl rfl) inC_X5_blame)
theorem bqX5_blameFor_0 : hs_bs cX5_blameFor 0 [42, 180, 0, 12, 180, 0, 41, 7, 160, 0, 11, 42, 4, 182, 0, 114, 167, 0, 19, 42, 180, 0, 12] := hs_bs_of _ _ _ (by decide +kernel)
theorem dX5_blameFor_0 : decode cX5_blameFor 0 = .ok (.aload_n 0, 1) := dc42 bqX5_blameFor_0 0 rfl rfl
theorem dX5_blameFor_1 : decode cX5_blameFor 1 = .ok (.getfield 12, 3) := dc180 bqX5_blameFor_0 1 rfl rfl rfl
theorem dX5_blameFor_4 : decode cX5_blameFor 4 = .ok (.getfield 41, 3) := dc180 bqX5_blameFor_0 4 rfl rfl rfl
theorem dX5_blameFor_7 : decode cX5_blameFor 7 = .ok (.iconst 4, 1) := dc7 bqX5_blameFor_0 7 rfl rfl
theorem dX5_blameFor_8 : decode cX5_blameFor 8 = .ok (.if_icmp .ne 11, 3) := dc160 bqX5_blameFor_0 8 rfl rfl rfl
theorem dX5_blameFor_11 : decode cX5_blameFor 11 = .ok (.aload_n 0, 1) := dc42 bqX5_blameFor_0 11 rfl rfl
theorem dX5_blameFor_12 : decode cX5_blameFor 12 = .ok (.iconst 1, 1) := dc4 bqX5_blameFor_0 12 rfl rfl
theorem dX5_blameFor_13 : decode cX5_blameFor 13 = .ok (.invokevirtual 114, 3) := dc182 bqX5_blameFor_0 13 rfl rfl rfl
theorem dX5_blameFor_16 : decode cX5_blameFor 16 = .ok (.goto 19, 3) := dc167 bqX5_blameFor_0 16 rfl rfl rfl
theorem dX5_blameFor_19 : decode cX5_blameFor 19 = .ok (.aload_n 0, 1) := dc42 bqX5_blameFor_0 19 rfl rfl
theorem dX5_blameFor_20 : decode cX5_blameFor 20 = .ok (.getfield 12, 3) := dc180 bqX5_blameFor_0 20 rfl rfl rfl
theorem bqX5_blameFor_23 : hs_bs cX5_blameFor 23 [180, 0, 41, 27, 159, 0, 8, 42, 5, 182, 0, 114, 177] := hs_bs_of _ _ _ (by decide +kernel)
theorem dX5_blameFor_23 : decode cX5_blameFor 23 = .ok (.getfield 41, 3) := dc180 bqX5_blameFor_23 0 rfl rfl rfl
theorem dX5_blameFor_26 : decode cX5_blameFor 26 = .ok (.iload_n 1, 1) := dc27 bqX5_blameFor_23 3 rfl rfl
theorem dX5_blameFor_27 : decode cX5_blameFor 27 = .ok (.if_icmp .eq 8, 3) := dc159 bqX5_blameFor_23 4 rfl rfl rfl
theorem dX5_blameFor_30 : decode cX5_blameFor 30 = .ok (.aload_n 0, 1) := dc42 bqX5_blameFor_23 7 rfl rfl
theorem dX5_blameFor_31 : decode cX5_blameFor 31 = .ok (.iconst 2, 1) := dc5 bqX5_blameFor_23 8 rfl rfl
theorem dX5_blameFor_32 : decode cX5_blameFor 32 = .ok (.invokevirtual 114, 3) := dc182 bqX5_blameFor_23 9 rfl rfl rfl
theorem dX5_blameFor_35 : decode cX5_blameFor 35 = .ok (.return_, 1) := dc177 bqX5_blameFor_23 12 rfl rfl
theorem bqX5_blame_0 : hs_bs cX5_blame 0 [42, 180, 0, 32, 154, 0, 19, 42, 27, 181, 0, 32, 42, 42, 180, 0, 12, 180, 0, 160, 181, 0, 35, 177] := hs_bs_of _ _ _ (by decide +kernel)
theorem dX5_blame_0 : decode cX5_blame 0 = .ok (.aload_n 0, 1) := dc42 bqX5_blame_0 0 rfl rfl
theorem dX5_blame_1 : decode cX5_blame 1 = .ok (.getfield 32, 3) := dc180 bqX5_blame_0 1 rfl rfl rfl
theorem dX5_blame_4 : decode cX5_blame 4 = .ok (.ifCond .ne 19, 3) := dc154 bqX5_blame_0 4 rfl rfl rfl
theorem dX5_blame_7 : decode cX5_blame 7 = .ok (.aload_n 0, 1) := dc42 bqX5_blame_0 7 rfl rfl
theorem dX5_blame_8 : decode cX5_blame 8 = .ok (.iload_n 1, 1) := dc27 bqX5_blame_0 8 rfl rfl
theorem dX5_blame_9 : decode cX5_blame 9 = .ok (.putfield 32, 3) := dc181 bqX5_blame_0 9 rfl rfl rfl
theorem dX5_blame_12 : decode cX5_blame 12 = .ok (.aload_n 0, 1) := dc42 bqX5_blame_0 12 rfl rfl
theorem dX5_blame_13 : decode cX5_blame 13 = .ok (.aload_n 0, 1) := dc42 bqX5_blame_0 13 rfl rfl
theorem dX5_blame_14 : decode cX5_blame 14 = .ok (.getfield 12, 3) := dc180 bqX5_blame_0 14 rfl rfl rfl
theorem dX5_blame_17 : decode cX5_blame 17 = .ok (.getfield 160, 3) := dc180 bqX5_blame_0 17 rfl rfl rfl
theorem dX5_blame_20 : decode cX5_blame 20 = .ok (.putfield 35, 3) := dc181 bqX5_blame_0 20 rfl rfl rfl
theorem dX5_blame_23 : decode cX5_blame 23 = .ok (.return_, 1) := dc177 bqX5_blame_0 23 rfl rfl
set_option maxRecDepth 20000 in
theorem gX6_init_X6_begin : GoodIn wsX6_init (wsV RX6 33 RX6 yX6_begin wsX6_begin) := hs_gC (hs_gV (hs_inG 1 31 rfl rfl) (hs_inG 1 32 rfl rfl) (hs_inG 1 33 rfl rfl) (hs_inG 1 2 rfl rfl) inC_X6_begin)
theorem bqX6_init_0 : hs_bs cX6_init 0 [42, 183, 0, 3, 42, 16, 8, 188, 10, 181, 0, 9, 42, 7, 188, 10, 181, 0, 15, 42, 16, 8, 188, 10] := hs_bs_of _ _ _ (by decide +kernel)
theorem dX6_init_0 : decode cX6_init 0 = .ok (.aload_n 0, 1) := dc42 bqX6_init_0 0 rfl rfl
theorem dX6_init_1 : decode cX6_init 1 = .ok (.invokespecial 3, 3) := dc183 bqX6_init_0 1 rfl rfl rfl
theorem dX6_init_4 : decode cX6_init 4 = .ok (.aload_n 0, 1) := dc42 bqX6_init_0 4 rfl rfl
theorem dX6_init_5 : decode cX6_init 5 = .ok (.bipush 8, 2) := dc16 bqX6_init_0 5 rfl rfl rfl
theorem dX6_init_7 : decode cX6_init 7 = .ok (.newarray .int, 2) := by decide +kernel
theorem dX6_init_9 : decode cX6_init 9 = .ok (.putfield 9, 3) := dc181 bqX6_init_0 9 rfl rfl rfl
theorem dX6_init_12 : decode cX6_init 12 = .ok (.aload_n 0, 1) := dc42 bqX6_init_0 12 rfl rfl
theorem dX6_init_13 : decode cX6_init 13 = .ok (.iconst 4, 1) := dc7 bqX6_init_0 13 rfl rfl
theorem dX6_init_14 : decode cX6_init 14 = .ok (.newarray .int, 2) := by decide +kernel
theorem dX6_init_16 : decode cX6_init 16 = .ok (.putfield 15, 3) := dc181 bqX6_init_0 16 rfl rfl rfl
theorem dX6_init_19 : decode cX6_init 19 = .ok (.aload_n 0, 1) := dc42 bqX6_init_0 19 rfl rfl
theorem dX6_init_20 : decode cX6_init 20 = .ok (.bipush 8, 2) := dc16 bqX6_init_0 20 rfl rfl rfl
theorem dX6_init_22 : decode cX6_init 22 = .ok (.newarray .int, 2) := by decide +kernel
theorem bqX6_init_24 : hs_bs cX6_init 24 [181, 0, 18, 42, 16, 8, 188, 10, 181, 0, 21, 42, 16, 6, 188, 10, 181, 0, 24, 42, 16, 6, 188, 10] := hs_bs_of _ _ _ (by decide +kernel)
theorem dX6_init_24 : decode cX6_init 24 = .ok (.putfield 18, 3) := dc181 bqX6_init_24 0 rfl rfl rfl
theorem dX6_init_27 : decode cX6_init 27 = .ok (.aload_n 0, 1) := dc42 bqX6_init_24 3 rfl rfl
theorem dX6_init_28 : decode cX6_init 28 = .ok (.bipush 8, 2) := dc16 bqX6_init_24 4 rfl rfl rfl
theorem dX6_init_30 : decode cX6_init 30 = .ok (.newarray .int, 2) := by decide +kernel
theorem dX6_init_32 : decode cX6_init 32 = .ok (.putfield 21, 3) := dc181 bqX6_init_24 8 rfl rfl rfl
theorem dX6_init_35 : decode cX6_init 35 = .ok (.aload_n 0, 1) := dc42 bqX6_init_24 11 rfl rfl
theorem dX6_init_36 : decode cX6_init 36 = .ok (.bipush 6, 2) := dc16 bqX6_init_24 12 rfl rfl rfl
theorem dX6_init_38 : decode cX6_init 38 = .ok (.newarray .int, 2) := by decide +kernel
theorem dX6_init_40 : decode cX6_init 40 = .ok (.putfield 24, 3) := dc181 bqX6_init_24 16 rfl rfl rfl
theorem dX6_init_43 : decode cX6_init 43 = .ok (.aload_n 0, 1) := dc42 bqX6_init_24 19 rfl rfl
theorem dX6_init_44 : decode cX6_init 44 = .ok (.bipush 6, 2) := dc16 bqX6_init_24 20 rfl rfl rfl
theorem dX6_init_46 : decode cX6_init 46 = .ok (.newarray .int, 2) := by decide +kernel
theorem bqX6_init_48 : hs_bs cX6_init 48 [181, 0, 27, 42, 16, 6, 188, 10, 181, 0, 30, 42, 182, 0, 33, 177] := hs_bs_of _ _ _ (by decide +kernel)
theorem dX6_init_48 : decode cX6_init 48 = .ok (.putfield 27, 3) := dc181 bqX6_init_48 0 rfl rfl rfl
theorem dX6_init_51 : decode cX6_init 51 = .ok (.aload_n 0, 1) := dc42 bqX6_init_48 3 rfl rfl
theorem dX6_init_52 : decode cX6_init 52 = .ok (.bipush 6, 2) := dc16 bqX6_init_48 4 rfl rfl rfl
theorem dX6_init_54 : decode cX6_init 54 = .ok (.newarray .int, 2) := by decide +kernel
theorem dX6_init_56 : decode cX6_init 56 = .ok (.putfield 30, 3) := dc181 bqX6_init_48 8 rfl rfl rfl
theorem dX6_init_59 : decode cX6_init 59 = .ok (.aload_n 0, 1) := dc42 bqX6_init_48 11 rfl rfl
theorem dX6_init_60 : decode cX6_init 60 = .ok (.invokevirtual 33, 3) := dc182 bqX6_init_48 12 rfl rfl rfl
theorem dX6_init_63 : decode cX6_init 63 = .ok (.return_, 1) := dc177 bqX6_init_48 15 rfl rfl
theorem bqX6_begin_0 : hs_bs cX6_begin 0 [42, 180, 0, 9, 3, 4, 79, 42, 180, 0, 9, 4, 4, 79, 42, 5, 181, 0, 36, 42, 3, 181, 0, 40] := hs_bs_of _ _ _ (by decide +kernel)
theorem dX6_begin_0 : decode cX6_begin 0 = .ok (.aload_n 0, 1) := dc42 bqX6_begin_0 0 rfl rfl
theorem dX6_begin_1 : decode cX6_begin 1 = .ok (.getfield 9, 3) := dc180 bqX6_begin_0 1 rfl rfl rfl
theorem dX6_begin_4 : decode cX6_begin 4 = .ok (.iconst 0, 1) := dc3 bqX6_begin_0 4 rfl rfl
theorem dX6_begin_5 : decode cX6_begin 5 = .ok (.iconst 1, 1) := dc4 bqX6_begin_0 5 rfl rfl
theorem dX6_begin_6 : decode cX6_begin 6 = .ok (.iastore, 1) := dc79 bqX6_begin_0 6 rfl rfl
theorem dX6_begin_7 : decode cX6_begin 7 = .ok (.aload_n 0, 1) := dc42 bqX6_begin_0 7 rfl rfl
theorem dX6_begin_8 : decode cX6_begin 8 = .ok (.getfield 9, 3) := dc180 bqX6_begin_0 8 rfl rfl rfl
theorem dX6_begin_11 : decode cX6_begin 11 = .ok (.iconst 1, 1) := dc4 bqX6_begin_0 11 rfl rfl
theorem dX6_begin_12 : decode cX6_begin 12 = .ok (.iconst 1, 1) := dc4 bqX6_begin_0 12 rfl rfl
theorem dX6_begin_13 : decode cX6_begin 13 = .ok (.iastore, 1) := dc79 bqX6_begin_0 13 rfl rfl
theorem dX6_begin_14 : decode cX6_begin 14 = .ok (.aload_n 0, 1) := dc42 bqX6_begin_0 14 rfl rfl
theorem dX6_begin_15 : decode cX6_begin 15 = .ok (.iconst 2, 1) := dc5 bqX6_begin_0 15 rfl rfl
theorem dX6_begin_16 : decode cX6_begin 16 = .ok (.putfield 36, 3) := dc181 bqX6_begin_0 16 rfl rfl rfl
theorem dX6_begin_19 : decode cX6_begin 19 = .ok (.aload_n 0, 1) := dc42 bqX6_begin_0 19 rfl rfl
theorem dX6_begin_20 : decode cX6_begin 20 = .ok (.iconst 0, 1) := dc3 bqX6_begin_0 20 rfl rfl
theorem dX6_begin_21 : decode cX6_begin 21 = .ok (.putfield 40, 3) := dc181 bqX6_begin_0 21 rfl rfl rfl
theorem bqX6_begin_24 : hs_bs cX6_begin 24 [42, 3, 181, 0, 43, 42, 3, 181, 0, 46, 42, 3, 181, 0, 49, 42, 5, 181, 0, 52, 42, 3] := hs_bs_of _ _ _ (by decide +kernel)
theorem dX6_begin_24 : decode cX6_begin 24 = .ok (.aload_n 0, 1) := dc42 bqX6_begin_24 0 rfl rfl
theorem dX6_begin_25 : decode cX6_begin 25 = .ok (.iconst 0, 1) := dc3 bqX6_begin_24 1 rfl rfl
theorem dX6_begin_26 : decode cX6_begin 26 = .ok (.putfield 43, 3) := dc181 bqX6_begin_24 2 rfl rfl rfl
theorem dX6_begin_29 : decode cX6_begin 29 = .ok (.aload_n 0, 1) := dc42 bqX6_begin_24 5 rfl rfl
theorem dX6_begin_30 : decode cX6_begin 30 = .ok (.iconst 0, 1) := dc3 bqX6_begin_24 6 rfl rfl
theorem dX6_begin_31 : decode cX6_begin 31 = .ok (.putfield 46, 3) := dc181 bqX6_begin_24 7 rfl rfl rfl
theorem dX6_begin_34 : decode cX6_begin 34 = .ok (.aload_n 0, 1) := dc42 bqX6_begin_24 10 rfl rfl
theorem dX6_begin_35 : decode cX6_begin 35 = .ok (.iconst 0, 1) := dc3 bqX6_begin_24 11 rfl rfl
theorem dX6_begin_36 : decode cX6_begin 36 = .ok (.putfield 49, 3) := dc181 bqX6_begin_24 12 rfl rfl rfl
theorem dX6_begin_39 : decode cX6_begin 39 = .ok (.aload_n 0, 1) := dc42 bqX6_begin_24 15 rfl rfl
theorem dX6_begin_40 : decode cX6_begin 40 = .ok (.iconst 2, 1) := dc5 bqX6_begin_24 16 rfl rfl
theorem dX6_begin_41 : decode cX6_begin 41 = .ok (.putfield 52, 3) := dc181 bqX6_begin_24 17 rfl rfl rfl
theorem dX6_begin_44 : decode cX6_begin 44 = .ok (.aload_n 0, 1) := dc42 bqX6_begin_24 20 rfl rfl
theorem dX6_begin_45 : decode cX6_begin 45 = .ok (.iconst 0, 1) := dc3 bqX6_begin_24 21 rfl rfl
theorem bqX6_begin_46 : hs_bs cX6_begin 46 [181, 0, 55, 42, 3, 181, 0, 58, 177] := hs_bs_of _ _ _ (by decide +kernel)
theorem dX6_begin_46 : decode cX6_begin 46 = .ok (.putfield 55, 3) := dc181 bqX6_begin_46 0 rfl rfl rfl
theorem dX6_begin_49 : decode cX6_begin 49 = .ok (.aload_n 0, 1) := dc42 bqX6_begin_46 3 rfl rfl
theorem dX6_begin_50 : decode cX6_begin 50 = .ok (.iconst 0, 1) := dc3 bqX6_begin_46 4 rfl rfl
theorem dX6_begin_51 : decode cX6_begin 51 = .ok (.putfield 58, 3) := dc181 bqX6_begin_46 5 rfl rfl rfl
theorem dX6_begin_54 : decode cX6_begin 54 = .ok (.return_, 1) := dc177 bqX6_begin_46 8 rfl rfl
theorem bqX6_copyFrom_0 : hs_bs cX6_copyFrom 0 [43, 180, 0, 9, 3, 42, 180, 0, 9, 3, 16, 8, 184, 0, 61, 43, 180, 0, 15, 3, 42, 180, 0, 15] := hs_bs_of _ _ _ (by decide +kernel)
theorem dX6_copyFrom_0 : decode cX6_copyFrom 0 = .ok (.aload_n 1, 1) := dc43 bqX6_copyFrom_0 0 rfl rfl
theorem dX6_copyFrom_1 : decode cX6_copyFrom 1 = .ok (.getfield 9, 3) := dc180 bqX6_copyFrom_0 1 rfl rfl rfl
theorem dX6_copyFrom_4 : decode cX6_copyFrom 4 = .ok (.iconst 0, 1) := dc3 bqX6_copyFrom_0 4 rfl rfl
theorem dX6_copyFrom_5 : decode cX6_copyFrom 5 = .ok (.aload_n 0, 1) := dc42 bqX6_copyFrom_0 5 rfl rfl
theorem dX6_copyFrom_6 : decode cX6_copyFrom 6 = .ok (.getfield 9, 3) := dc180 bqX6_copyFrom_0 6 rfl rfl rfl
theorem dX6_copyFrom_9 : decode cX6_copyFrom 9 = .ok (.iconst 0, 1) := dc3 bqX6_copyFrom_0 9 rfl rfl
theorem dX6_copyFrom_10 : decode cX6_copyFrom 10 = .ok (.bipush 8, 2) := dc16 bqX6_copyFrom_0 10 rfl rfl rfl
theorem dX6_copyFrom_12 : decode cX6_copyFrom 12 = .ok (.invokestatic 61, 3) := dc184 bqX6_copyFrom_0 12 rfl rfl rfl
theorem dX6_copyFrom_15 : decode cX6_copyFrom 15 = .ok (.aload_n 1, 1) := dc43 bqX6_copyFrom_0 15 rfl rfl
theorem dX6_copyFrom_16 : decode cX6_copyFrom 16 = .ok (.getfield 15, 3) := dc180 bqX6_copyFrom_0 16 rfl rfl rfl
theorem dX6_copyFrom_19 : decode cX6_copyFrom 19 = .ok (.iconst 0, 1) := dc3 bqX6_copyFrom_0 19 rfl rfl
theorem dX6_copyFrom_20 : decode cX6_copyFrom 20 = .ok (.aload_n 0, 1) := dc42 bqX6_copyFrom_0 20 rfl rfl
theorem dX6_copyFrom_21 : decode cX6_copyFrom 21 = .ok (.getfield 15, 3) := dc180 bqX6_copyFrom_0 21 rfl rfl rfl
theorem bqX6_copyFrom_24 : hs_bs cX6_copyFrom 24 [3, 7, 184, 0, 61, 43, 180, 0, 18, 3, 42, 180, 0, 18, 3, 16, 8, 184, 0, 61, 43, 180, 0, 21] := hs_bs_of _ _ _ (by decide +kernel)
theorem dX6_copyFrom_24 : decode cX6_copyFrom 24 = .ok (.iconst 0, 1) := dc3 bqX6_copyFrom_24 0 rfl rfl
theorem dX6_copyFrom_25 : decode cX6_copyFrom 25 = .ok (.iconst 4, 1) := dc7 bqX6_copyFrom_24 1 rfl rfl
theorem dX6_copyFrom_26 : decode cX6_copyFrom 26 = .ok (.invokestatic 61, 3) := dc184 bqX6_copyFrom_24 2 rfl rfl rfl
theorem dX6_copyFrom_29 : decode cX6_copyFrom 29 = .ok (.aload_n 1, 1) := dc43 bqX6_copyFrom_24 5 rfl rfl
theorem dX6_copyFrom_30 : decode cX6_copyFrom 30 = .ok (.getfield 18, 3) := dc180 bqX6_copyFrom_24 6 rfl rfl rfl
theorem dX6_copyFrom_33 : decode cX6_copyFrom 33 = .ok (.iconst 0, 1) := dc3 bqX6_copyFrom_24 9 rfl rfl
theorem dX6_copyFrom_34 : decode cX6_copyFrom 34 = .ok (.aload_n 0, 1) := dc42 bqX6_copyFrom_24 10 rfl rfl
theorem dX6_copyFrom_35 : decode cX6_copyFrom 35 = .ok (.getfield 18, 3) := dc180 bqX6_copyFrom_24 11 rfl rfl rfl
theorem dX6_copyFrom_38 : decode cX6_copyFrom 38 = .ok (.iconst 0, 1) := dc3 bqX6_copyFrom_24 14 rfl rfl
theorem dX6_copyFrom_39 : decode cX6_copyFrom 39 = .ok (.bipush 8, 2) := dc16 bqX6_copyFrom_24 15 rfl rfl rfl
theorem dX6_copyFrom_41 : decode cX6_copyFrom 41 = .ok (.invokestatic 61, 3) := dc184 bqX6_copyFrom_24 17 rfl rfl rfl
theorem dX6_copyFrom_44 : decode cX6_copyFrom 44 = .ok (.aload_n 1, 1) := dc43 bqX6_copyFrom_24 20 rfl rfl
theorem dX6_copyFrom_45 : decode cX6_copyFrom 45 = .ok (.getfield 21, 3) := dc180 bqX6_copyFrom_24 21 rfl rfl rfl
theorem bqX6_copyFrom_48 : hs_bs cX6_copyFrom 48 [3, 42, 180, 0, 21, 3, 16, 8, 184, 0, 61, 43, 180, 0, 24, 3, 42, 180, 0, 24, 3, 16, 6] := hs_bs_of _ _ _ (by decide +kernel)
theorem dX6_copyFrom_48 : decode cX6_copyFrom 48 = .ok (.iconst 0, 1) := dc3 bqX6_copyFrom_48 0 rfl rfl
theorem dX6_copyFrom_49 : decode cX6_copyFrom 49 = .ok (.aload_n 0, 1) := dc42 bqX6_copyFrom_48 1 rfl rfl
theorem dX6_copyFrom_50 : decode cX6_copyFrom 50 = .ok (.getfield 21, 3) := dc180 bqX6_copyFrom_48 2 rfl rfl rfl
theorem dX6_copyFrom_53 : decode cX6_copyFrom 53 = .ok (.iconst 0, 1) := dc3 bqX6_copyFrom_48 5 rfl rfl
theorem dX6_copyFrom_54 : decode cX6_copyFrom 54 = .ok (.bipush 8, 2) := dc16 bqX6_copyFrom_48 6 rfl rfl rfl
theorem dX6_copyFrom_56 : decode cX6_copyFrom 56 = .ok (.invokestatic 61, 3) := dc184 bqX6_copyFrom_48 8 rfl rfl rfl
theorem dX6_copyFrom_59 : decode cX6_copyFrom 59 = .ok (.aload_n 1, 1) := dc43 bqX6_copyFrom_48 11 rfl rfl
theorem dX6_copyFrom_60 : decode cX6_copyFrom 60 = .ok (.getfield 24, 3) := dc180 bqX6_copyFrom_48 12 rfl rfl rfl
theorem dX6_copyFrom_63 : decode cX6_copyFrom 63 = .ok (.iconst 0, 1) := dc3 bqX6_copyFrom_48 15 rfl rfl
theorem dX6_copyFrom_64 : decode cX6_copyFrom 64 = .ok (.aload_n 0, 1) := dc42 bqX6_copyFrom_48 16 rfl rfl
theorem dX6_copyFrom_65 : decode cX6_copyFrom 65 = .ok (.getfield 24, 3) := dc180 bqX6_copyFrom_48 17 rfl rfl rfl
theorem dX6_copyFrom_68 : decode cX6_copyFrom 68 = .ok (.iconst 0, 1) := dc3 bqX6_copyFrom_48 20 rfl rfl
theorem dX6_copyFrom_69 : decode cX6_copyFrom 69 = .ok (.bipush 6, 2) := dc16 bqX6_copyFrom_48 21 rfl rfl rfl
theorem bqX6_copyFrom_71 : hs_bs cX6_copyFrom 71 [184, 0, 61, 43, 180, 0, 27, 3, 42, 180, 0, 27, 3, 16, 6, 184, 0, 61, 43, 180, 0, 30, 3, 42] := hs_bs_of _ _ _ (by decide +kernel)
theorem dX6_copyFrom_71 : decode cX6_copyFrom 71 = .ok (.invokestatic 61, 3) := dc184 bqX6_copyFrom_71 0 rfl rfl rfl
theorem dX6_copyFrom_74 : decode cX6_copyFrom 74 = .ok (.aload_n 1, 1) := dc43 bqX6_copyFrom_71 3 rfl rfl
theorem dX6_copyFrom_75 : decode cX6_copyFrom 75 = .ok (.getfield 27, 3) := dc180 bqX6_copyFrom_71 4 rfl rfl rfl
theorem dX6_copyFrom_78 : decode cX6_copyFrom 78 = .ok (.iconst 0, 1) := dc3 bqX6_copyFrom_71 7 rfl rfl
theorem dX6_copyFrom_79 : decode cX6_copyFrom 79 = .ok (.aload_n 0, 1) := dc42 bqX6_copyFrom_71 8 rfl rfl
theorem dX6_copyFrom_80 : decode cX6_copyFrom 80 = .ok (.getfield 27, 3) := dc180 bqX6_copyFrom_71 9 rfl rfl rfl
theorem dX6_copyFrom_83 : decode cX6_copyFrom 83 = .ok (.iconst 0, 1) := dc3 bqX6_copyFrom_71 12 rfl rfl
theorem dX6_copyFrom_84 : decode cX6_copyFrom 84 = .ok (.bipush 6, 2) := dc16 bqX6_copyFrom_71 13 rfl rfl rfl
theorem dX6_copyFrom_86 : decode cX6_copyFrom 86 = .ok (.invokestatic 61, 3) := dc184 bqX6_copyFrom_71 15 rfl rfl rfl
theorem dX6_copyFrom_89 : decode cX6_copyFrom 89 = .ok (.aload_n 1, 1) := dc43 bqX6_copyFrom_71 18 rfl rfl
theorem dX6_copyFrom_90 : decode cX6_copyFrom 90 = .ok (.getfield 30, 3) := dc180 bqX6_copyFrom_71 19 rfl rfl rfl
theorem dX6_copyFrom_93 : decode cX6_copyFrom 93 = .ok (.iconst 0, 1) := dc3 bqX6_copyFrom_71 22 rfl rfl
theorem dX6_copyFrom_94 : decode cX6_copyFrom 94 = .ok (.aload_n 0, 1) := dc42 bqX6_copyFrom_71 23 rfl rfl
theorem bqX6_copyFrom_95 : hs_bs cX6_copyFrom 95 [180, 0, 30, 3, 16, 6, 184, 0, 61, 42, 43, 180, 0, 36, 181, 0, 36, 42, 43, 180, 0, 40] := hs_bs_of _ _ _ (by decide +kernel)
theorem dX6_copyFrom_95 : decode cX6_copyFrom 95 = .ok (.getfield 30, 3) := dc180 bqX6_copyFrom_95 0 rfl rfl rfl
theorem dX6_copyFrom_98 : decode cX6_copyFrom 98 = .ok (.iconst 0, 1) := dc3 bqX6_copyFrom_95 3 rfl rfl
theorem dX6_copyFrom_99 : decode cX6_copyFrom 99 = .ok (.bipush 6, 2) := dc16 bqX6_copyFrom_95 4 rfl rfl rfl
theorem dX6_copyFrom_101 : decode cX6_copyFrom 101 = .ok (.invokestatic 61, 3) := dc184 bqX6_copyFrom_95 6 rfl rfl rfl
theorem dX6_copyFrom_104 : decode cX6_copyFrom 104 = .ok (.aload_n 0, 1) := dc42 bqX6_copyFrom_95 9 rfl rfl
theorem dX6_copyFrom_105 : decode cX6_copyFrom 105 = .ok (.aload_n 1, 1) := dc43 bqX6_copyFrom_95 10 rfl rfl
theorem dX6_copyFrom_106 : decode cX6_copyFrom 106 = .ok (.getfield 36, 3) := dc180 bqX6_copyFrom_95 11 rfl rfl rfl
theorem dX6_copyFrom_109 : decode cX6_copyFrom 109 = .ok (.putfield 36, 3) := dc181 bqX6_copyFrom_95 14 rfl rfl rfl
theorem dX6_copyFrom_112 : decode cX6_copyFrom 112 = .ok (.aload_n 0, 1) := dc42 bqX6_copyFrom_95 17 rfl rfl
theorem dX6_copyFrom_113 : decode cX6_copyFrom 113 = .ok (.aload_n 1, 1) := dc43 bqX6_copyFrom_95 18 rfl rfl
theorem dX6_copyFrom_114 : decode cX6_copyFrom 114 = .ok (.getfield 40, 3) := dc180 bqX6_copyFrom_95 19 rfl rfl rfl
theorem bqX6_copyFrom_117 : hs_bs cX6_copyFrom 117 [181, 0, 40, 42, 43, 180, 0, 43, 181, 0, 43, 42, 43, 180, 0, 46, 181, 0, 46, 42, 43, 180, 0, 49] := hs_bs_of _ _ _ (by decide +kernel)
theorem dX6_copyFrom_117 : decode cX6_copyFrom 117 = .ok (.putfield 40, 3) := dc181 bqX6_copyFrom_117 0 rfl rfl rfl
theorem dX6_copyFrom_120 : decode cX6_copyFrom 120 = .ok (.aload_n 0, 1) := dc42 bqX6_copyFrom_117 3 rfl rfl
theorem dX6_copyFrom_121 : decode cX6_copyFrom 121 = .ok (.aload_n 1, 1) := dc43 bqX6_copyFrom_117 4 rfl rfl
theorem dX6_copyFrom_122 : decode cX6_copyFrom 122 = .ok (.getfield 43, 3) := dc180 bqX6_copyFrom_117 5 rfl rfl rfl
theorem dX6_copyFrom_125 : decode cX6_copyFrom 125 = .ok (.putfield 43, 3) := dc181 bqX6_copyFrom_117 8 rfl rfl rfl
theorem dX6_copyFrom_128 : decode cX6_copyFrom 128 = .ok (.aload_n 0, 1) := dc42 bqX6_copyFrom_117 11 rfl rfl
theorem dX6_copyFrom_129 : decode cX6_copyFrom 129 = .ok (.aload_n 1, 1) := dc43 bqX6_copyFrom_117 12 rfl rfl
theorem dX6_copyFrom_130 : decode cX6_copyFrom 130 = .ok (.getfield 46, 3) := dc180 bqX6_copyFrom_117 13 rfl rfl rfl
theorem dX6_copyFrom_133 : decode cX6_copyFrom 133 = .ok (.putfield 46, 3) := dc181 bqX6_copyFrom_117 16 rfl rfl rfl
theorem dX6_copyFrom_136 : decode cX6_copyFrom 136 = .ok (.aload_n 0, 1) := dc42 bqX6_copyFrom_117 19 rfl rfl
theorem dX6_copyFrom_137 : decode cX6_copyFrom 137 = .ok (.aload_n 1, 1) := dc43 bqX6_copyFrom_117 20 rfl rfl
theorem dX6_copyFrom_138 : decode cX6_copyFrom 138 = .ok (.getfield 49, 3) := dc180 bqX6_copyFrom_117 21 rfl rfl rfl
theorem bqX6_copyFrom_141 : hs_bs cX6_copyFrom 141 [181, 0, 49, 42, 43, 180, 0, 52, 181, 0, 52, 42, 43, 180, 0, 55, 181, 0, 55, 42, 43, 180, 0, 58] := hs_bs_of _ _ _ (by decide +kernel)
theorem dX6_copyFrom_141 : decode cX6_copyFrom 141 = .ok (.putfield 49, 3) := dc181 bqX6_copyFrom_141 0 rfl rfl rfl
theorem dX6_copyFrom_144 : decode cX6_copyFrom 144 = .ok (.aload_n 0, 1) := dc42 bqX6_copyFrom_141 3 rfl rfl
theorem dX6_copyFrom_145 : decode cX6_copyFrom 145 = .ok (.aload_n 1, 1) := dc43 bqX6_copyFrom_141 4 rfl rfl
theorem dX6_copyFrom_146 : decode cX6_copyFrom 146 = .ok (.getfield 52, 3) := dc180 bqX6_copyFrom_141 5 rfl rfl rfl
theorem dX6_copyFrom_149 : decode cX6_copyFrom 149 = .ok (.putfield 52, 3) := dc181 bqX6_copyFrom_141 8 rfl rfl rfl
theorem dX6_copyFrom_152 : decode cX6_copyFrom 152 = .ok (.aload_n 0, 1) := dc42 bqX6_copyFrom_141 11 rfl rfl
theorem dX6_copyFrom_153 : decode cX6_copyFrom 153 = .ok (.aload_n 1, 1) := dc43 bqX6_copyFrom_141 12 rfl rfl
theorem dX6_copyFrom_154 : decode cX6_copyFrom 154 = .ok (.getfield 55, 3) := dc180 bqX6_copyFrom_141 13 rfl rfl rfl
theorem dX6_copyFrom_157 : decode cX6_copyFrom 157 = .ok (.putfield 55, 3) := dc181 bqX6_copyFrom_141 16 rfl rfl rfl
theorem dX6_copyFrom_160 : decode cX6_copyFrom 160 = .ok (.aload_n 0, 1) := dc42 bqX6_copyFrom_141 19 rfl rfl
theorem dX6_copyFrom_161 : decode cX6_copyFrom 161 = .ok (.aload_n 1, 1) := dc43 bqX6_copyFrom_141 20 rfl rfl
theorem dX6_copyFrom_162 : decode cX6_copyFrom 162 = .ok (.getfield 58, 3) := dc180 bqX6_copyFrom_141 21 rfl rfl rfl
theorem bqX6_copyFrom_165 : hs_bs cX6_copyFrom 165 [181, 0, 58, 177] := hs_bs_of _ _ _ (by decide +kernel)
theorem dX6_copyFrom_165 : decode cX6_copyFrom 165 = .ok (.putfield 58, 3) := dc181 bqX6_copyFrom_165 0 rfl rfl rfl
theorem dX6_copyFrom_168 : decode cX6_copyFrom 168 = .ok (.return_, 1) := dc177 bqX6_copyFrom_165 3 rfl rfl
set_option maxRecDepth 20000 in
theorem gX6_isCell_X7_within_n67 : GoodIn wsX6_isCell (wsX7_within) := hs_gC (hs_gT inC_X7_within)
theorem bqX6_isCell_0 : hs_bs cX6_isCell 0 [27, 3, 42, 180, 0, 36, 4, 100, 184, 0, 67, 172] := hs_bs_of _ _ _ (by decide +kernel)
theorem dX6_isCell_0 : decode cX6_isCell 0 = .ok (.iload_n 1, 1) := dc27 bqX6_isCell_0 0 rfl rfl
theorem dX6_isCell_1 : decode cX6_isCell 1 = .ok (.iconst 0, 1) := dc3 bqX6_isCell_0 1 rfl rfl
theorem dX6_isCell_2 : decode cX6_isCell 2 = .ok (.aload_n 0, 1) := dc42 bqX6_isCell_0 2 rfl rfl
theorem dX6_isCell_3 : decode cX6_isCell 3 = .ok (.getfield 36, 3) := dc180 bqX6_isCell_0 3 rfl rfl rfl
theorem dX6_isCell_6 : decode cX6_isCell 6 = .ok (.iconst 1, 1) := dc4 bqX6_isCell_0 6 rfl rfl
theorem dX6_isCell_7 : decode cX6_isCell 7 = .ok (.isub, 1) := dc100 bqX6_isCell_0 7 rfl rfl
theorem dX6_isCell_8 : decode cX6_isCell 8 = .ok (.invokestatic 67, 3) := dc184 bqX6_isCell_0 8 rfl rfl rfl
theorem dX6_isCell_11 : decode cX6_isCell 11 = .ok (.ireturn, 1) := dc172 bqX6_isCell_0 11 rfl rfl
set_option maxRecDepth 20000 in
theorem gX6_isPerson_X7_within_n67 : GoodIn wsX6_isPerson (wsX7_within) := hs_gC (hs_gT inC_X7_within)
theorem bqX6_isPerson_0 : hs_bs cX6_isPerson 0 [27, 3, 42, 180, 0, 40, 4, 100, 184, 0, 67, 172] := hs_bs_of _ _ _ (by decide +kernel)
theorem dX6_isPerson_0 : decode cX6_isPerson 0 = .ok (.iload_n 1, 1) := dc27 bqX6_isPerson_0 0 rfl rfl
theorem dX6_isPerson_1 : decode cX6_isPerson 1 = .ok (.iconst 0, 1) := dc3 bqX6_isPerson_0 1 rfl rfl
theorem dX6_isPerson_2 : decode cX6_isPerson 2 = .ok (.aload_n 0, 1) := dc42 bqX6_isPerson_0 2 rfl rfl
theorem dX6_isPerson_3 : decode cX6_isPerson 3 = .ok (.getfield 40, 3) := dc180 bqX6_isPerson_0 3 rfl rfl rfl
theorem dX6_isPerson_6 : decode cX6_isPerson 6 = .ok (.iconst 1, 1) := dc4 bqX6_isPerson_0 6 rfl rfl
theorem dX6_isPerson_7 : decode cX6_isPerson 7 = .ok (.isub, 1) := dc100 bqX6_isPerson_0 7 rfl rfl
theorem dX6_isPerson_8 : decode cX6_isPerson 8 = .ok (.invokestatic 67, 3) := dc184 bqX6_isPerson_0 8 rfl rfl rfl
theorem dX6_isPerson_11 : decode cX6_isPerson 11 = .ok (.ireturn, 1) := dc172 bqX6_isPerson_0 11 rfl rfl
set_option maxRecDepth 20000 in
theorem gX6_isCut_X7_within_n67 : GoodIn wsX6_isCut (wsX7_within) := hs_gC (hs_gT inC_X7_within)
theorem bqX6_isCut_0 : hs_bs cX6_isCut 0 [27, 4, 42, 180, 0, 36, 4, 100, 184, 0, 67, 172] := hs_bs_of _ _ _ (by decide +kernel)
theorem dX6_isCut_0 : decode cX6_isCut 0 = .ok (.iload_n 1, 1) := dc27 bqX6_isCut_0 0 rfl rfl
theorem dX6_isCut_1 : decode cX6_isCut 1 = .ok (.iconst 1, 1) := dc4 bqX6_isCut_0 1 rfl rfl
theorem dX6_isCut_2 : decode cX6_isCut 2 = .ok (.aload_n 0, 1) := dc42 bqX6_isCut_0 2 rfl rfl
theorem dX6_isCut_3 : decode cX6_isCut 3 = .ok (.getfield 36, 3) := dc180 bqX6_isCut_0 3 rfl rfl rfl
theorem dX6_isCut_6 : decode cX6_isCut 6 = .ok (.iconst 1, 1) := dc4 bqX6_isCut_0 6 rfl rfl
theorem dX6_isCut_7 : decode cX6_isCut 7 = .ok (.isub, 1) := dc100 bqX6_isCut_0 7 rfl rfl
theorem dX6_isCut_8 : decode cX6_isCut 8 = .ok (.invokestatic 67, 3) := dc184 bqX6_isCut_0 8 rfl rfl rfl
theorem dX6_isCut_11 : decode cX6_isCut 11 = .ok (.ireturn, 1) := dc172 bqX6_isCut_0 11 rfl rfl
set_option maxRecDepth 20000 in
theorem gX6_isHalf_X7_within_n67 : GoodIn wsX6_isHalf (wsX7_within) := hs_gC (hs_gT inC_X7_within)
theorem bqX6_isHalf_0 : hs_bs cX6_isHalf 0 [27, 3, 42, 180, 0, 52, 4, 100, 184, 0, 67, 172] := hs_bs_of _ _ _ (by decide +kernel)
theorem dX6_isHalf_0 : decode cX6_isHalf 0 = .ok (.iload_n 1, 1) := dc27 bqX6_isHalf_0 0 rfl rfl
theorem dX6_isHalf_1 : decode cX6_isHalf 1 = .ok (.iconst 0, 1) := dc3 bqX6_isHalf_0 1 rfl rfl
theorem dX6_isHalf_2 : decode cX6_isHalf 2 = .ok (.aload_n 0, 1) := dc42 bqX6_isHalf_0 2 rfl rfl
theorem dX6_isHalf_3 : decode cX6_isHalf 3 = .ok (.getfield 52, 3) := dc180 bqX6_isHalf_0 3 rfl rfl rfl
theorem dX6_isHalf_6 : decode cX6_isHalf 6 = .ok (.iconst 1, 1) := dc4 bqX6_isHalf_0 6 rfl rfl
theorem dX6_isHalf_7 : decode cX6_isHalf 7 = .ok (.isub, 1) := dc100 bqX6_isHalf_0 7 rfl rfl
theorem dX6_isHalf_8 : decode cX6_isHalf 8 = .ok (.invokestatic 67, 3) := dc184 bqX6_isHalf_0 8 rfl rfl rfl
theorem dX6_isHalf_11 : decode cX6_isHalf 11 = .ok (.ireturn, 1) := dc172 bqX6_isHalf_0 11 rfl rfl
set_option maxRecDepth 20000 in
theorem gX6_canWeigh_X6_isCell : GoodIn wsX6_canWeigh (wsV RX6 71 RX6 yX6_isCell wsX6_isCell) := hs_gC (hs_gV (hs_inG 2 224 rfl rfl) (hs_inG 2 201 rfl rfl) (hs_inG 2 202 rfl rfl) (hs_inG 1 2 rfl rfl) inC_X6_isCell)
set_option maxRecDepth 20000 in
theorem gX6_canWeigh_X7_within_n67 : GoodIn wsX6_canWeigh (wsX7_within) := hs_gC (hs_gT inC_X7_within)
theorem bqX6_canWeigh_0 : hs_bs cX6_canWeigh 0 [42, 27, 182, 0, 71, 153, 0, 17, 28, 3, 16, 9, 184, 0, 67, 153, 0, 7, 4, 167, 0, 4, 3, 172] := hs_bs_of _ _ _ (by decide +kernel)
theorem dX6_canWeigh_0 : decode cX6_canWeigh 0 = .ok (.aload_n 0, 1) := dc42 bqX6_canWeigh_0 0 rfl rfl
theorem dX6_canWeigh_1 : decode cX6_canWeigh 1 = .ok (.iload_n 1, 1) := dc27 bqX6_canWeigh_0 1 rfl rfl
theorem dX6_canWeigh_2 : decode cX6_canWeigh 2 = .ok (.invokevirtual 71, 3) := dc182 bqX6_canWeigh_0 2 rfl rfl rfl
