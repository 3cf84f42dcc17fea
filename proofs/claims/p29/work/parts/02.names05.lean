theorem dX6_canWeigh_5 : decode cX6_canWeigh 5 = .ok (.ifCond .eq 17, 3) := dc153 bqX6_canWeigh_0 5 rfl rfl rfl
theorem dX6_canWeigh_8 : decode cX6_canWeigh 8 = .ok (.iload_n 2, 1) := dc28 bqX6_canWeigh_0 8 rfl rfl
theorem dX6_canWeigh_9 : decode cX6_canWeigh 9 = .ok (.iconst 0, 1) := dc3 bqX6_canWeigh_0 9 rfl rfl
theorem dX6_canWeigh_10 : decode cX6_canWeigh 10 = .ok (.bipush 9, 2) := dc16 bqX6_canWeigh_0 10 rfl rfl rfl
theorem dX6_canWeigh_12 : decode cX6_canWeigh 12 = .ok (.invokestatic 67, 3) := dc184 bqX6_canWeigh_0 12 rfl rfl rfl
theorem dX6_canWeigh_15 : decode cX6_canWeigh 15 = .ok (.ifCond .eq 7, 3) := dc153 bqX6_canWeigh_0 15 rfl rfl rfl
theorem dX6_canWeigh_18 : decode cX6_canWeigh 18 = .ok (.iconst 1, 1) := dc4 bqX6_canWeigh_0 18 rfl rfl
theorem dX6_canWeigh_19 : decode cX6_canWeigh 19 = .ok (.goto 4, 3) := dc167 bqX6_canWeigh_0 19 rfl rfl rfl
theorem dX6_canWeigh_22 : decode cX6_canWeigh 22 = .ok (.iconst 0, 1) := dc3 bqX6_canWeigh_0 22 rfl rfl
theorem dX6_canWeigh_23 : decode cX6_canWeigh 23 = .ok (.ireturn, 1) := dc172 bqX6_canWeigh_0 23 rfl rfl
theorem bqX6_allCells_0 : hs_bs cX6_allCells 0 [4, 42, 180, 0, 36, 120, 4, 100, 172] := hs_bs_of _ _ _ (by decide +kernel)
theorem dX6_allCells_0 : decode cX6_allCells 0 = .ok (.iconst 1, 1) := dc4 bqX6_allCells_0 0 rfl rfl
theorem dX6_allCells_1 : decode cX6_allCells 1 = .ok (.aload_n 0, 1) := dc42 bqX6_allCells_0 1 rfl rfl
theorem dX6_allCells_2 : decode cX6_allCells 2 = .ok (.getfield 36, 3) := dc180 bqX6_allCells_0 2 rfl rfl rfl
theorem dX6_allCells_5 : decode cX6_allCells 5 = .ok (.ishl, 1) := dc120 bqX6_allCells_0 5 rfl rfl
theorem dX6_allCells_6 : decode cX6_allCells 6 = .ok (.iconst 1, 1) := dc4 bqX6_allCells_0 6 rfl rfl
theorem dX6_allCells_7 : decode cX6_allCells 7 = .ok (.isub, 1) := dc100 bqX6_allCells_0 7 rfl rfl
theorem dX6_allCells_8 : decode cX6_allCells 8 = .ok (.ireturn, 1) := dc172 bqX6_allCells_0 8 rfl rfl
theorem bqX6_allPeople_0 : hs_bs cX6_allPeople 0 [4, 42, 180, 0, 40, 120, 4, 100, 172] := hs_bs_of _ _ _ (by decide +kernel)
theorem dX6_allPeople_0 : decode cX6_allPeople 0 = .ok (.iconst 1, 1) := dc4 bqX6_allPeople_0 0 rfl rfl
theorem dX6_allPeople_1 : decode cX6_allPeople 1 = .ok (.aload_n 0, 1) := dc42 bqX6_allPeople_0 1 rfl rfl
theorem dX6_allPeople_2 : decode cX6_allPeople 2 = .ok (.getfield 40, 3) := dc180 bqX6_allPeople_0 2 rfl rfl rfl
theorem dX6_allPeople_5 : decode cX6_allPeople 5 = .ok (.ishl, 1) := dc120 bqX6_allPeople_0 5 rfl rfl
theorem dX6_allPeople_6 : decode cX6_allPeople 6 = .ok (.iconst 1, 1) := dc4 bqX6_allPeople_0 6 rfl rfl
theorem dX6_allPeople_7 : decode cX6_allPeople 7 = .ok (.isub, 1) := dc100 bqX6_allPeople_0 7 rfl rfl
theorem dX6_allPeople_8 : decode cX6_allPeople 8 = .ok (.ireturn, 1) := dc172 bqX6_allPeople_0 8 rfl rfl
theorem bqX6_allWeights_0 : hs_bs cX6_allWeights 0 [3, 60, 3, 61, 28, 42, 180, 0, 36, 162, 0, 18, 27, 42, 180, 0, 9, 28, 46, 96, 60, 132, 2, 1] := hs_bs_of _ _ _ (by decide +kernel)
theorem dX6_allWeights_0 : decode cX6_allWeights 0 = .ok (.iconst 0, 1) := dc3 bqX6_allWeights_0 0 rfl rfl
theorem dX6_allWeights_1 : decode cX6_allWeights 1 = .ok (.istore_n 1, 1) := dc60 bqX6_allWeights_0 1 rfl rfl
theorem dX6_allWeights_2 : decode cX6_allWeights 2 = .ok (.iconst 0, 1) := dc3 bqX6_allWeights_0 2 rfl rfl
theorem dX6_allWeights_3 : decode cX6_allWeights 3 = .ok (.istore_n 2, 1) := dc61 bqX6_allWeights_0 3 rfl rfl
theorem dX6_allWeights_4 : decode cX6_allWeights 4 = .ok (.iload_n 2, 1) := dc28 bqX6_allWeights_0 4 rfl rfl
theorem dX6_allWeights_5 : decode cX6_allWeights 5 = .ok (.aload_n 0, 1) := dc42 bqX6_allWeights_0 5 rfl rfl
theorem dX6_allWeights_6 : decode cX6_allWeights 6 = .ok (.getfield 36, 3) := dc180 bqX6_allWeights_0 6 rfl rfl rfl
theorem dX6_allWeights_9 : decode cX6_allWeights 9 = .ok (.if_icmp .ge 18, 3) := dc162 bqX6_allWeights_0 9 rfl rfl rfl
theorem dX6_allWeights_12 : decode cX6_allWeights 12 = .ok (.iload_n 1, 1) := dc27 bqX6_allWeights_0 12 rfl rfl
theorem dX6_allWeights_13 : decode cX6_allWeights 13 = .ok (.aload_n 0, 1) := dc42 bqX6_allWeights_0 13 rfl rfl
theorem dX6_allWeights_14 : decode cX6_allWeights 14 = .ok (.getfield 9, 3) := dc180 bqX6_allWeights_0 14 rfl rfl rfl
theorem dX6_allWeights_17 : decode cX6_allWeights 17 = .ok (.iload_n 2, 1) := dc28 bqX6_allWeights_0 17 rfl rfl
theorem dX6_allWeights_18 : decode cX6_allWeights 18 = .ok (.iaload, 1) := dc46 bqX6_allWeights_0 18 rfl rfl
theorem dX6_allWeights_19 : decode cX6_allWeights 19 = .ok (.iadd, 1) := dc96 bqX6_allWeights_0 19 rfl rfl
theorem dX6_allWeights_20 : decode cX6_allWeights 20 = .ok (.istore_n 1, 1) := dc60 bqX6_allWeights_0 20 rfl rfl
theorem dX6_allWeights_21 : decode cX6_allWeights 21 = .ok (.iinc 2 1, 3) := dc132 bqX6_allWeights_0 21 rfl rfl rfl
theorem bqX6_allWeights_24 : hs_bs cX6_allWeights 24 [167, 255, 236, 27, 172] := hs_bs_of _ _ _ (by decide +kernel)
theorem dX6_allWeights_24 : decode cX6_allWeights 24 = .ok (.goto (-20), 3) := dc167 bqX6_allWeights_24 0 rfl rfl rfl
theorem dX6_allWeights_27 : decode cX6_allWeights 27 = .ok (.iload_n 1, 1) := dc27 bqX6_allWeights_24 3 rfl rfl
theorem dX6_allWeights_28 : decode cX6_allWeights 28 = .ok (.ireturn, 1) := dc172 bqX6_allWeights_24 4 rfl rfl
set_option maxRecDepth 20000 in
theorem gX6_splitCell_X7_halfUp_n75 : GoodIn wsX6_splitCell (wsX7_halfUp) := hs_gC (hs_gT inC_X7_halfUp)
theorem bqX6_splitCell_0 : hs_bs cX6_splitCell 0 [42, 180, 0, 36, 61, 28, 27, 4, 96, 164, 0, 23, 42, 180, 0, 9, 28, 42, 180, 0, 9, 28, 4, 100] := hs_bs_of _ _ _ (by decide +kernel)
theorem dX6_splitCell_0 : decode cX6_splitCell 0 = .ok (.aload_n 0, 1) := dc42 bqX6_splitCell_0 0 rfl rfl
theorem dX6_splitCell_1 : decode cX6_splitCell 1 = .ok (.getfield 36, 3) := dc180 bqX6_splitCell_0 1 rfl rfl rfl
theorem dX6_splitCell_4 : decode cX6_splitCell 4 = .ok (.istore_n 2, 1) := dc61 bqX6_splitCell_0 4 rfl rfl
theorem dX6_splitCell_5 : decode cX6_splitCell 5 = .ok (.iload_n 2, 1) := dc28 bqX6_splitCell_0 5 rfl rfl
theorem dX6_splitCell_6 : decode cX6_splitCell 6 = .ok (.iload_n 1, 1) := dc27 bqX6_splitCell_0 6 rfl rfl
theorem dX6_splitCell_7 : decode cX6_splitCell 7 = .ok (.iconst 1, 1) := dc4 bqX6_splitCell_0 7 rfl rfl
theorem dX6_splitCell_8 : decode cX6_splitCell 8 = .ok (.iadd, 1) := dc96 bqX6_splitCell_0 8 rfl rfl
theorem dX6_splitCell_9 : decode cX6_splitCell 9 = .ok (.if_icmp .le 23, 3) := dc164 bqX6_splitCell_0 9 rfl rfl rfl
theorem dX6_splitCell_12 : decode cX6_splitCell 12 = .ok (.aload_n 0, 1) := dc42 bqX6_splitCell_0 12 rfl rfl
theorem dX6_splitCell_13 : decode cX6_splitCell 13 = .ok (.getfield 9, 3) := dc180 bqX6_splitCell_0 13 rfl rfl rfl
theorem dX6_splitCell_16 : decode cX6_splitCell 16 = .ok (.iload_n 2, 1) := dc28 bqX6_splitCell_0 16 rfl rfl
theorem dX6_splitCell_17 : decode cX6_splitCell 17 = .ok (.aload_n 0, 1) := dc42 bqX6_splitCell_0 17 rfl rfl
theorem dX6_splitCell_18 : decode cX6_splitCell 18 = .ok (.getfield 9, 3) := dc180 bqX6_splitCell_0 18 rfl rfl rfl
theorem dX6_splitCell_21 : decode cX6_splitCell 21 = .ok (.iload_n 2, 1) := dc28 bqX6_splitCell_0 21 rfl rfl
theorem dX6_splitCell_22 : decode cX6_splitCell 22 = .ok (.iconst 1, 1) := dc4 bqX6_splitCell_0 22 rfl rfl
theorem dX6_splitCell_23 : decode cX6_splitCell 23 = .ok (.isub, 1) := dc100 bqX6_splitCell_0 23 rfl rfl
theorem bqX6_splitCell_24 : hs_bs cX6_splitCell 24 [46, 79, 132, 2, 255, 167, 255, 232, 42, 180, 0, 9, 27, 46, 61, 42, 180, 0, 9, 27, 28, 184, 0, 75] := hs_bs_of _ _ _ (by decide +kernel)
theorem dX6_splitCell_24 : decode cX6_splitCell 24 = .ok (.iaload, 1) := dc46 bqX6_splitCell_24 0 rfl rfl
theorem dX6_splitCell_25 : decode cX6_splitCell 25 = .ok (.iastore, 1) := dc79 bqX6_splitCell_24 1 rfl rfl
theorem dX6_splitCell_26 : decode cX6_splitCell 26 = .ok (.iinc 2 (-1), 3) := dc132 bqX6_splitCell_24 2 rfl rfl rfl
theorem dX6_splitCell_29 : decode cX6_splitCell 29 = .ok (.goto (-24), 3) := dc167 bqX6_splitCell_24 5 rfl rfl rfl
theorem dX6_splitCell_32 : decode cX6_splitCell 32 = .ok (.aload_n 0, 1) := dc42 bqX6_splitCell_24 8 rfl rfl
theorem dX6_splitCell_33 : decode cX6_splitCell 33 = .ok (.getfield 9, 3) := dc180 bqX6_splitCell_24 9 rfl rfl rfl
theorem dX6_splitCell_36 : decode cX6_splitCell 36 = .ok (.iload_n 1, 1) := dc27 bqX6_splitCell_24 12 rfl rfl
theorem dX6_splitCell_37 : decode cX6_splitCell 37 = .ok (.iaload, 1) := dc46 bqX6_splitCell_24 13 rfl rfl
theorem dX6_splitCell_38 : decode cX6_splitCell 38 = .ok (.istore_n 2, 1) := dc61 bqX6_splitCell_24 14 rfl rfl
theorem dX6_splitCell_39 : decode cX6_splitCell 39 = .ok (.aload_n 0, 1) := dc42 bqX6_splitCell_24 15 rfl rfl
theorem dX6_splitCell_40 : decode cX6_splitCell 40 = .ok (.getfield 9, 3) := dc180 bqX6_splitCell_24 16 rfl rfl rfl
theorem dX6_splitCell_43 : decode cX6_splitCell 43 = .ok (.iload_n 1, 1) := dc27 bqX6_splitCell_24 19 rfl rfl
theorem dX6_splitCell_44 : decode cX6_splitCell 44 = .ok (.iload_n 2, 1) := dc28 bqX6_splitCell_24 20 rfl rfl
theorem dX6_splitCell_45 : decode cX6_splitCell 45 = .ok (.invokestatic 75, 3) := dc184 bqX6_splitCell_24 21 rfl rfl rfl
theorem bqX6_splitCell_48 : hs_bs cX6_splitCell 48 [79, 42, 180, 0, 9, 27, 4, 96, 28, 42, 180, 0, 9, 27, 46, 100, 79, 42, 89, 180, 0, 36, 4, 96] := hs_bs_of _ _ _ (by decide +kernel)
theorem dX6_splitCell_48 : decode cX6_splitCell 48 = .ok (.iastore, 1) := dc79 bqX6_splitCell_48 0 rfl rfl
theorem dX6_splitCell_49 : decode cX6_splitCell 49 = .ok (.aload_n 0, 1) := dc42 bqX6_splitCell_48 1 rfl rfl
theorem dX6_splitCell_50 : decode cX6_splitCell 50 = .ok (.getfield 9, 3) := dc180 bqX6_splitCell_48 2 rfl rfl rfl
theorem dX6_splitCell_53 : decode cX6_splitCell 53 = .ok (.iload_n 1, 1) := dc27 bqX6_splitCell_48 5 rfl rfl
theorem dX6_splitCell_54 : decode cX6_splitCell 54 = .ok (.iconst 1, 1) := dc4 bqX6_splitCell_48 6 rfl rfl
theorem dX6_splitCell_55 : decode cX6_splitCell 55 = .ok (.iadd, 1) := dc96 bqX6_splitCell_48 7 rfl rfl
theorem dX6_splitCell_56 : decode cX6_splitCell 56 = .ok (.iload_n 2, 1) := dc28 bqX6_splitCell_48 8 rfl rfl
theorem dX6_splitCell_57 : decode cX6_splitCell 57 = .ok (.aload_n 0, 1) := dc42 bqX6_splitCell_48 9 rfl rfl
theorem dX6_splitCell_58 : decode cX6_splitCell 58 = .ok (.getfield 9, 3) := dc180 bqX6_splitCell_48 10 rfl rfl rfl
theorem dX6_splitCell_61 : decode cX6_splitCell 61 = .ok (.iload_n 1, 1) := dc27 bqX6_splitCell_48 13 rfl rfl
theorem dX6_splitCell_62 : decode cX6_splitCell 62 = .ok (.iaload, 1) := dc46 bqX6_splitCell_48 14 rfl rfl
theorem dX6_splitCell_63 : decode cX6_splitCell 63 = .ok (.isub, 1) := dc100 bqX6_splitCell_48 15 rfl rfl
theorem dX6_splitCell_64 : decode cX6_splitCell 64 = .ok (.iastore, 1) := dc79 bqX6_splitCell_48 16 rfl rfl
theorem dX6_splitCell_65 : decode cX6_splitCell 65 = .ok (.aload_n 0, 1) := dc42 bqX6_splitCell_48 17 rfl rfl
theorem dX6_splitCell_66 : decode cX6_splitCell 66 = .ok (.dup, 1) := dc89 bqX6_splitCell_48 18 rfl rfl
theorem dX6_splitCell_67 : decode cX6_splitCell 67 = .ok (.getfield 36, 3) := dc180 bqX6_splitCell_48 19 rfl rfl rfl
theorem dX6_splitCell_70 : decode cX6_splitCell 70 = .ok (.iconst 1, 1) := dc4 bqX6_splitCell_48 22 rfl rfl
theorem dX6_splitCell_71 : decode cX6_splitCell 71 = .ok (.iadd, 1) := dc96 bqX6_splitCell_48 23 rfl rfl
theorem bqX6_splitCell_72 : hs_bs cX6_splitCell 72 [181, 0, 36, 177] := hs_bs_of _ _ _ (by decide +kernel)
theorem dX6_splitCell_72 : decode cX6_splitCell 72 = .ok (.putfield 36, 3) := dc181 bqX6_splitCell_72 0 rfl rfl rfl
theorem dX6_splitCell_75 : decode cX6_splitCell 75 = .ok (.return_, 1) := dc177 bqX6_splitCell_72 3 rfl rfl
theorem bqX6_joinWithNext_0 : hs_bs cX6_joinWithNext 0 [42, 180, 0, 9, 27, 16, 9, 42, 180, 0, 9, 27, 46, 42, 180, 0, 9, 27, 4, 96, 46, 96] := hs_bs_of _ _ _ (by decide +kernel)
theorem dX6_joinWithNext_0 : decode cX6_joinWithNext 0 = .ok (.aload_n 0, 1) := dc42 bqX6_joinWithNext_0 0 rfl rfl
theorem dX6_joinWithNext_1 : decode cX6_joinWithNext 1 = .ok (.getfield 9, 3) := dc180 bqX6_joinWithNext_0 1 rfl rfl rfl
theorem dX6_joinWithNext_4 : decode cX6_joinWithNext 4 = .ok (.iload_n 1, 1) := dc27 bqX6_joinWithNext_0 4 rfl rfl
theorem dX6_joinWithNext_5 : decode cX6_joinWithNext 5 = .ok (.bipush 9, 2) := dc16 bqX6_joinWithNext_0 5 rfl rfl rfl
theorem dX6_joinWithNext_7 : decode cX6_joinWithNext 7 = .ok (.aload_n 0, 1) := dc42 bqX6_joinWithNext_0 7 rfl rfl
theorem dX6_joinWithNext_8 : decode cX6_joinWithNext 8 = .ok (.getfield 9, 3) := dc180 bqX6_joinWithNext_0 8 rfl rfl rfl
theorem dX6_joinWithNext_11 : decode cX6_joinWithNext 11 = .ok (.iload_n 1, 1) := dc27 bqX6_joinWithNext_0 11 rfl rfl
theorem dX6_joinWithNext_12 : decode cX6_joinWithNext 12 = .ok (.iaload, 1) := dc46 bqX6_joinWithNext_0 12 rfl rfl
theorem dX6_joinWithNext_13 : decode cX6_joinWithNext 13 = .ok (.aload_n 0, 1) := dc42 bqX6_joinWithNext_0 13 rfl rfl
theorem dX6_joinWithNext_14 : decode cX6_joinWithNext 14 = .ok (.getfield 9, 3) := dc180 bqX6_joinWithNext_0 14 rfl rfl rfl
theorem dX6_joinWithNext_17 : decode cX6_joinWithNext 17 = .ok (.iload_n 1, 1) := dc27 bqX6_joinWithNext_0 17 rfl rfl
theorem dX6_joinWithNext_18 : decode cX6_joinWithNext 18 = .ok (.iconst 1, 1) := dc4 bqX6_joinWithNext_0 18 rfl rfl
theorem dX6_joinWithNext_19 : decode cX6_joinWithNext 19 = .ok (.iadd, 1) := dc96 bqX6_joinWithNext_0 19 rfl rfl
theorem dX6_joinWithNext_20 : decode cX6_joinWithNext 20 = .ok (.iaload, 1) := dc46 bqX6_joinWithNext_0 20 rfl rfl
theorem dX6_joinWithNext_21 : decode cX6_joinWithNext 21 = .ok (.iadd, 1) := dc96 bqX6_joinWithNext_0 21 rfl rfl
theorem bqX6_joinWithNext_22 : hs_bs cX6_joinWithNext 22 [184, 0, 79, 79, 27, 4, 96, 61, 28, 42, 180, 0, 36, 4, 100, 162, 0, 23, 42, 180, 0, 9, 28, 42] := hs_bs_of _ _ _ (by decide +kernel)
theorem dX6_joinWithNext_22 : decode cX6_joinWithNext 22 = .ok (.invokestatic 79, 3) := dc184 bqX6_joinWithNext_22 0 rfl rfl rfl
theorem dX6_joinWithNext_25 : decode cX6_joinWithNext 25 = .ok (.iastore, 1) := dc79 bqX6_joinWithNext_22 3 rfl rfl
theorem dX6_joinWithNext_26 : decode cX6_joinWithNext 26 = .ok (.iload_n 1, 1) := dc27 bqX6_joinWithNext_22 4 rfl rfl
theorem dX6_joinWithNext_27 : decode cX6_joinWithNext 27 = .ok (.iconst 1, 1) := dc4 bqX6_joinWithNext_22 5 rfl rfl
theorem dX6_joinWithNext_28 : decode cX6_joinWithNext 28 = .ok (.iadd, 1) := dc96 bqX6_joinWithNext_22 6 rfl rfl
theorem dX6_joinWithNext_29 : decode cX6_joinWithNext 29 = .ok (.istore_n 2, 1) := dc61 bqX6_joinWithNext_22 7 rfl rfl
theorem dX6_joinWithNext_30 : decode cX6_joinWithNext 30 = .ok (.iload_n 2, 1) := dc28 bqX6_joinWithNext_22 8 rfl rfl
theorem dX6_joinWithNext_31 : decode cX6_joinWithNext 31 = .ok (.aload_n 0, 1) := dc42 bqX6_joinWithNext_22 9 rfl rfl
theorem dX6_joinWithNext_32 : decode cX6_joinWithNext 32 = .ok (.getfield 36, 3) := dc180 bqX6_joinWithNext_22 10 rfl rfl rfl
theorem dX6_joinWithNext_35 : decode cX6_joinWithNext 35 = .ok (.iconst 1, 1) := dc4 bqX6_joinWithNext_22 13 rfl rfl
theorem dX6_joinWithNext_36 : decode cX6_joinWithNext 36 = .ok (.isub, 1) := dc100 bqX6_joinWithNext_22 14 rfl rfl
theorem dX6_joinWithNext_37 : decode cX6_joinWithNext 37 = .ok (.if_icmp .ge 23, 3) := dc162 bqX6_joinWithNext_22 15 rfl rfl rfl
theorem dX6_joinWithNext_40 : decode cX6_joinWithNext 40 = .ok (.aload_n 0, 1) := dc42 bqX6_joinWithNext_22 18 rfl rfl
theorem dX6_joinWithNext_41 : decode cX6_joinWithNext 41 = .ok (.getfield 9, 3) := dc180 bqX6_joinWithNext_22 19 rfl rfl rfl
theorem dX6_joinWithNext_44 : decode cX6_joinWithNext 44 = .ok (.iload_n 2, 1) := dc28 bqX6_joinWithNext_22 22 rfl rfl
theorem dX6_joinWithNext_45 : decode cX6_joinWithNext 45 = .ok (.aload_n 0, 1) := dc42 bqX6_joinWithNext_22 23 rfl rfl
theorem bqX6_joinWithNext_46 : hs_bs cX6_joinWithNext 46 [180, 0, 9, 28, 4, 96, 46, 79, 132, 2, 1, 167, 255, 229, 42, 89, 180, 0, 36, 4, 100, 181, 0, 36] := hs_bs_of _ _ _ (by decide +kernel)
theorem dX6_joinWithNext_46 : decode cX6_joinWithNext 46 = .ok (.getfield 9, 3) := dc180 bqX6_joinWithNext_46 0 rfl rfl rfl
theorem dX6_joinWithNext_49 : decode cX6_joinWithNext 49 = .ok (.iload_n 2, 1) := dc28 bqX6_joinWithNext_46 3 rfl rfl
theorem dX6_joinWithNext_50 : decode cX6_joinWithNext 50 = .ok (.iconst 1, 1) := dc4 bqX6_joinWithNext_46 4 rfl rfl
theorem dX6_joinWithNext_51 : decode cX6_joinWithNext 51 = .ok (.iadd, 1) := dc96 bqX6_joinWithNext_46 5 rfl rfl
theorem dX6_joinWithNext_52 : decode cX6_joinWithNext 52 = .ok (.iaload, 1) := dc46 bqX6_joinWithNext_46 6 rfl rfl
theorem dX6_joinWithNext_53 : decode cX6_joinWithNext 53 = .ok (.iastore, 1) := dc79 bqX6_joinWithNext_46 7 rfl rfl
theorem dX6_joinWithNext_54 : decode cX6_joinWithNext 54 = .ok (.iinc 2 1, 3) := dc132 bqX6_joinWithNext_46 8 rfl rfl rfl
theorem dX6_joinWithNext_57 : decode cX6_joinWithNext 57 = .ok (.goto (-27), 3) := dc167 bqX6_joinWithNext_46 11 rfl rfl rfl
theorem dX6_joinWithNext_60 : decode cX6_joinWithNext 60 = .ok (.aload_n 0, 1) := dc42 bqX6_joinWithNext_46 14 rfl rfl
theorem dX6_joinWithNext_61 : decode cX6_joinWithNext 61 = .ok (.dup, 1) := dc89 bqX6_joinWithNext_46 15 rfl rfl
theorem dX6_joinWithNext_62 : decode cX6_joinWithNext 62 = .ok (.getfield 36, 3) := dc180 bqX6_joinWithNext_46 16 rfl rfl rfl
theorem dX6_joinWithNext_65 : decode cX6_joinWithNext 65 = .ok (.iconst 1, 1) := dc4 bqX6_joinWithNext_46 19 rfl rfl
theorem dX6_joinWithNext_66 : decode cX6_joinWithNext 66 = .ok (.isub, 1) := dc100 bqX6_joinWithNext_46 20 rfl rfl
theorem dX6_joinWithNext_67 : decode cX6_joinWithNext 67 = .ok (.putfield 36, 3) := dc181 bqX6_joinWithNext_46 21 rfl rfl rfl
theorem bqX6_joinWithNext_70 : hs_bs cX6_joinWithNext 70 [177] := hs_bs_of _ _ _ (by decide +kernel)
theorem dX6_joinWithNext_70 : decode cX6_joinWithNext 70 = .ok (.return_, 1) := dc177 bqX6_joinWithNext_70 0 rfl rfl
theorem bqX6_addPerson_0 : hs_bs cX6_addPerson 0 [42, 180, 0, 15, 42, 180, 0, 40, 27, 79, 42, 89, 180, 0, 40, 4, 96, 181, 0, 40, 177] := hs_bs_of _ _ _ (by decide +kernel)
theorem dX6_addPerson_0 : decode cX6_addPerson 0 = .ok (.aload_n 0, 1) := dc42 bqX6_addPerson_0 0 rfl rfl
theorem dX6_addPerson_1 : decode cX6_addPerson 1 = .ok (.getfield 15, 3) := dc180 bqX6_addPerson_0 1 rfl rfl rfl
theorem dX6_addPerson_4 : decode cX6_addPerson 4 = .ok (.aload_n 0, 1) := dc42 bqX6_addPerson_0 4 rfl rfl
theorem dX6_addPerson_5 : decode cX6_addPerson 5 = .ok (.getfield 40, 3) := dc180 bqX6_addPerson_0 5 rfl rfl rfl
theorem dX6_addPerson_8 : decode cX6_addPerson 8 = .ok (.iload_n 1, 1) := dc27 bqX6_addPerson_0 8 rfl rfl
theorem dX6_addPerson_9 : decode cX6_addPerson 9 = .ok (.iastore, 1) := dc79 bqX6_addPerson_0 9 rfl rfl
theorem dX6_addPerson_10 : decode cX6_addPerson 10 = .ok (.aload_n 0, 1) := dc42 bqX6_addPerson_0 10 rfl rfl
theorem dX6_addPerson_11 : decode cX6_addPerson 11 = .ok (.dup, 1) := dc89 bqX6_addPerson_0 11 rfl rfl
theorem dX6_addPerson_12 : decode cX6_addPerson 12 = .ok (.getfield 40, 3) := dc180 bqX6_addPerson_0 12 rfl rfl rfl
theorem dX6_addPerson_15 : decode cX6_addPerson 15 = .ok (.iconst 1, 1) := dc4 bqX6_addPerson_0 15 rfl rfl
theorem dX6_addPerson_16 : decode cX6_addPerson 16 = .ok (.iadd, 1) := dc96 bqX6_addPerson_0 16 rfl rfl
theorem dX6_addPerson_17 : decode cX6_addPerson 17 = .ok (.putfield 40, 3) := dc181 bqX6_addPerson_0 17 rfl rfl rfl
theorem dX6_addPerson_20 : decode cX6_addPerson 20 = .ok (.return_, 1) := dc177 bqX6_addPerson_0 20 rfl rfl
theorem bqX6_addPair_0 : hs_bs cX6_addPair 0 [42, 180, 0, 18, 42, 180, 0, 55, 27, 79, 42, 180, 0, 21, 42, 180, 0, 55, 28, 79, 42, 89] := hs_bs_of _ _ _ (by decide +kernel)
theorem dX6_addPair_0 : decode cX6_addPair 0 = .ok (.aload_n 0, 1) := dc42 bqX6_addPair_0 0 rfl rfl
theorem dX6_addPair_1 : decode cX6_addPair 1 = .ok (.getfield 18, 3) := dc180 bqX6_addPair_0 1 rfl rfl rfl
theorem dX6_addPair_4 : decode cX6_addPair 4 = .ok (.aload_n 0, 1) := dc42 bqX6_addPair_0 4 rfl rfl
theorem dX6_addPair_5 : decode cX6_addPair 5 = .ok (.getfield 55, 3) := dc180 bqX6_addPair_0 5 rfl rfl rfl
theorem dX6_addPair_8 : decode cX6_addPair 8 = .ok (.iload_n 1, 1) := dc27 bqX6_addPair_0 8 rfl rfl
theorem dX6_addPair_9 : decode cX6_addPair 9 = .ok (.iastore, 1) := dc79 bqX6_addPair_0 9 rfl rfl
theorem dX6_addPair_10 : decode cX6_addPair 10 = .ok (.aload_n 0, 1) := dc42 bqX6_addPair_0 10 rfl rfl
theorem dX6_addPair_11 : decode cX6_addPair 11 = .ok (.getfield 21, 3) := dc180 bqX6_addPair_0 11 rfl rfl rfl
theorem dX6_addPair_14 : decode cX6_addPair 14 = .ok (.aload_n 0, 1) := dc42 bqX6_addPair_0 14 rfl rfl
theorem dX6_addPair_15 : decode cX6_addPair 15 = .ok (.getfield 55, 3) := dc180 bqX6_addPair_0 15 rfl rfl rfl
theorem dX6_addPair_18 : decode cX6_addPair 18 = .ok (.iload_n 2, 1) := dc28 bqX6_addPair_0 18 rfl rfl
theorem dX6_addPair_19 : decode cX6_addPair 19 = .ok (.iastore, 1) := dc79 bqX6_addPair_0 19 rfl rfl
theorem dX6_addPair_20 : decode cX6_addPair 20 = .ok (.aload_n 0, 1) := dc42 bqX6_addPair_0 20 rfl rfl
theorem dX6_addPair_21 : decode cX6_addPair 21 = .ok (.dup, 1) := dc89 bqX6_addPair_0 21 rfl rfl
theorem bqX6_addPair_22 : hs_bs cX6_addPair 22 [180, 0, 55, 4, 96, 181, 0, 55, 177] := hs_bs_of _ _ _ (by decide +kernel)
theorem dX6_addPair_22 : decode cX6_addPair 22 = .ok (.getfield 55, 3) := dc180 bqX6_addPair_22 0 rfl rfl rfl
theorem dX6_addPair_25 : decode cX6_addPair 25 = .ok (.iconst 1, 1) := dc4 bqX6_addPair_22 3 rfl rfl
theorem dX6_addPair_26 : decode cX6_addPair 26 = .ok (.iadd, 1) := dc96 bqX6_addPair_22 4 rfl rfl
theorem dX6_addPair_27 : decode cX6_addPair 27 = .ok (.putfield 55, 3) := dc181 bqX6_addPair_22 5 rfl rfl rfl
theorem dX6_addPair_30 : decode cX6_addPair 30 = .ok (.return_, 1) := dc177 bqX6_addPair_22 8 rfl rfl
theorem bqX6_addSeen_0 : hs_bs cX6_addSeen 0 [42, 180, 0, 24, 42, 180, 0, 58, 27, 79, 42, 180, 0, 27, 42, 180, 0, 58, 28, 79, 42, 180, 0, 30] := hs_bs_of _ _ _ (by decide +kernel)
theorem dX6_addSeen_0 : decode cX6_addSeen 0 = .ok (.aload_n 0, 1) := dc42 bqX6_addSeen_0 0 rfl rfl
theorem dX6_addSeen_1 : decode cX6_addSeen 1 = .ok (.getfield 24, 3) := dc180 bqX6_addSeen_0 1 rfl rfl rfl
theorem dX6_addSeen_4 : decode cX6_addSeen 4 = .ok (.aload_n 0, 1) := dc42 bqX6_addSeen_0 4 rfl rfl
theorem dX6_addSeen_5 : decode cX6_addSeen 5 = .ok (.getfield 58, 3) := dc180 bqX6_addSeen_0 5 rfl rfl rfl
theorem dX6_addSeen_8 : decode cX6_addSeen 8 = .ok (.iload_n 1, 1) := dc27 bqX6_addSeen_0 8 rfl rfl
theorem dX6_addSeen_9 : decode cX6_addSeen 9 = .ok (.iastore, 1) := dc79 bqX6_addSeen_0 9 rfl rfl
theorem dX6_addSeen_10 : decode cX6_addSeen 10 = .ok (.aload_n 0, 1) := dc42 bqX6_addSeen_0 10 rfl rfl
theorem dX6_addSeen_11 : decode cX6_addSeen 11 = .ok (.getfield 27, 3) := dc180 bqX6_addSeen_0 11 rfl rfl rfl
theorem dX6_addSeen_14 : decode cX6_addSeen 14 = .ok (.aload_n 0, 1) := dc42 bqX6_addSeen_0 14 rfl rfl
theorem dX6_addSeen_15 : decode cX6_addSeen 15 = .ok (.getfield 58, 3) := dc180 bqX6_addSeen_0 15 rfl rfl rfl
theorem dX6_addSeen_18 : decode cX6_addSeen 18 = .ok (.iload_n 2, 1) := dc28 bqX6_addSeen_0 18 rfl rfl
theorem dX6_addSeen_19 : decode cX6_addSeen 19 = .ok (.iastore, 1) := dc79 bqX6_addSeen_0 19 rfl rfl
theorem dX6_addSeen_20 : decode cX6_addSeen 20 = .ok (.aload_n 0, 1) := dc42 bqX6_addSeen_0 20 rfl rfl
theorem dX6_addSeen_21 : decode cX6_addSeen 21 = .ok (.getfield 30, 3) := dc180 bqX6_addSeen_0 21 rfl rfl rfl
theorem bqX6_addSeen_24 : hs_bs cX6_addSeen 24 [42, 180, 0, 58, 29, 79, 42, 89, 180, 0, 58, 4, 96, 181, 0, 58, 177] := hs_bs_of _ _ _ (by decide +kernel)
theorem dX6_addSeen_24 : decode cX6_addSeen 24 = .ok (.aload_n 0, 1) := dc42 bqX6_addSeen_24 0 rfl rfl
theorem dX6_addSeen_25 : decode cX6_addSeen 25 = .ok (.getfield 58, 3) := dc180 bqX6_addSeen_24 1 rfl rfl rfl
theorem dX6_addSeen_28 : decode cX6_addSeen 28 = .ok (.iload_n 3, 1) := dc29 bqX6_addSeen_24 4 rfl rfl
theorem dX6_addSeen_29 : decode cX6_addSeen 29 = .ok (.iastore, 1) := dc79 bqX6_addSeen_24 5 rfl rfl
theorem dX6_addSeen_30 : decode cX6_addSeen 30 = .ok (.aload_n 0, 1) := dc42 bqX6_addSeen_24 6 rfl rfl
theorem dX6_addSeen_31 : decode cX6_addSeen 31 = .ok (.dup, 1) := dc89 bqX6_addSeen_24 7 rfl rfl
theorem dX6_addSeen_32 : decode cX6_addSeen 32 = .ok (.getfield 58, 3) := dc180 bqX6_addSeen_24 8 rfl rfl rfl
theorem dX6_addSeen_35 : decode cX6_addSeen 35 = .ok (.iconst 1, 1) := dc4 bqX6_addSeen_24 11 rfl rfl
theorem dX6_addSeen_36 : decode cX6_addSeen 36 = .ok (.iadd, 1) := dc96 bqX6_addSeen_24 12 rfl rfl
theorem dX6_addSeen_37 : decode cX6_addSeen 37 = .ok (.putfield 58, 3) := dc181 bqX6_addSeen_24 13 rfl rfl rfl
theorem dX6_addSeen_40 : decode cX6_addSeen 40 = .ok (.return_, 1) := dc177 bqX6_addSeen_24 16 rfl rfl
theorem bqX6_worthOfCell_0 : hs_bs cX6_worthOfCell 0 [42, 180, 0, 9, 28, 46, 62, 42, 180, 0, 15, 27, 46, 54, 4, 21, 4, 6, 160, 0, 7, 29, 5, 108] := hs_bs_of _ _ _ (by decide +kernel)
theorem dX6_worthOfCell_0 : decode cX6_worthOfCell 0 = .ok (.aload_n 0, 1) := dc42 bqX6_worthOfCell_0 0 rfl rfl
theorem dX6_worthOfCell_1 : decode cX6_worthOfCell 1 = .ok (.getfield 9, 3) := dc180 bqX6_worthOfCell_0 1 rfl rfl rfl
theorem dX6_worthOfCell_4 : decode cX6_worthOfCell 4 = .ok (.iload_n 2, 1) := dc28 bqX6_worthOfCell_0 4 rfl rfl
theorem dX6_worthOfCell_5 : decode cX6_worthOfCell 5 = .ok (.iaload, 1) := dc46 bqX6_worthOfCell_0 5 rfl rfl
theorem dX6_worthOfCell_6 : decode cX6_worthOfCell 6 = .ok (.istore_n 3, 1) := dc62 bqX6_worthOfCell_0 6 rfl rfl
theorem dX6_worthOfCell_7 : decode cX6_worthOfCell 7 = .ok (.aload_n 0, 1) := dc42 bqX6_worthOfCell_0 7 rfl rfl
theorem dX6_worthOfCell_8 : decode cX6_worthOfCell 8 = .ok (.getfield 15, 3) := dc180 bqX6_worthOfCell_0 8 rfl rfl rfl
theorem dX6_worthOfCell_11 : decode cX6_worthOfCell 11 = .ok (.iload_n 1, 1) := dc27 bqX6_worthOfCell_0 11 rfl rfl
theorem dX6_worthOfCell_12 : decode cX6_worthOfCell 12 = .ok (.iaload, 1) := dc46 bqX6_worthOfCell_0 12 rfl rfl
theorem dX6_worthOfCell_13 : decode cX6_worthOfCell 13 = .ok (.istore 4, 2) := dc54 bqX6_worthOfCell_0 13 rfl rfl
theorem dX6_worthOfCell_15 : decode cX6_worthOfCell 15 = .ok (.iload 4, 2) := dc21 bqX6_worthOfCell_0 15 rfl rfl
theorem dX6_worthOfCell_17 : decode cX6_worthOfCell 17 = .ok (.iconst 3, 1) := dc6 bqX6_worthOfCell_0 17 rfl rfl
theorem dX6_worthOfCell_18 : decode cX6_worthOfCell 18 = .ok (.if_icmp .ne 7, 3) := dc160 bqX6_worthOfCell_0 18 rfl rfl rfl
theorem dX6_worthOfCell_21 : decode cX6_worthOfCell 21 = .ok (.iload_n 3, 1) := dc29 bqX6_worthOfCell_0 21 rfl rfl
theorem dX6_worthOfCell_22 : decode cX6_worthOfCell 22 = .ok (.iconst 2, 1) := dc5 bqX6_worthOfCell_0 22 rfl rfl
theorem dX6_worthOfCell_23 : decode cX6_worthOfCell 23 = .ok (.idiv, 1) := dc108 bqX6_worthOfCell_0 23 rfl rfl
theorem bqX6_worthOfCell_24 : hs_bs cX6_worthOfCell 24 [172, 28, 154, 0, 14, 21, 4, 153, 0, 9, 5, 29, 104, 167, 0, 4, 29, 54, 5, 21, 4, 5] := hs_bs_of _ _ _ (by decide +kernel)
theorem dX6_worthOfCell_24 : decode cX6_worthOfCell 24 = .ok (.ireturn, 1) := dc172 bqX6_worthOfCell_24 0 rfl rfl
theorem dX6_worthOfCell_25 : decode cX6_worthOfCell 25 = .ok (.iload_n 2, 1) := dc28 bqX6_worthOfCell_24 1 rfl rfl
theorem dX6_worthOfCell_26 : decode cX6_worthOfCell 26 = .ok (.ifCond .ne 14, 3) := dc154 bqX6_worthOfCell_24 2 rfl rfl rfl
theorem dX6_worthOfCell_29 : decode cX6_worthOfCell 29 = .ok (.iload 4, 2) := dc21 bqX6_worthOfCell_24 5 rfl rfl
theorem dX6_worthOfCell_31 : decode cX6_worthOfCell 31 = .ok (.ifCond .eq 9, 3) := dc153 bqX6_worthOfCell_24 7 rfl rfl rfl
theorem dX6_worthOfCell_34 : decode cX6_worthOfCell 34 = .ok (.iconst 2, 1) := dc5 bqX6_worthOfCell_24 10 rfl rfl
theorem dX6_worthOfCell_35 : decode cX6_worthOfCell 35 = .ok (.iload_n 3, 1) := dc29 bqX6_worthOfCell_24 11 rfl rfl
theorem dX6_worthOfCell_36 : decode cX6_worthOfCell 36 = .ok (.imul, 1) := dc104 bqX6_worthOfCell_24 12 rfl rfl
theorem dX6_worthOfCell_37 : decode cX6_worthOfCell 37 = .ok (.goto 4, 3) := dc167 bqX6_worthOfCell_24 13 rfl rfl rfl
theorem dX6_worthOfCell_40 : decode cX6_worthOfCell 40 = .ok (.iload_n 3, 1) := dc29 bqX6_worthOfCell_24 16 rfl rfl
theorem dX6_worthOfCell_41 : decode cX6_worthOfCell 41 = .ok (.istore 5, 2) := dc54 bqX6_worthOfCell_24 17 rfl rfl
theorem dX6_worthOfCell_43 : decode cX6_worthOfCell 43 = .ok (.iload 4, 2) := dc21 bqX6_worthOfCell_24 19 rfl rfl
theorem dX6_worthOfCell_45 : decode cX6_worthOfCell 45 = .ok (.iconst 2, 1) := dc5 bqX6_worthOfCell_24 21 rfl rfl
theorem bqX6_worthOfCell_46 : hs_bs cX6_worthOfCell 46 [160, 0, 17, 29, 5, 112, 4, 160, 0, 10, 21, 5, 4, 96, 167, 0, 5, 21, 5, 172] := hs_bs_of _ _ _ (by decide +kernel)
theorem dX6_worthOfCell_46 : decode cX6_worthOfCell 46 = .ok (.if_icmp .ne 17, 3) := dc160 bqX6_worthOfCell_46 0 rfl rfl rfl
theorem dX6_worthOfCell_49 : decode cX6_worthOfCell 49 = .ok (.iload_n 3, 1) := dc29 bqX6_worthOfCell_46 3 rfl rfl
theorem dX6_worthOfCell_50 : decode cX6_worthOfCell 50 = .ok (.iconst 2, 1) := dc5 bqX6_worthOfCell_46 4 rfl rfl
theorem dX6_worthOfCell_51 : decode cX6_worthOfCell 51 = .ok (.irem, 1) := dc112 bqX6_worthOfCell_46 5 rfl rfl
theorem dX6_worthOfCell_52 : decode cX6_worthOfCell 52 = .ok (.iconst 1, 1) := dc4 bqX6_worthOfCell_46 6 rfl rfl
theorem dX6_worthOfCell_53 : decode cX6_worthOfCell 53 = .ok (.if_icmp .ne 10, 3) := dc160 bqX6_worthOfCell_46 7 rfl rfl rfl
theorem dX6_worthOfCell_56 : decode cX6_worthOfCell 56 = .ok (.iload 5, 2) := dc21 bqX6_worthOfCell_46 10 rfl rfl
theorem dX6_worthOfCell_58 : decode cX6_worthOfCell 58 = .ok (.iconst 1, 1) := dc4 bqX6_worthOfCell_46 12 rfl rfl
theorem dX6_worthOfCell_59 : decode cX6_worthOfCell 59 = .ok (.iadd, 1) := dc96 bqX6_worthOfCell_46 13 rfl rfl
theorem dX6_worthOfCell_60 : decode cX6_worthOfCell 60 = .ok (.goto 5, 3) := dc167 bqX6_worthOfCell_46 14 rfl rfl rfl
theorem dX6_worthOfCell_63 : decode cX6_worthOfCell 63 = .ok (.iload 5, 2) := dc21 bqX6_worthOfCell_46 17 rfl rfl
theorem dX6_worthOfCell_65 : decode cX6_worthOfCell 65 = .ok (.ireturn, 1) := dc172 bqX6_worthOfCell_46 19 rfl rfl
set_option maxRecDepth 20000 in
theorem gX6_worthOf_X6_worthOfCell : GoodIn wsX6_worthOf (wsV RX6 85 RX6 yX6_worthOfCell wsX6_worthOfCell) := hs_gC (hs_gV (hs_inG 3 44 rfl rfl) (hs_inG 3 45 rfl rfl) (hs_inG 3 46 rfl rfl) (hs_inG 1 2 rfl rfl) inC_X6_worthOfCell)
theorem bqX6_worthOf_0 : hs_bs cX6_worthOf 0 [3, 62, 3, 54, 4, 21, 4, 42, 180, 0, 36, 162, 0, 29, 28, 21, 4, 122, 4, 126, 4, 160, 0, 13] := hs_bs_of _ _ _ (by decide +kernel)
theorem dX6_worthOf_0 : decode cX6_worthOf 0 = .ok (.iconst 0, 1) := dc3 bqX6_worthOf_0 0 rfl rfl
theorem dX6_worthOf_1 : decode cX6_worthOf 1 = .ok (.istore_n 3, 1) := dc62 bqX6_worthOf_0 1 rfl rfl
theorem dX6_worthOf_2 : decode cX6_worthOf 2 = .ok (.iconst 0, 1) := dc3 bqX6_worthOf_0 2 rfl rfl
theorem dX6_worthOf_3 : decode cX6_worthOf 3 = .ok (.istore 4, 2) := dc54 bqX6_worthOf_0 3 rfl rfl
theorem dX6_worthOf_5 : decode cX6_worthOf 5 = .ok (.iload 4, 2) := dc21 bqX6_worthOf_0 5 rfl rfl
theorem dX6_worthOf_7 : decode cX6_worthOf 7 = .ok (.aload_n 0, 1) := dc42 bqX6_worthOf_0 7 rfl rfl
theorem dX6_worthOf_8 : decode cX6_worthOf 8 = .ok (.getfield 36, 3) := dc180 bqX6_worthOf_0 8 rfl rfl rfl
theorem dX6_worthOf_11 : decode cX6_worthOf 11 = .ok (.if_icmp .ge 29, 3) := dc162 bqX6_worthOf_0 11 rfl rfl rfl
theorem dX6_worthOf_14 : decode cX6_worthOf 14 = .ok (.iload_n 2, 1) := dc28 bqX6_worthOf_0 14 rfl rfl
theorem dX6_worthOf_15 : decode cX6_worthOf 15 = .ok (.iload 4, 2) := dc21 bqX6_worthOf_0 15 rfl rfl
theorem dX6_worthOf_17 : decode cX6_worthOf 17 = .ok (.ishr, 1) := dc122 bqX6_worthOf_0 17 rfl rfl
theorem dX6_worthOf_18 : decode cX6_worthOf 18 = .ok (.iconst 1, 1) := dc4 bqX6_worthOf_0 18 rfl rfl
theorem dX6_worthOf_19 : decode cX6_worthOf 19 = .ok (.iand, 1) := dc126 bqX6_worthOf_0 19 rfl rfl
theorem dX6_worthOf_20 : decode cX6_worthOf 20 = .ok (.iconst 1, 1) := dc4 bqX6_worthOf_0 20 rfl rfl
theorem dX6_worthOf_21 : decode cX6_worthOf 21 = .ok (.if_icmp .ne 13, 3) := dc160 bqX6_worthOf_0 21 rfl rfl rfl
theorem bqX6_worthOf_24 : hs_bs cX6_worthOf 24 [29, 42, 27, 21, 4, 182, 0, 85, 96, 62, 132, 4, 1, 167, 255, 224, 29, 172] := hs_bs_of _ _ _ (by decide +kernel)
theorem dX6_worthOf_24 : decode cX6_worthOf 24 = .ok (.iload_n 3, 1) := dc29 bqX6_worthOf_24 0 rfl rfl
theorem dX6_worthOf_25 : decode cX6_worthOf 25 = .ok (.aload_n 0, 1) := dc42 bqX6_worthOf_24 1 rfl rfl
theorem dX6_worthOf_26 : decode cX6_worthOf 26 = .ok (.iload_n 1, 1) := dc27 bqX6_worthOf_24 2 rfl rfl
theorem dX6_worthOf_27 : decode cX6_worthOf 27 = .ok (.iload 4, 2) := dc21 bqX6_worthOf_24 3 rfl rfl
theorem dX6_worthOf_29 : decode cX6_worthOf 29 = .ok (.invokevirtual 85, 3) := dc182 bqX6_worthOf_24 5 rfl rfl rfl
theorem dX6_worthOf_32 : decode cX6_worthOf 32 = .ok (.iadd, 1) := dc96 bqX6_worthOf_24 8 rfl rfl
theorem dX6_worthOf_33 : decode cX6_worthOf 33 = .ok (.istore_n 3, 1) := dc62 bqX6_worthOf_24 9 rfl rfl
theorem dX6_worthOf_34 : decode cX6_worthOf 34 = .ok (.iinc 4 1, 3) := dc132 bqX6_worthOf_24 10 rfl rfl rfl
theorem dX6_worthOf_37 : decode cX6_worthOf 37 = .ok (.goto (-32), 3) := dc167 bqX6_worthOf_24 13 rfl rfl rfl
theorem dX6_worthOf_40 : decode cX6_worthOf 40 = .ok (.iload_n 3, 1) := dc29 bqX6_worthOf_24 16 rfl rfl
theorem dX6_worthOf_41 : decode cX6_worthOf 41 = .ok (.ireturn, 1) := dc172 bqX6_worthOf_24 17 rfl rfl
set_option maxRecDepth 20000 in
theorem gX6_lead_X6_worthOfCell : GoodIn wsX6_lead (wsV RX6 85 RX6 yX6_worthOfCell wsX6_worthOfCell) := hs_gC (hs_gV (hs_inG 3 44 rfl rfl) (hs_inG 3 45 rfl rfl) (hs_inG 3 46 rfl rfl) (hs_inG 1 2 rfl rfl) inC_X6_worthOfCell)
theorem bqX6_lead_0 : hs_bs cX6_lead 0 [3, 62, 3, 54, 4, 21, 4, 42, 180, 0, 36, 162, 0, 39, 42, 27, 21, 4, 182, 0, 85, 54, 5, 29] := hs_bs_of _ _ _ (by decide +kernel)
theorem dX6_lead_0 : decode cX6_lead 0 = .ok (.iconst 0, 1) := dc3 bqX6_lead_0 0 rfl rfl
theorem dX6_lead_1 : decode cX6_lead 1 = .ok (.istore_n 3, 1) := dc62 bqX6_lead_0 1 rfl rfl
theorem dX6_lead_2 : decode cX6_lead 2 = .ok (.iconst 0, 1) := dc3 bqX6_lead_0 2 rfl rfl
theorem dX6_lead_3 : decode cX6_lead 3 = .ok (.istore 4, 2) := dc54 bqX6_lead_0 3 rfl rfl
theorem dX6_lead_5 : decode cX6_lead 5 = .ok (.iload 4, 2) := dc21 bqX6_lead_0 5 rfl rfl
theorem dX6_lead_7 : decode cX6_lead 7 = .ok (.aload_n 0, 1) := dc42 bqX6_lead_0 7 rfl rfl
theorem dX6_lead_8 : decode cX6_lead 8 = .ok (.getfield 36, 3) := dc180 bqX6_lead_0 8 rfl rfl rfl
theorem dX6_lead_11 : decode cX6_lead 11 = .ok (.if_icmp .ge 39, 3) := dc162 bqX6_lead_0 11 rfl rfl rfl
theorem dX6_lead_14 : decode cX6_lead 14 = .ok (.aload_n 0, 1) := dc42 bqX6_lead_0 14 rfl rfl
theorem dX6_lead_15 : decode cX6_lead 15 = .ok (.iload_n 1, 1) := dc27 bqX6_lead_0 15 rfl rfl
theorem dX6_lead_16 : decode cX6_lead 16 = .ok (.iload 4, 2) := dc21 bqX6_lead_0 16 rfl rfl
theorem dX6_lead_18 : decode cX6_lead 18 = .ok (.invokevirtual 85, 3) := dc182 bqX6_lead_0 18 rfl rfl rfl
theorem dX6_lead_21 : decode cX6_lead 21 = .ok (.istore 5, 2) := dc54 bqX6_lead_0 21 rfl rfl
theorem dX6_lead_23 : decode cX6_lead 23 = .ok (.iload_n 3, 1) := dc29 bqX6_lead_0 23 rfl rfl
theorem bqX6_lead_24 : hs_bs cX6_lead 24 [28, 21, 4, 122, 4, 126, 4, 160, 0, 8, 21, 5, 167, 0, 6, 21, 5, 116, 96, 62, 132, 4, 1] := hs_bs_of _ _ _ (by decide +kernel)
theorem dX6_lead_24 : decode cX6_lead 24 = .ok (.iload_n 2, 1) := dc28 bqX6_lead_24 0 rfl rfl
theorem dX6_lead_25 : decode cX6_lead 25 = .ok (.iload 4, 2) := dc21 bqX6_lead_24 1 rfl rfl
theorem dX6_lead_27 : decode cX6_lead 27 = .ok (.ishr, 1) := dc122 bqX6_lead_24 3 rfl rfl
theorem dX6_lead_28 : decode cX6_lead 28 = .ok (.iconst 1, 1) := dc4 bqX6_lead_24 4 rfl rfl
theorem dX6_lead_29 : decode cX6_lead 29 = .ok (.iand, 1) := dc126 bqX6_lead_24 5 rfl rfl
theorem dX6_lead_30 : decode cX6_lead 30 = .ok (.iconst 1, 1) := dc4 bqX6_lead_24 6 rfl rfl
theorem dX6_lead_31 : decode cX6_lead 31 = .ok (.if_icmp .ne 8, 3) := dc160 bqX6_lead_24 7 rfl rfl rfl
theorem dX6_lead_34 : decode cX6_lead 34 = .ok (.iload 5, 2) := dc21 bqX6_lead_24 10 rfl rfl
theorem dX6_lead_36 : decode cX6_lead 36 = .ok (.goto 6, 3) := dc167 bqX6_lead_24 12 rfl rfl rfl
theorem dX6_lead_39 : decode cX6_lead 39 = .ok (.iload 5, 2) := dc21 bqX6_lead_24 15 rfl rfl
theorem dX6_lead_41 : decode cX6_lead 41 = .ok (.ineg, 1) := dc116 bqX6_lead_24 17 rfl rfl
theorem dX6_lead_42 : decode cX6_lead 42 = .ok (.iadd, 1) := dc96 bqX6_lead_24 18 rfl rfl
theorem dX6_lead_43 : decode cX6_lead 43 = .ok (.istore_n 3, 1) := dc62 bqX6_lead_24 19 rfl rfl
theorem dX6_lead_44 : decode cX6_lead 44 = .ok (.iinc 4 1, 3) := dc132 bqX6_lead_24 20 rfl rfl rfl
theorem bqX6_lead_47 : hs_bs cX6_lead 47 [167, 255, 214, 29, 172] := hs_bs_of _ _ _ (by decide +kernel)
theorem dX6_lead_47 : decode cX6_lead 47 = .ok (.goto (-42), 3) := dc167 bqX6_lead_47 0 rfl rfl rfl
theorem dX6_lead_50 : decode cX6_lead 50 = .ok (.iload_n 3, 1) := dc29 bqX6_lead_47 3 rfl rfl
theorem dX6_lead_51 : decode cX6_lead 51 = .ok (.ireturn, 1) := dc172 bqX6_lead_47 4 rfl rfl
theorem bqX6_leftOf_0 : hs_bs cX6_leftOf 0 [4, 27, 120, 4, 100, 172] := hs_bs_of _ _ _ (by decide +kernel)
theorem dX6_leftOf_0 : decode cX6_leftOf 0 = .ok (.iconst 1, 1) := dc4 bqX6_leftOf_0 0 rfl rfl
theorem dX6_leftOf_1 : decode cX6_leftOf 1 = .ok (.iload_n 1, 1) := dc27 bqX6_leftOf_0 1 rfl rfl
theorem dX6_leftOf_2 : decode cX6_leftOf 2 = .ok (.ishl, 1) := dc120 bqX6_leftOf_0 2 rfl rfl
theorem dX6_leftOf_3 : decode cX6_leftOf 3 = .ok (.iconst 1, 1) := dc4 bqX6_leftOf_0 3 rfl rfl
theorem dX6_leftOf_4 : decode cX6_leftOf 4 = .ok (.isub, 1) := dc100 bqX6_leftOf_0 4 rfl rfl
theorem dX6_leftOf_5 : decode cX6_leftOf 5 = .ok (.ireturn, 1) := dc172 bqX6_leftOf_0 5 rfl rfl
set_option maxRecDepth 20000 in
theorem gX6_verdict_X6_leftOf : GoodIn wsX6_verdict (wsV RX6 88 RX6 yX6_leftOf wsX6_leftOf) := hs_gC (hs_gV (hs_inG 3 60 rfl rfl) (hs_inG 3 61 rfl rfl) (hs_inG 3 62 rfl rfl) (hs_inG 1 2 rfl rfl) inC_X6_leftOf)
set_option maxRecDepth 20000 in
theorem gX6_verdict_X6_lead : GoodIn wsX6_verdict (wsV RX6 91 RX6 yX6_lead wsX6_lead) := hs_gC (hs_gV (hs_inG 3 64 rfl rfl) (hs_inG 3 65 rfl rfl) (hs_inG 3 66 rfl rfl) (hs_inG 1 2 rfl rfl) inC_X6_lead)
theorem bqX6_verdict_0 : hs_bs cX6_verdict 0 [42, 27, 42, 28, 182, 0, 88, 182, 0, 91, 62, 29, 184, 0, 94, 42, 180, 0, 43, 163, 0, 5, 3, 172] := hs_bs_of _ _ _ (by decide +kernel)
theorem dX6_verdict_0 : decode cX6_verdict 0 = .ok (.aload_n 0, 1) := dc42 bqX6_verdict_0 0 rfl rfl
theorem dX6_verdict_1 : decode cX6_verdict 1 = .ok (.iload_n 1, 1) := dc27 bqX6_verdict_0 1 rfl rfl
theorem dX6_verdict_2 : decode cX6_verdict 2 = .ok (.aload_n 0, 1) := dc42 bqX6_verdict_0 2 rfl rfl
theorem dX6_verdict_3 : decode cX6_verdict 3 = .ok (.iload_n 2, 1) := dc28 bqX6_verdict_0 3 rfl rfl
theorem dX6_verdict_4 : decode cX6_verdict 4 = .ok (.invokevirtual 88, 3) := dc182 bqX6_verdict_0 4 rfl rfl rfl
theorem dX6_verdict_7 : decode cX6_verdict 7 = .ok (.invokevirtual 91, 3) := dc182 bqX6_verdict_0 7 rfl rfl rfl
theorem dX6_verdict_10 : decode cX6_verdict 10 = .ok (.istore_n 3, 1) := dc62 bqX6_verdict_0 10 rfl rfl
theorem dX6_verdict_11 : decode cX6_verdict 11 = .ok (.iload_n 3, 1) := dc29 bqX6_verdict_0 11 rfl rfl
theorem dX6_verdict_12 : decode cX6_verdict 12 = .ok (.invokestatic 94, 3) := dc184 bqX6_verdict_0 12 rfl rfl rfl
theorem dX6_verdict_15 : decode cX6_verdict 15 = .ok (.aload_n 0, 1) := dc42 bqX6_verdict_0 15 rfl rfl
theorem dX6_verdict_16 : decode cX6_verdict 16 = .ok (.getfield 43, 3) := dc180 bqX6_verdict_0 16 rfl rfl rfl
theorem dX6_verdict_19 : decode cX6_verdict 19 = .ok (.if_icmp .gt 5, 3) := dc163 bqX6_verdict_0 19 rfl rfl rfl
theorem dX6_verdict_22 : decode cX6_verdict 22 = .ok (.iconst 0, 1) := dc3 bqX6_verdict_0 22 rfl rfl
theorem dX6_verdict_23 : decode cX6_verdict 23 = .ok (.ireturn, 1) := dc172 bqX6_verdict_0 23 rfl rfl
theorem bqX6_verdict_24 : hs_bs cX6_verdict 24 [29, 158, 0, 7, 4, 167, 0, 4, 5, 172] := hs_bs_of _ _ _ (by decide +kernel)
theorem dX6_verdict_24 : decode cX6_verdict 24 = .ok (.iload_n 3, 1) := dc29 bqX6_verdict_24 0 rfl rfl
theorem dX6_verdict_25 : decode cX6_verdict 25 = .ok (.ifCond .le 7, 3) := dc158 bqX6_verdict_24 1 rfl rfl rfl
theorem dX6_verdict_28 : decode cX6_verdict 28 = .ok (.iconst 1, 1) := dc4 bqX6_verdict_24 4 rfl rfl
theorem dX6_verdict_29 : decode cX6_verdict 29 = .ok (.goto 4, 3) := dc167 bqX6_verdict_24 5 rfl rfl rfl
theorem dX6_verdict_32 : decode cX6_verdict 32 = .ok (.iconst 2, 1) := dc5 bqX6_verdict_24 8 rfl rfl
theorem dX6_verdict_33 : decode cX6_verdict 33 = .ok (.ireturn, 1) := dc172 bqX6_verdict_24 9 rfl rfl
set_option maxRecDepth 20000 in
theorem gX6_justTo_X6_verdict : GoodIn wsX6_justTo (wsV RX6 97 RX6 yX6_verdict wsX6_verdict) := hs_gC (hs_gV (hs_inG 3 79 rfl rfl) (hs_inG 3 57 rfl rfl) (hs_inG 3 58 rfl rfl) (hs_inG 1 2 rfl rfl) inC_X6_verdict)
theorem bqX6_justTo_0 : hs_bs cX6_justTo 0 [3, 61, 3, 62, 29, 42, 180, 0, 40, 162, 0, 24, 42, 29, 27, 182, 0, 97, 154, 0, 9, 28, 4, 29] := hs_bs_of _ _ _ (by decide +kernel)
theorem dX6_justTo_0 : decode cX6_justTo 0 = .ok (.iconst 0, 1) := dc3 bqX6_justTo_0 0 rfl rfl
theorem dX6_justTo_1 : decode cX6_justTo 1 = .ok (.istore_n 2, 1) := dc61 bqX6_justTo_0 1 rfl rfl
theorem dX6_justTo_2 : decode cX6_justTo 2 = .ok (.iconst 0, 1) := dc3 bqX6_justTo_0 2 rfl rfl
theorem dX6_justTo_3 : decode cX6_justTo 3 = .ok (.istore_n 3, 1) := dc62 bqX6_justTo_0 3 rfl rfl
theorem dX6_justTo_4 : decode cX6_justTo 4 = .ok (.iload_n 3, 1) := dc29 bqX6_justTo_0 4 rfl rfl
theorem dX6_justTo_5 : decode cX6_justTo 5 = .ok (.aload_n 0, 1) := dc42 bqX6_justTo_0 5 rfl rfl
theorem dX6_justTo_6 : decode cX6_justTo 6 = .ok (.getfield 40, 3) := dc180 bqX6_justTo_0 6 rfl rfl rfl
theorem dX6_justTo_9 : decode cX6_justTo 9 = .ok (.if_icmp .ge 24, 3) := dc162 bqX6_justTo_0 9 rfl rfl rfl
theorem dX6_justTo_12 : decode cX6_justTo 12 = .ok (.aload_n 0, 1) := dc42 bqX6_justTo_0 12 rfl rfl
theorem dX6_justTo_13 : decode cX6_justTo 13 = .ok (.iload_n 3, 1) := dc29 bqX6_justTo_0 13 rfl rfl
theorem dX6_justTo_14 : decode cX6_justTo 14 = .ok (.iload_n 1, 1) := dc27 bqX6_justTo_0 14 rfl rfl
theorem dX6_justTo_15 : decode cX6_justTo 15 = .ok (.invokevirtual 97, 3) := dc182 bqX6_justTo_0 15 rfl rfl rfl
theorem dX6_justTo_18 : decode cX6_justTo 18 = .ok (.ifCond .ne 9, 3) := dc154 bqX6_justTo_0 18 rfl rfl rfl
theorem dX6_justTo_21 : decode cX6_justTo 21 = .ok (.iload_n 2, 1) := dc28 bqX6_justTo_0 21 rfl rfl
theorem dX6_justTo_22 : decode cX6_justTo 22 = .ok (.iconst 1, 1) := dc4 bqX6_justTo_0 22 rfl rfl
theorem dX6_justTo_23 : decode cX6_justTo 23 = .ok (.iload_n 3, 1) := dc29 bqX6_justTo_0 23 rfl rfl
theorem bqX6_justTo_24 : hs_bs cX6_justTo 24 [120, 128, 61, 132, 3, 1, 167, 255, 230, 28, 172] := hs_bs_of _ _ _ (by decide +kernel)
theorem dX6_justTo_24 : decode cX6_justTo 24 = .ok (.ishl, 1) := dc120 bqX6_justTo_24 0 rfl rfl
theorem dX6_justTo_25 : decode cX6_justTo 25 = .ok (.ior, 1) := dc128 bqX6_justTo_24 1 rfl rfl
theorem dX6_justTo_26 : decode cX6_justTo 26 = .ok (.istore_n 2, 1) := dc61 bqX6_justTo_24 2 rfl rfl
theorem dX6_justTo_27 : decode cX6_justTo 27 = .ok (.iinc 3 1, 3) := dc132 bqX6_justTo_24 3 rfl rfl rfl
theorem dX6_justTo_30 : decode cX6_justTo 30 = .ok (.goto (-26), 3) := dc167 bqX6_justTo_24 6 rfl rfl rfl
theorem dX6_justTo_33 : decode cX6_justTo 33 = .ok (.iload_n 2, 1) := dc28 bqX6_justTo_24 9 rfl rfl
theorem dX6_justTo_34 : decode cX6_justTo 34 = .ok (.ireturn, 1) := dc172 bqX6_justTo_24 10 rfl rfl
set_option maxRecDepth 20000 in
theorem gX6_justInAll_X6_allCells : GoodIn wsX6_justInAll (wsV RX6 100 RX6 yX6_allCells wsX6_allCells) := hs_gC (hs_gV (hs_inG 3 238 rfl rfl) (hs_inG 3 37 rfl rfl) (hs_inG 3 38 rfl rfl) (hs_inG 1 2 rfl rfl) inC_X6_allCells)
set_option maxRecDepth 20000 in
theorem gX6_justInAll_X6_worthOf : GoodIn wsX6_justInAll (wsV RX6 104 RX6 yX6_worthOf wsX6_worthOf) := hs_gC (hs_gV (hs_inG 3 239 rfl rfl) (hs_inG 3 41 rfl rfl) (hs_inG 3 42 rfl rfl) (hs_inG 1 2 rfl rfl) inC_X6_worthOf)
set_option maxRecDepth 20000 in
theorem gX6_justInAll_X6_worthOfCell : GoodIn wsX6_justInAll (wsV RX6 85 RX6 yX6_worthOfCell wsX6_worthOfCell) := hs_gC (hs_gV (hs_inG 3 44 rfl rfl) (hs_inG 3 45 rfl rfl) (hs_inG 3 46 rfl rfl) (hs_inG 1 2 rfl rfl) inC_X6_worthOfCell)
theorem bqX6_justInAll_0 : hs_bs cX6_justInAll 0 [3, 60, 3, 61, 28, 42, 180, 0, 40, 162, 0, 66, 42, 28, 42, 182, 0, 100, 182, 0, 104, 116, 62, 4] := hs_bs_of _ _ _ (by decide +kernel)
theorem dX6_justInAll_0 : decode cX6_justInAll 0 = .ok (.iconst 0, 1) := dc3 bqX6_justInAll_0 0 rfl rfl
theorem dX6_justInAll_1 : decode cX6_justInAll 1 = .ok (.istore_n 1, 1) := dc60 bqX6_justInAll_0 1 rfl rfl
theorem dX6_justInAll_2 : decode cX6_justInAll 2 = .ok (.iconst 0, 1) := dc3 bqX6_justInAll_0 2 rfl rfl
theorem dX6_justInAll_3 : decode cX6_justInAll 3 = .ok (.istore_n 2, 1) := dc61 bqX6_justInAll_0 3 rfl rfl
theorem dX6_justInAll_4 : decode cX6_justInAll 4 = .ok (.iload_n 2, 1) := dc28 bqX6_justInAll_0 4 rfl rfl
theorem dX6_justInAll_5 : decode cX6_justInAll 5 = .ok (.aload_n 0, 1) := dc42 bqX6_justInAll_0 5 rfl rfl
theorem dX6_justInAll_6 : decode cX6_justInAll 6 = .ok (.getfield 40, 3) := dc180 bqX6_justInAll_0 6 rfl rfl rfl
theorem dX6_justInAll_9 : decode cX6_justInAll 9 = .ok (.if_icmp .ge 66, 3) := dc162 bqX6_justInAll_0 9 rfl rfl rfl
theorem dX6_justInAll_12 : decode cX6_justInAll 12 = .ok (.aload_n 0, 1) := dc42 bqX6_justInAll_0 12 rfl rfl
theorem dX6_justInAll_13 : decode cX6_justInAll 13 = .ok (.iload_n 2, 1) := dc28 bqX6_justInAll_0 13 rfl rfl
theorem dX6_justInAll_14 : decode cX6_justInAll 14 = .ok (.aload_n 0, 1) := dc42 bqX6_justInAll_0 14 rfl rfl
theorem dX6_justInAll_15 : decode cX6_justInAll 15 = .ok (.invokevirtual 100, 3) := dc182 bqX6_justInAll_0 15 rfl rfl rfl
theorem dX6_justInAll_18 : decode cX6_justInAll 18 = .ok (.invokevirtual 104, 3) := dc182 bqX6_justInAll_0 18 rfl rfl rfl
theorem dX6_justInAll_21 : decode cX6_justInAll 21 = .ok (.ineg, 1) := dc116 bqX6_justInAll_0 21 rfl rfl
theorem dX6_justInAll_22 : decode cX6_justInAll 22 = .ok (.istore_n 3, 1) := dc62 bqX6_justInAll_0 22 rfl rfl
theorem dX6_justInAll_23 : decode cX6_justInAll 23 = .ok (.iconst 1, 1) := dc4 bqX6_justInAll_0 23 rfl rfl
theorem bqX6_justInAll_24 : hs_bs cX6_justInAll 24 [54, 4, 21, 4, 42, 180, 0, 36, 162, 0, 37, 29, 5, 42, 28, 21, 4, 4, 100, 182, 0, 85, 104, 96] := hs_bs_of _ _ _ (by decide +kernel)
theorem dX6_justInAll_24 : decode cX6_justInAll 24 = .ok (.istore 4, 2) := dc54 bqX6_justInAll_24 0 rfl rfl
theorem dX6_justInAll_26 : decode cX6_justInAll 26 = .ok (.iload 4, 2) := dc21 bqX6_justInAll_24 2 rfl rfl
theorem dX6_justInAll_28 : decode cX6_justInAll 28 = .ok (.aload_n 0, 1) := dc42 bqX6_justInAll_24 4 rfl rfl
theorem dX6_justInAll_29 : decode cX6_justInAll 29 = .ok (.getfield 36, 3) := dc180 bqX6_justInAll_24 5 rfl rfl rfl
theorem dX6_justInAll_32 : decode cX6_justInAll 32 = .ok (.if_icmp .ge 37, 3) := dc162 bqX6_justInAll_24 8 rfl rfl rfl
theorem dX6_justInAll_35 : decode cX6_justInAll 35 = .ok (.iload_n 3, 1) := dc29 bqX6_justInAll_24 11 rfl rfl
theorem dX6_justInAll_36 : decode cX6_justInAll 36 = .ok (.iconst 2, 1) := dc5 bqX6_justInAll_24 12 rfl rfl
theorem dX6_justInAll_37 : decode cX6_justInAll 37 = .ok (.aload_n 0, 1) := dc42 bqX6_justInAll_24 13 rfl rfl
theorem dX6_justInAll_38 : decode cX6_justInAll 38 = .ok (.iload_n 2, 1) := dc28 bqX6_justInAll_24 14 rfl rfl
theorem dX6_justInAll_39 : decode cX6_justInAll 39 = .ok (.iload 4, 2) := dc21 bqX6_justInAll_24 15 rfl rfl
theorem dX6_justInAll_41 : decode cX6_justInAll 41 = .ok (.iconst 1, 1) := dc4 bqX6_justInAll_24 17 rfl rfl
theorem dX6_justInAll_42 : decode cX6_justInAll 42 = .ok (.isub, 1) := dc100 bqX6_justInAll_24 18 rfl rfl
theorem dX6_justInAll_43 : decode cX6_justInAll 43 = .ok (.invokevirtual 85, 3) := dc182 bqX6_justInAll_24 19 rfl rfl rfl
theorem dX6_justInAll_46 : decode cX6_justInAll 46 = .ok (.imul, 1) := dc104 bqX6_justInAll_24 22 rfl rfl
theorem dX6_justInAll_47 : decode cX6_justInAll 47 = .ok (.iadd, 1) := dc96 bqX6_justInAll_24 23 rfl rfl
theorem bqX6_justInAll_48 : hs_bs cX6_justInAll 48 [62, 29, 184, 0, 94, 42, 180, 0, 43, 163, 0, 6, 132, 1, 1, 132, 4, 1, 167, 255, 216, 132, 2, 1] := hs_bs_of _ _ _ (by decide +kernel)
theorem dX6_justInAll_48 : decode cX6_justInAll 48 = .ok (.istore_n 3, 1) := dc62 bqX6_justInAll_48 0 rfl rfl
theorem dX6_justInAll_49 : decode cX6_justInAll 49 = .ok (.iload_n 3, 1) := dc29 bqX6_justInAll_48 1 rfl rfl
theorem dX6_justInAll_50 : decode cX6_justInAll 50 = .ok (.invokestatic 94, 3) := dc184 bqX6_justInAll_48 2 rfl rfl rfl
theorem dX6_justInAll_53 : decode cX6_justInAll 53 = .ok (.aload_n 0, 1) := dc42 bqX6_justInAll_48 5 rfl rfl
theorem dX6_justInAll_54 : decode cX6_justInAll 54 = .ok (.getfield 43, 3) := dc180 bqX6_justInAll_48 6 rfl rfl rfl
theorem dX6_justInAll_57 : decode cX6_justInAll 57 = .ok (.if_icmp .gt 6, 3) := dc163 bqX6_justInAll_48 9 rfl rfl rfl
theorem dX6_justInAll_60 : decode cX6_justInAll 60 = .ok (.iinc 1 1, 3) := dc132 bqX6_justInAll_48 12 rfl rfl rfl
theorem dX6_justInAll_63 : decode cX6_justInAll 63 = .ok (.iinc 4 1, 3) := dc132 bqX6_justInAll_48 15 rfl rfl rfl
theorem dX6_justInAll_66 : decode cX6_justInAll 66 = .ok (.goto (-40), 3) := dc167 bqX6_justInAll_48 18 rfl rfl rfl
theorem dX6_justInAll_69 : decode cX6_justInAll 69 = .ok (.iinc 2 1, 3) := dc132 bqX6_justInAll_48 21 rfl rfl rfl
theorem bqX6_justInAll_72 : hs_bs cX6_justInAll 72 [167, 255, 188, 27, 172] := hs_bs_of _ _ _ (by decide +kernel)
theorem dX6_justInAll_72 : decode cX6_justInAll 72 = .ok (.goto (-68), 3) := dc167 bqX6_justInAll_72 0 rfl rfl rfl
theorem dX6_justInAll_75 : decode cX6_justInAll 75 = .ok (.iload_n 1, 1) := dc27 bqX6_justInAll_72 3 rfl rfl
theorem dX6_justInAll_76 : decode cX6_justInAll 76 = .ok (.ireturn, 1) := dc172 bqX6_justInAll_72 4 rfl rfl
set_option maxRecDepth 20000 in
theorem gX6_isAsSeen_X6_isCut : GoodIn wsX6_isAsSeen (wsV RX6 107 RX6 yX6_isCut wsX6_isCut) := hs_gC (hs_gV (hs_inG 3 224 rfl rfl) (hs_inG 3 53 rfl rfl) (hs_inG 3 54 rfl rfl) (hs_inG 1 2 rfl rfl) inC_X6_isCut)
set_option maxRecDepth 20000 in
theorem gX6_isAsSeen_X6_verdict : GoodIn wsX6_isAsSeen (wsV RX6 97 RX6 yX6_verdict wsX6_verdict) := hs_gC (hs_gV (hs_inG 3 79 rfl rfl) (hs_inG 3 57 rfl rfl) (hs_inG 3 58 rfl rfl) (hs_inG 1 2 rfl rfl) inC_X6_verdict)
theorem bqX6_isAsSeen_0 : hs_bs cX6_isAsSeen 0 [3, 60, 27, 42, 180, 0, 58, 162, 0, 49, 42, 42, 180, 0, 27, 27, 46, 182, 0, 107, 153, 0, 28, 42] := hs_bs_of _ _ _ (by decide +kernel)
theorem dX6_isAsSeen_0 : decode cX6_isAsSeen 0 = .ok (.iconst 0, 1) := dc3 bqX6_isAsSeen_0 0 rfl rfl
theorem dX6_isAsSeen_1 : decode cX6_isAsSeen 1 = .ok (.istore_n 1, 1) := dc60 bqX6_isAsSeen_0 1 rfl rfl
theorem dX6_isAsSeen_2 : decode cX6_isAsSeen 2 = .ok (.iload_n 1, 1) := dc27 bqX6_isAsSeen_0 2 rfl rfl
theorem dX6_isAsSeen_3 : decode cX6_isAsSeen 3 = .ok (.aload_n 0, 1) := dc42 bqX6_isAsSeen_0 3 rfl rfl
theorem dX6_isAsSeen_4 : decode cX6_isAsSeen 4 = .ok (.getfield 58, 3) := dc180 bqX6_isAsSeen_0 4 rfl rfl rfl
theorem dX6_isAsSeen_7 : decode cX6_isAsSeen 7 = .ok (.if_icmp .ge 49, 3) := dc162 bqX6_isAsSeen_0 7 rfl rfl rfl
theorem dX6_isAsSeen_10 : decode cX6_isAsSeen 10 = .ok (.aload_n 0, 1) := dc42 bqX6_isAsSeen_0 10 rfl rfl
theorem dX6_isAsSeen_11 : decode cX6_isAsSeen 11 = .ok (.aload_n 0, 1) := dc42 bqX6_isAsSeen_0 11 rfl rfl
theorem dX6_isAsSeen_12 : decode cX6_isAsSeen 12 = .ok (.getfield 27, 3) := dc180 bqX6_isAsSeen_0 12 rfl rfl rfl
theorem dX6_isAsSeen_15 : decode cX6_isAsSeen 15 = .ok (.iload_n 1, 1) := dc27 bqX6_isAsSeen_0 15 rfl rfl
theorem dX6_isAsSeen_16 : decode cX6_isAsSeen 16 = .ok (.iaload, 1) := dc46 bqX6_isAsSeen_0 16 rfl rfl
theorem dX6_isAsSeen_17 : decode cX6_isAsSeen 17 = .ok (.invokevirtual 107, 3) := dc182 bqX6_isAsSeen_0 17 rfl rfl rfl
theorem dX6_isAsSeen_20 : decode cX6_isAsSeen 20 = .ok (.ifCond .eq 28, 3) := dc153 bqX6_isAsSeen_0 20 rfl rfl rfl
theorem dX6_isAsSeen_23 : decode cX6_isAsSeen 23 = .ok (.aload_n 0, 1) := dc42 bqX6_isAsSeen_0 23 rfl rfl
theorem bqX6_isAsSeen_24 : hs_bs cX6_isAsSeen 24 [42, 180, 0, 24, 27, 46, 42, 180, 0, 27, 27, 46, 182, 0, 97, 42, 180, 0, 30, 27, 46, 159, 0, 5] := hs_bs_of _ _ _ (by decide +kernel)
theorem dX6_isAsSeen_24 : decode cX6_isAsSeen 24 = .ok (.aload_n 0, 1) := dc42 bqX6_isAsSeen_24 0 rfl rfl
theorem dX6_isAsSeen_25 : decode cX6_isAsSeen 25 = .ok (.getfield 24, 3) := dc180 bqX6_isAsSeen_24 1 rfl rfl rfl
theorem dX6_isAsSeen_28 : decode cX6_isAsSeen 28 = .ok (.iload_n 1, 1) := dc27 bqX6_isAsSeen_24 4 rfl rfl
theorem dX6_isAsSeen_29 : decode cX6_isAsSeen 29 = .ok (.iaload, 1) := dc46 bqX6_isAsSeen_24 5 rfl rfl
theorem dX6_isAsSeen_30 : decode cX6_isAsSeen 30 = .ok (.aload_n 0, 1) := dc42 bqX6_isAsSeen_24 6 rfl rfl
theorem dX6_isAsSeen_31 : decode cX6_isAsSeen 31 = .ok (.getfield 27, 3) := dc180 bqX6_isAsSeen_24 7 rfl rfl rfl
theorem dX6_isAsSeen_34 : decode cX6_isAsSeen 34 = .ok (.iload_n 1, 1) := dc27 bqX6_isAsSeen_24 10 rfl rfl
theorem dX6_isAsSeen_35 : decode cX6_isAsSeen 35 = .ok (.iaload, 1) := dc46 bqX6_isAsSeen_24 11 rfl rfl
theorem dX6_isAsSeen_36 : decode cX6_isAsSeen 36 = .ok (.invokevirtual 97, 3) := dc182 bqX6_isAsSeen_24 12 rfl rfl rfl
theorem dX6_isAsSeen_39 : decode cX6_isAsSeen 39 = .ok (.aload_n 0, 1) := dc42 bqX6_isAsSeen_24 15 rfl rfl
theorem dX6_isAsSeen_40 : decode cX6_isAsSeen 40 = .ok (.getfield 30, 3) := dc180 bqX6_isAsSeen_24 16 rfl rfl rfl
theorem dX6_isAsSeen_43 : decode cX6_isAsSeen 43 = .ok (.iload_n 1, 1) := dc27 bqX6_isAsSeen_24 19 rfl rfl
theorem dX6_isAsSeen_44 : decode cX6_isAsSeen 44 = .ok (.iaload, 1) := dc46 bqX6_isAsSeen_24 20 rfl rfl
theorem dX6_isAsSeen_45 : decode cX6_isAsSeen 45 = .ok (.if_icmp .eq 5, 3) := dc159 bqX6_isAsSeen_24 21 rfl rfl rfl
theorem bqX6_isAsSeen_48 : hs_bs cX6_isAsSeen 48 [3, 172, 132, 1, 1, 167, 255, 205, 4, 172] := hs_bs_of _ _ _ (by decide +kernel)
theorem dX6_isAsSeen_48 : decode cX6_isAsSeen 48 = .ok (.iconst 0, 1) := dc3 bqX6_isAsSeen_48 0 rfl rfl
theorem dX6_isAsSeen_49 : decode cX6_isAsSeen 49 = .ok (.ireturn, 1) := dc172 bqX6_isAsSeen_48 1 rfl rfl
theorem dX6_isAsSeen_50 : decode cX6_isAsSeen 50 = .ok (.iinc 1 1, 3) := dc132 bqX6_isAsSeen_48 2 rfl rfl rfl
theorem dX6_isAsSeen_53 : decode cX6_isAsSeen 53 = .ok (.goto (-51), 3) := dc167 bqX6_isAsSeen_48 5 rfl rfl rfl
theorem dX6_isAsSeen_56 : decode cX6_isAsSeen 56 = .ok (.iconst 1, 1) := dc4 bqX6_isAsSeen_48 8 rfl rfl
theorem dX6_isAsSeen_57 : decode cX6_isAsSeen 57 = .ok (.ireturn, 1) := dc172 bqX6_isAsSeen_48 9 rfl rfl
set_option maxRecDepth 20000 in
theorem gX7_init_X6_init : GoodIn wsX7_init (wsX6_init) := hs_gC (hs_gT inC_X6_init)
set_option maxRecDepth 20000 in
theorem gX7_init_X5_init_n29 : GoodIn wsX7_init (wsX5_init) := hs_gC (hs_gT inC_X5_init)
set_option maxRecDepth 20000 in
theorem gX7_init_X2_init_n36 : GoodIn wsX7_init (wsX2_init) := hs_gC (hs_gT inC_X2_init)
set_option maxRecDepth 20000 in
theorem gX7_init_X0_init_n43 : GoodIn wsX7_init (wsX0_init) := hs_gC (hs_gT inC_X0_init)
set_option maxRecDepth 20000 in
theorem gX7_init_X3_init_n54 : GoodIn wsX7_init (wsX3_init) := hs_gC (hs_gT inC_X3_init)
theorem bqX7_init_0 : hs_bs cX7_init 0 [42, 183, 0, 1, 42, 187, 0, 7, 89, 183, 0, 9, 181, 0, 10, 42, 187, 0, 7, 89, 183, 0, 9] := hs_bs_of _ _ _ (by decide +kernel)
theorem dX7_init_0 : decode cX7_init 0 = .ok (.aload_n 0, 1) := dc42 bqX7_init_0 0 rfl rfl
theorem dX7_init_1 : decode cX7_init 1 = .ok (.invokespecial 1, 3) := dc183 bqX7_init_0 1 rfl rfl rfl
theorem dX7_init_4 : decode cX7_init 4 = .ok (.aload_n 0, 1) := dc42 bqX7_init_0 4 rfl rfl
theorem dX7_init_5 : decode cX7_init 5 = .ok (.new 7, 3) := dc187 bqX7_init_0 5 rfl rfl rfl
theorem dX7_init_8 : decode cX7_init 8 = .ok (.dup, 1) := dc89 bqX7_init_0 8 rfl rfl
theorem dX7_init_9 : decode cX7_init 9 = .ok (.invokespecial 9, 3) := dc183 bqX7_init_0 9 rfl rfl rfl
theorem dX7_init_12 : decode cX7_init 12 = .ok (.putfield 10, 3) := dc181 bqX7_init_0 12 rfl rfl rfl
theorem dX7_init_15 : decode cX7_init 15 = .ok (.aload_n 0, 1) := dc42 bqX7_init_0 15 rfl rfl
theorem dX7_init_16 : decode cX7_init 16 = .ok (.new 7, 3) := dc187 bqX7_init_0 16 rfl rfl rfl
theorem dX7_init_19 : decode cX7_init 19 = .ok (.dup, 1) := dc89 bqX7_init_0 19 rfl rfl
theorem dX7_init_20 : decode cX7_init 20 = .ok (.invokespecial 9, 3) := dc183 bqX7_init_0 20 rfl rfl rfl
theorem bqX7_init_23 : hs_bs cX7_init 23 [181, 0, 16, 42, 5, 189, 0, 7, 181, 0, 19, 42, 5, 188, 4, 181, 0, 23, 42, 187, 0, 27, 89] := hs_bs_of _ _ _ (by decide +kernel)
theorem dX7_init_23 : decode cX7_init 23 = .ok (.putfield 16, 3) := dc181 bqX7_init_23 0 rfl rfl rfl
theorem dX7_init_26 : decode cX7_init 26 = .ok (.aload_n 0, 1) := dc42 bqX7_init_23 3 rfl rfl
theorem dX7_init_27 : decode cX7_init 27 = .ok (.iconst 2, 1) := dc5 bqX7_init_23 4 rfl rfl
theorem dX7_init_28 : decode cX7_init 28 = .ok (.anewarray 7, 3) := dc189 bqX7_init_23 5 rfl rfl rfl
theorem dX7_init_31 : decode cX7_init 31 = .ok (.putfield 19, 3) := dc181 bqX7_init_23 8 rfl rfl rfl
theorem dX7_init_34 : decode cX7_init 34 = .ok (.aload_n 0, 1) := dc42 bqX7_init_23 11 rfl rfl
theorem dX7_init_35 : decode cX7_init 35 = .ok (.iconst 2, 1) := dc5 bqX7_init_23 12 rfl rfl
theorem dX7_init_36 : decode cX7_init 36 = .ok (.newarray .boolean, 2) := by decide +kernel
theorem dX7_init_38 : decode cX7_init 38 = .ok (.putfield 23, 3) := dc181 bqX7_init_23 15 rfl rfl rfl
theorem dX7_init_41 : decode cX7_init 41 = .ok (.aload_n 0, 1) := dc42 bqX7_init_23 18 rfl rfl
theorem dX7_init_42 : decode cX7_init 42 = .ok (.new 27, 3) := dc187 bqX7_init_23 19 rfl rfl rfl
theorem dX7_init_45 : decode cX7_init 45 = .ok (.dup, 1) := dc89 bqX7_init_23 22 rfl rfl
theorem bqX7_init_46 : hs_bs cX7_init 46 [183, 0, 29, 181, 0, 30, 42, 187, 0, 34, 89, 183, 0, 36, 181, 0, 37, 42, 187, 0, 41, 89] := hs_bs_of _ _ _ (by decide +kernel)
theorem dX7_init_46 : decode cX7_init 46 = .ok (.invokespecial 29, 3) := dc183 bqX7_init_46 0 rfl rfl rfl
theorem dX7_init_49 : decode cX7_init 49 = .ok (.putfield 30, 3) := dc181 bqX7_init_46 3 rfl rfl rfl
theorem dX7_init_52 : decode cX7_init 52 = .ok (.aload_n 0, 1) := dc42 bqX7_init_46 6 rfl rfl
theorem dX7_init_53 : decode cX7_init 53 = .ok (.new 34, 3) := dc187 bqX7_init_46 7 rfl rfl rfl
theorem dX7_init_56 : decode cX7_init 56 = .ok (.dup, 1) := dc89 bqX7_init_46 10 rfl rfl
theorem dX7_init_57 : decode cX7_init 57 = .ok (.invokespecial 36, 3) := dc183 bqX7_init_46 11 rfl rfl rfl
theorem dX7_init_60 : decode cX7_init 60 = .ok (.putfield 37, 3) := dc181 bqX7_init_46 14 rfl rfl rfl
theorem dX7_init_63 : decode cX7_init 63 = .ok (.aload_n 0, 1) := dc42 bqX7_init_46 17 rfl rfl
theorem dX7_init_64 : decode cX7_init 64 = .ok (.new 41, 3) := dc187 bqX7_init_46 18 rfl rfl rfl
theorem dX7_init_67 : decode cX7_init 67 = .ok (.dup, 1) := dc89 bqX7_init_46 21 rfl rfl
theorem bqX7_init_68 : hs_bs cX7_init 68 [183, 0, 43, 181, 0, 44, 42, 7, 189, 0, 48, 181, 0, 50, 3, 60, 27, 5, 162, 0, 22, 42] := hs_bs_of _ _ _ (by decide +kernel)
theorem dX7_init_68 : decode cX7_init 68 = .ok (.invokespecial 43, 3) := dc183 bqX7_init_68 0 rfl rfl rfl
theorem dX7_init_71 : decode cX7_init 71 = .ok (.putfield 44, 3) := dc181 bqX7_init_68 3 rfl rfl rfl
theorem dX7_init_74 : decode cX7_init 74 = .ok (.aload_n 0, 1) := dc42 bqX7_init_68 6 rfl rfl
theorem dX7_init_75 : decode cX7_init 75 = .ok (.iconst 4, 1) := dc7 bqX7_init_68 7 rfl rfl
theorem dX7_init_76 : decode cX7_init 76 = .ok (.anewarray 48, 3) := dc189 bqX7_init_68 8 rfl rfl rfl
theorem dX7_init_79 : decode cX7_init 79 = .ok (.putfield 50, 3) := dc181 bqX7_init_68 11 rfl rfl rfl
theorem dX7_init_82 : decode cX7_init 82 = .ok (.iconst 0, 1) := dc3 bqX7_init_68 14 rfl rfl
theorem dX7_init_83 : decode cX7_init 83 = .ok (.istore_n 1, 1) := dc60 bqX7_init_68 15 rfl rfl
theorem dX7_init_84 : decode cX7_init 84 = .ok (.iload_n 1, 1) := dc27 bqX7_init_68 16 rfl rfl
theorem dX7_init_85 : decode cX7_init 85 = .ok (.iconst 2, 1) := dc5 bqX7_init_68 17 rfl rfl
theorem dX7_init_86 : decode cX7_init 86 = .ok (.if_icmp .ge 22, 3) := dc162 bqX7_init_68 18 rfl rfl rfl
theorem dX7_init_89 : decode cX7_init 89 = .ok (.aload_n 0, 1) := dc42 bqX7_init_68 21 rfl rfl
theorem bqX7_init_90 : hs_bs cX7_init 90 [180, 0, 19, 27, 187, 0, 7, 89, 183, 0, 9, 83, 132, 1, 1, 167, 255, 235, 3, 60, 27, 7] := hs_bs_of _ _ _ (by decide +kernel)
theorem dX7_init_90 : decode cX7_init 90 = .ok (.getfield 19, 3) := dc180 bqX7_init_90 0 rfl rfl rfl
theorem dX7_init_93 : decode cX7_init 93 = .ok (.iload_n 1, 1) := dc27 bqX7_init_90 3 rfl rfl
theorem dX7_init_94 : decode cX7_init 94 = .ok (.new 7, 3) := dc187 bqX7_init_90 4 rfl rfl rfl
theorem dX7_init_97 : decode cX7_init 97 = .ok (.dup, 1) := dc89 bqX7_init_90 7 rfl rfl
theorem dX7_init_98 : decode cX7_init 98 = .ok (.invokespecial 9, 3) := dc183 bqX7_init_90 8 rfl rfl rfl
theorem dX7_init_101 : decode cX7_init 101 = .ok (.aastore, 1) := dc83 bqX7_init_90 11 rfl rfl
theorem dX7_init_102 : decode cX7_init 102 = .ok (.iinc 1 1, 3) := dc132 bqX7_init_90 12 rfl rfl rfl
theorem dX7_init_105 : decode cX7_init 105 = .ok (.goto (-21), 3) := dc167 bqX7_init_90 15 rfl rfl rfl
theorem dX7_init_108 : decode cX7_init 108 = .ok (.iconst 0, 1) := dc3 bqX7_init_90 18 rfl rfl
theorem dX7_init_109 : decode cX7_init 109 = .ok (.istore_n 1, 1) := dc60 bqX7_init_90 19 rfl rfl
theorem dX7_init_110 : decode cX7_init 110 = .ok (.iload_n 1, 1) := dc27 bqX7_init_90 20 rfl rfl
theorem dX7_init_111 : decode cX7_init 111 = .ok (.iconst 4, 1) := dc7 bqX7_init_90 21 rfl rfl
theorem bqX7_init_112 : hs_bs cX7_init 112 [162, 0, 22, 42, 180, 0, 50, 27, 187, 0, 48, 89, 183, 0, 54, 83, 132, 1, 1, 167, 255, 235, 177] := hs_bs_of _ _ _ (by decide +kernel)
theorem dX7_init_112 : decode cX7_init 112 = .ok (.if_icmp .ge 22, 3) := dc162 bqX7_init_112 0 rfl rfl rfl
theorem dX7_init_115 : decode cX7_init 115 = .ok (.aload_n 0, 1) := dc42 bqX7_init_112 3 rfl rfl
theorem dX7_init_116 : decode cX7_init 116 = .ok (.getfield 50, 3) := dc180 bqX7_init_112 4 rfl rfl rfl
theorem dX7_init_119 : decode cX7_init 119 = .ok (.iload_n 1, 1) := dc27 bqX7_init_112 7 rfl rfl
theorem dX7_init_120 : decode cX7_init 120 = .ok (.new 48, 3) := dc187 bqX7_init_112 8 rfl rfl rfl
theorem dX7_init_123 : decode cX7_init 123 = .ok (.dup, 1) := dc89 bqX7_init_112 11 rfl rfl
theorem dX7_init_124 : decode cX7_init 124 = .ok (.invokespecial 54, 3) := dc183 bqX7_init_112 12 rfl rfl rfl
theorem dX7_init_127 : decode cX7_init 127 = .ok (.aastore, 1) := dc83 bqX7_init_112 15 rfl rfl
theorem dX7_init_128 : decode cX7_init 128 = .ok (.iinc 1 1, 3) := dc132 bqX7_init_112 16 rfl rfl rfl
theorem dX7_init_131 : decode cX7_init 131 = .ok (.goto (-21), 3) := dc167 bqX7_init_112 19 rfl rfl rfl
theorem dX7_init_134 : decode cX7_init 134 = .ok (.return_, 1) := dc177 bqX7_init_112 22 rfl rfl
set_option maxRecDepth 20000 in
theorem gX7_feed_X7_within : GoodIn wsX7_feed (va_wsS RX7 59 yX7_within wsX7_within) := hs_gC (hs_gS (hs_inG 2 10 rfl rfl) (hs_inG 2 11 rfl rfl) (hs_inG 1 1 rfl rfl) inC_X7_within)
theorem bqX7_feed_0 : hs_bs cX7_feed 0 [42, 180, 0, 30, 180, 0, 55, 77, 27, 3, 16, 127, 184, 0, 59, 154, 0, 5, 2, 172, 44, 180, 0, 63] := hs_bs_of _ _ _ (by decide +kernel)
theorem dX7_feed_0 : decode cX7_feed 0 = .ok (.aload_n 0, 1) := dc42 bqX7_feed_0 0 rfl rfl
theorem dX7_feed_1 : decode cX7_feed 1 = .ok (.getfield 30, 3) := dc180 bqX7_feed_0 1 rfl rfl rfl
theorem dX7_feed_4 : decode cX7_feed 4 = .ok (.getfield 55, 3) := dc180 bqX7_feed_0 4 rfl rfl rfl
theorem dX7_feed_7 : decode cX7_feed 7 = .ok (.astore_n 2, 1) := dc77 bqX7_feed_0 7 rfl rfl
theorem dX7_feed_8 : decode cX7_feed 8 = .ok (.iload_n 1, 1) := dc27 bqX7_feed_0 8 rfl rfl
theorem dX7_feed_9 : decode cX7_feed 9 = .ok (.iconst 0, 1) := dc3 bqX7_feed_0 9 rfl rfl
theorem dX7_feed_10 : decode cX7_feed 10 = .ok (.bipush 127, 2) := dc16 bqX7_feed_0 10 rfl rfl rfl
theorem dX7_feed_12 : decode cX7_feed 12 = .ok (.invokestatic 59, 3) := dc184 bqX7_feed_0 12 rfl rfl rfl
theorem dX7_feed_15 : decode cX7_feed 15 = .ok (.ifCond .ne 5, 3) := dc154 bqX7_feed_0 15 rfl rfl rfl
theorem dX7_feed_18 : decode cX7_feed 18 = .ok (.iconst (-1), 1) := dc2 bqX7_feed_0 18 rfl rfl
theorem dX7_feed_19 : decode cX7_feed 19 = .ok (.ireturn, 1) := dc172 bqX7_feed_0 19 rfl rfl
theorem dX7_feed_20 : decode cX7_feed 20 = .ok (.aload_n 2, 1) := dc44 bqX7_feed_0 20 rfl rfl
theorem dX7_feed_21 : decode cX7_feed 21 = .ok (.getfield 63, 3) := dc180 bqX7_feed_0 21 rfl rfl rfl
theorem bqX7_feed_24 : hs_bs cX7_feed 24 [17, 0, 160, 161, 0, 6, 16, 253, 172, 44, 180, 0, 69, 44, 180, 0, 63, 27, 79, 44, 89, 180, 0, 63] := hs_bs_of _ _ _ (by decide +kernel)
theorem dX7_feed_24 : decode cX7_feed 24 = .ok (.sipush 160, 3) := dc17 bqX7_feed_24 0 rfl rfl rfl
theorem dX7_feed_27 : decode cX7_feed 27 = .ok (.if_icmp .lt 6, 3) := dc161 bqX7_feed_24 3 rfl rfl rfl
theorem dX7_feed_30 : decode cX7_feed 30 = .ok (.bipush (-3), 2) := dc16 bqX7_feed_24 6 rfl rfl rfl
theorem dX7_feed_32 : decode cX7_feed 32 = .ok (.ireturn, 1) := dc172 bqX7_feed_24 8 rfl rfl
theorem dX7_feed_33 : decode cX7_feed 33 = .ok (.aload_n 2, 1) := dc44 bqX7_feed_24 9 rfl rfl
theorem dX7_feed_34 : decode cX7_feed 34 = .ok (.getfield 69, 3) := dc180 bqX7_feed_24 10 rfl rfl rfl
theorem dX7_feed_37 : decode cX7_feed 37 = .ok (.aload_n 2, 1) := dc44 bqX7_feed_24 13 rfl rfl
theorem dX7_feed_38 : decode cX7_feed 38 = .ok (.getfield 63, 3) := dc180 bqX7_feed_24 14 rfl rfl rfl
theorem dX7_feed_41 : decode cX7_feed 41 = .ok (.iload_n 1, 1) := dc27 bqX7_feed_24 17 rfl rfl
theorem dX7_feed_42 : decode cX7_feed 42 = .ok (.iastore, 1) := dc79 bqX7_feed_24 18 rfl rfl
theorem dX7_feed_43 : decode cX7_feed 43 = .ok (.aload_n 2, 1) := dc44 bqX7_feed_24 19 rfl rfl
theorem dX7_feed_44 : decode cX7_feed 44 = .ok (.dup, 1) := dc89 bqX7_feed_24 20 rfl rfl
theorem dX7_feed_45 : decode cX7_feed 45 = .ok (.getfield 63, 3) := dc180 bqX7_feed_24 21 rfl rfl rfl
theorem bqX7_feed_48 : hs_bs cX7_feed 48 [4, 96, 181, 0, 63, 44, 180, 0, 63, 172] := hs_bs_of _ _ _ (by decide +kernel)
theorem dX7_feed_48 : decode cX7_feed 48 = .ok (.iconst 1, 1) := dc4 bqX7_feed_48 0 rfl rfl
theorem dX7_feed_49 : decode cX7_feed 49 = .ok (.iadd, 1) := dc96 bqX7_feed_48 1 rfl rfl
theorem dX7_feed_50 : decode cX7_feed 50 = .ok (.putfield 63, 3) := dc181 bqX7_feed_48 2 rfl rfl rfl
theorem dX7_feed_53 : decode cX7_feed 53 = .ok (.aload_n 2, 1) := dc44 bqX7_feed_48 5 rfl rfl
theorem dX7_feed_54 : decode cX7_feed 54 = .ok (.getfield 63, 3) := dc180 bqX7_feed_48 6 rfl rfl rfl
theorem dX7_feed_57 : decode cX7_feed 57 = .ok (.ireturn, 1) := dc172 bqX7_feed_48 9 rfl rfl
set_option maxRecDepth 20000 in
theorem gX7_end_X7_within : GoodIn wsX7_end (va_wsS RX7 59 yX7_within wsX7_within) := hs_gC (hs_gS (hs_inG 2 10 rfl rfl) (hs_inG 2 11 rfl rfl) (hs_inG 1 1 rfl rfl) inC_X7_within)
theorem bqX7_end_0 : hs_bs cX7_end 0 [42, 180, 0, 30, 180, 0, 55, 77, 27, 3, 44, 180, 0, 63, 184, 0, 59, 154, 0, 5, 2, 172, 44] := hs_bs_of _ _ _ (by decide +kernel)
theorem dX7_end_0 : decode cX7_end 0 = .ok (.aload_n 0, 1) := dc42 bqX7_end_0 0 rfl rfl
theorem dX7_end_1 : decode cX7_end 1 = .ok (.getfield 30, 3) := dc180 bqX7_end_0 1 rfl rfl rfl
theorem dX7_end_4 : decode cX7_end 4 = .ok (.getfield 55, 3) := dc180 bqX7_end_0 4 rfl rfl rfl
theorem dX7_end_7 : decode cX7_end 7 = .ok (.astore_n 2, 1) := dc77 bqX7_end_0 7 rfl rfl
theorem dX7_end_8 : decode cX7_end 8 = .ok (.iload_n 1, 1) := dc27 bqX7_end_0 8 rfl rfl
theorem dX7_end_9 : decode cX7_end 9 = .ok (.iconst 0, 1) := dc3 bqX7_end_0 9 rfl rfl
theorem dX7_end_10 : decode cX7_end 10 = .ok (.aload_n 2, 1) := dc44 bqX7_end_0 10 rfl rfl
theorem dX7_end_11 : decode cX7_end 11 = .ok (.getfield 63, 3) := dc180 bqX7_end_0 11 rfl rfl rfl
theorem dX7_end_14 : decode cX7_end 14 = .ok (.invokestatic 59, 3) := dc184 bqX7_end_0 14 rfl rfl rfl
theorem dX7_end_17 : decode cX7_end 17 = .ok (.ifCond .ne 5, 3) := dc154 bqX7_end_0 17 rfl rfl rfl
theorem dX7_end_20 : decode cX7_end 20 = .ok (.iconst (-1), 1) := dc2 bqX7_end_0 20 rfl rfl
theorem dX7_end_21 : decode cX7_end 21 = .ok (.ireturn, 1) := dc172 bqX7_end_0 21 rfl rfl
theorem dX7_end_22 : decode cX7_end 22 = .ok (.aload_n 2, 1) := dc44 bqX7_end_0 22 rfl rfl
theorem bqX7_end_23 : hs_bs cX7_end 23 [180, 0, 63, 62, 44, 27, 181, 0, 63, 29, 172] := hs_bs_of _ _ _ (by decide +kernel)
theorem dX7_end_23 : decode cX7_end 23 = .ok (.getfield 63, 3) := dc180 bqX7_end_23 0 rfl rfl rfl
theorem dX7_end_26 : decode cX7_end 26 = .ok (.istore_n 3, 1) := dc62 bqX7_end_23 3 rfl rfl
theorem dX7_end_27 : decode cX7_end 27 = .ok (.aload_n 2, 1) := dc44 bqX7_end_23 4 rfl rfl
theorem dX7_end_28 : decode cX7_end 28 = .ok (.iload_n 1, 1) := dc27 bqX7_end_23 5 rfl rfl
theorem dX7_end_29 : decode cX7_end 29 = .ok (.putfield 63, 3) := dc181 bqX7_end_23 6 rfl rfl rfl
theorem dX7_end_32 : decode cX7_end 32 = .ok (.iload_n 3, 1) := dc29 bqX7_end_23 9 rfl rfl
theorem dX7_end_33 : decode cX7_end 33 = .ok (.ireturn, 1) := dc172 bqX7_end_23 10 rfl rfl
set_option maxRecDepth 20000 in
theorem gX7_text_X5_tellAll : GoodIn wsX7_text (wsV RX7 73 RX5 yX5_tellAll wsX5_tellAll) := hs_gC (hs_gV (hs_inG 2 21 rfl rfl) (hs_inG 2 22 rfl rfl) (hs_inG 2 23 rfl rfl) (hs_inG 1 3 rfl rfl) inC_X5_tellAll)
set_option maxRecDepth 20000 in
theorem gX7_text_X6_copyFrom : GoodIn wsX7_text (wsV RX7 89 RX6 yX6_copyFrom wsX6_copyFrom) := hs_gC (hs_gV (hs_inG 2 176 rfl rfl) (hs_inG 2 177 rfl rfl) (hs_inG 2 178 rfl rfl) (hs_inG 1 2 rfl rfl) inC_X6_copyFrom)
theorem bqX7_text_0 : hs_bs cX7_text 0 [42, 180, 0, 30, 42, 180, 0, 37, 182, 0, 73, 60, 42, 180, 0, 30, 180, 0, 55, 3, 181, 0, 63, 42] := hs_bs_of _ _ _ (by decide +kernel)
theorem dX7_text_0 : decode cX7_text 0 = .ok (.aload_n 0, 1) := dc42 bqX7_text_0 0 rfl rfl
theorem dX7_text_1 : decode cX7_text 1 = .ok (.getfield 30, 3) := dc180 bqX7_text_0 1 rfl rfl rfl
theorem dX7_text_4 : decode cX7_text 4 = .ok (.aload_n 0, 1) := dc42 bqX7_text_0 4 rfl rfl
theorem dX7_text_5 : decode cX7_text 5 = .ok (.getfield 37, 3) := dc180 bqX7_text_0 5 rfl rfl rfl
theorem dX7_text_8 : decode cX7_text 8 = .ok (.invokevirtual 73, 3) := dc182 bqX7_text_0 8 rfl rfl rfl
theorem dX7_text_11 : decode cX7_text 11 = .ok (.istore_n 1, 1) := dc60 bqX7_text_0 11 rfl rfl
theorem dX7_text_12 : decode cX7_text 12 = .ok (.aload_n 0, 1) := dc42 bqX7_text_0 12 rfl rfl
theorem dX7_text_13 : decode cX7_text 13 = .ok (.getfield 30, 3) := dc180 bqX7_text_0 13 rfl rfl rfl
theorem dX7_text_16 : decode cX7_text 16 = .ok (.getfield 55, 3) := dc180 bqX7_text_0 16 rfl rfl rfl
theorem dX7_text_19 : decode cX7_text 19 = .ok (.iconst 0, 1) := dc3 bqX7_text_0 19 rfl rfl
theorem dX7_text_20 : decode cX7_text 20 = .ok (.putfield 63, 3) := dc181 bqX7_text_0 20 rfl rfl rfl
theorem dX7_text_23 : decode cX7_text 23 = .ok (.aload_n 0, 1) := dc42 bqX7_text_0 23 rfl rfl
theorem bqX7_text_24 : hs_bs cX7_text 24 [42, 180, 0, 30, 180, 0, 77, 181, 0, 80, 42, 180, 0, 80, 153, 0, 14, 16, 246, 42, 180, 0, 30] := hs_bs_of _ _ _ (by decide +kernel)
theorem dX7_text_24 : decode cX7_text 24 = .ok (.aload_n 0, 1) := dc42 bqX7_text_24 0 rfl rfl
theorem dX7_text_25 : decode cX7_text 25 = .ok (.getfield 30, 3) := dc180 bqX7_text_24 1 rfl rfl rfl
theorem dX7_text_28 : decode cX7_text 28 = .ok (.getfield 77, 3) := dc180 bqX7_text_24 4 rfl rfl rfl
theorem dX7_text_31 : decode cX7_text 31 = .ok (.putfield 80, 3) := dc181 bqX7_text_24 7 rfl rfl rfl
theorem dX7_text_34 : decode cX7_text 34 = .ok (.aload_n 0, 1) := dc42 bqX7_text_24 10 rfl rfl
theorem dX7_text_35 : decode cX7_text 35 = .ok (.getfield 80, 3) := dc180 bqX7_text_24 11 rfl rfl rfl
theorem dX7_text_38 : decode cX7_text 38 = .ok (.ifCond .eq 14, 3) := dc153 bqX7_text_24 14 rfl rfl rfl
theorem dX7_text_41 : decode cX7_text 41 = .ok (.bipush (-10), 2) := dc16 bqX7_text_24 17 rfl rfl rfl
theorem dX7_text_43 : decode cX7_text 43 = .ok (.aload_n 0, 1) := dc42 bqX7_text_24 19 rfl rfl
theorem dX7_text_44 : decode cX7_text 44 = .ok (.getfield 30, 3) := dc180 bqX7_text_24 20 rfl rfl rfl
theorem bqX7_text_47 : hs_bs cX7_text 47 [180, 0, 83, 100, 172, 42, 180, 0, 10, 42, 180, 0, 30, 180, 0, 86, 182, 0, 89, 3, 61, 28, 5] := hs_bs_of _ _ _ (by decide +kernel)
theorem dX7_text_47 : decode cX7_text 47 = .ok (.getfield 83, 3) := dc180 bqX7_text_47 0 rfl rfl rfl
theorem dX7_text_50 : decode cX7_text 50 = .ok (.isub, 1) := dc100 bqX7_text_47 3 rfl rfl
theorem dX7_text_51 : decode cX7_text 51 = .ok (.ireturn, 1) := dc172 bqX7_text_47 4 rfl rfl
theorem dX7_text_52 : decode cX7_text 52 = .ok (.aload_n 0, 1) := dc42 bqX7_text_47 5 rfl rfl
theorem dX7_text_53 : decode cX7_text 53 = .ok (.getfield 10, 3) := dc180 bqX7_text_47 6 rfl rfl rfl
theorem dX7_text_56 : decode cX7_text 56 = .ok (.aload_n 0, 1) := dc42 bqX7_text_47 9 rfl rfl
theorem dX7_text_57 : decode cX7_text 57 = .ok (.getfield 30, 3) := dc180 bqX7_text_47 10 rfl rfl rfl
theorem dX7_text_60 : decode cX7_text 60 = .ok (.getfield 86, 3) := dc180 bqX7_text_47 13 rfl rfl rfl
theorem dX7_text_63 : decode cX7_text 63 = .ok (.invokevirtual 89, 3) := dc182 bqX7_text_47 16 rfl rfl rfl
theorem dX7_text_66 : decode cX7_text 66 = .ok (.iconst 0, 1) := dc3 bqX7_text_47 19 rfl rfl
theorem dX7_text_67 : decode cX7_text 67 = .ok (.istore_n 2, 1) := dc61 bqX7_text_47 20 rfl rfl
theorem dX7_text_68 : decode cX7_text 68 = .ok (.iload_n 2, 1) := dc28 bqX7_text_47 21 rfl rfl
theorem dX7_text_69 : decode cX7_text 69 = .ok (.iconst 2, 1) := dc5 bqX7_text_47 22 rfl rfl
theorem bqX7_text_70 : hs_bs cX7_text 70 [162, 0, 16, 42, 180, 0, 23, 28, 3, 84, 132, 2, 1, 167, 255, 241, 27, 172] := hs_bs_of _ _ _ (by decide +kernel)
theorem dX7_text_70 : decode cX7_text 70 = .ok (.if_icmp .ge 16, 3) := dc162 bqX7_text_70 0 rfl rfl rfl
theorem dX7_text_73 : decode cX7_text 73 = .ok (.aload_n 0, 1) := dc42 bqX7_text_70 3 rfl rfl
theorem dX7_text_74 : decode cX7_text 74 = .ok (.getfield 23, 3) := dc180 bqX7_text_70 4 rfl rfl rfl
theorem dX7_text_77 : decode cX7_text 77 = .ok (.iload_n 2, 1) := dc28 bqX7_text_70 7 rfl rfl
theorem dX7_text_78 : decode cX7_text 78 = .ok (.iconst 0, 1) := dc3 bqX7_text_70 8 rfl rfl
theorem dX7_text_79 : decode cX7_text 79 = .ok (.bastore, 1) := dc84 bqX7_text_70 9 rfl rfl
theorem dX7_text_80 : decode cX7_text 80 = .ok (.iinc 2 1, 3) := dc132 bqX7_text_70 10 rfl rfl rfl
theorem dX7_text_83 : decode cX7_text 83 = .ok (.goto (-15), 3) := dc167 bqX7_text_70 13 rfl rfl rfl
theorem dX7_text_86 : decode cX7_text 86 = .ok (.iload_n 1, 1) := dc27 bqX7_text_70 16 rfl rfl
theorem dX7_text_87 : decode cX7_text 87 = .ok (.ireturn, 1) := dc172 bqX7_text_70 17 rfl rfl
theorem bqX7_fault_0 : hs_bs cX7_fault 0 [42, 180, 0, 80, 172] := hs_bs_of _ _ _ (by decide +kernel)
theorem dX7_fault_0 : decode cX7_fault 0 = .ok (.aload_n 0, 1) := dc42 bqX7_fault_0 0 rfl rfl
theorem dX7_fault_1 : decode cX7_fault 1 = .ok (.getfield 80, 3) := dc180 bqX7_fault_0 1 rfl rfl rfl
theorem dX7_fault_4 : decode cX7_fault 4 = .ok (.ireturn, 1) := dc172 bqX7_fault_0 4 rfl rfl
set_option maxRecDepth 20000 in
theorem gX7_rule_X6_allWeights : GoodIn wsX7_rule (wsV RX7 114 RX6 yX6_allWeights wsX6_allWeights) := hs_gC (hs_gV (hs_inG 2 192 rfl rfl) (hs_inG 2 193 rfl rfl) (hs_inG 2 194 rfl rfl) (hs_inG 1 2 rfl rfl) inC_X6_allWeights)
theorem bqX7_rule_0 : hs_bs cX7_rule 0 [27] := hs_bs_of _ _ _ (by decide +kernel)
theorem dX7_rule_0 : decode cX7_rule 0 = .ok (.iload_n 1, 1) := dc27 bqX7_rule_0 0 rfl rfl
theorem dX7_rule_1 : decode cX7_rule 1 = .ok (.tableswitch 111 0 7 #[47, 55, 63, 71, 79, 87, 95, 103], 47) := by decide +kernel
theorem bqX7_rule_48 : hs_bs cX7_rule 48 [42, 180, 0, 10, 180, 0, 93, 172, 42, 180, 0, 10, 180, 0, 96, 172, 42, 180, 0, 10, 180, 0, 99, 172] := hs_bs_of _ _ _ (by decide +kernel)
theorem dX7_rule_48 : decode cX7_rule 48 = .ok (.aload_n 0, 1) := dc42 bqX7_rule_48 0 rfl rfl
theorem dX7_rule_49 : decode cX7_rule 49 = .ok (.getfield 10, 3) := dc180 bqX7_rule_48 1 rfl rfl rfl
theorem dX7_rule_52 : decode cX7_rule 52 = .ok (.getfield 93, 3) := dc180 bqX7_rule_48 4 rfl rfl rfl
theorem dX7_rule_55 : decode cX7_rule 55 = .ok (.ireturn, 1) := dc172 bqX7_rule_48 7 rfl rfl
theorem dX7_rule_56 : decode cX7_rule 56 = .ok (.aload_n 0, 1) := dc42 bqX7_rule_48 8 rfl rfl
theorem dX7_rule_57 : decode cX7_rule 57 = .ok (.getfield 10, 3) := dc180 bqX7_rule_48 9 rfl rfl rfl
theorem dX7_rule_60 : decode cX7_rule 60 = .ok (.getfield 96, 3) := dc180 bqX7_rule_48 12 rfl rfl rfl
theorem dX7_rule_63 : decode cX7_rule 63 = .ok (.ireturn, 1) := dc172 bqX7_rule_48 15 rfl rfl
theorem dX7_rule_64 : decode cX7_rule 64 = .ok (.aload_n 0, 1) := dc42 bqX7_rule_48 16 rfl rfl
theorem dX7_rule_65 : decode cX7_rule 65 = .ok (.getfield 10, 3) := dc180 bqX7_rule_48 17 rfl rfl rfl
theorem dX7_rule_68 : decode cX7_rule 68 = .ok (.getfield 99, 3) := dc180 bqX7_rule_48 20 rfl rfl rfl
theorem dX7_rule_71 : decode cX7_rule 71 = .ok (.ireturn, 1) := dc172 bqX7_rule_48 23 rfl rfl
theorem bqX7_rule_72 : hs_bs cX7_rule 72 [42, 180, 0, 10, 180, 0, 102, 172, 42, 180, 0, 10, 180, 0, 105, 172, 42, 180, 0, 10, 180, 0, 108, 172] := hs_bs_of _ _ _ (by decide +kernel)
theorem dX7_rule_72 : decode cX7_rule 72 = .ok (.aload_n 0, 1) := dc42 bqX7_rule_72 0 rfl rfl
theorem dX7_rule_73 : decode cX7_rule 73 = .ok (.getfield 10, 3) := dc180 bqX7_rule_72 1 rfl rfl rfl
theorem dX7_rule_76 : decode cX7_rule 76 = .ok (.getfield 102, 3) := dc180 bqX7_rule_72 4 rfl rfl rfl
theorem dX7_rule_79 : decode cX7_rule 79 = .ok (.ireturn, 1) := dc172 bqX7_rule_72 7 rfl rfl
theorem dX7_rule_80 : decode cX7_rule 80 = .ok (.aload_n 0, 1) := dc42 bqX7_rule_72 8 rfl rfl
theorem dX7_rule_81 : decode cX7_rule 81 = .ok (.getfield 10, 3) := dc180 bqX7_rule_72 9 rfl rfl rfl
theorem dX7_rule_84 : decode cX7_rule 84 = .ok (.getfield 105, 3) := dc180 bqX7_rule_72 12 rfl rfl rfl
theorem dX7_rule_87 : decode cX7_rule 87 = .ok (.ireturn, 1) := dc172 bqX7_rule_72 15 rfl rfl
theorem dX7_rule_88 : decode cX7_rule 88 = .ok (.aload_n 0, 1) := dc42 bqX7_rule_72 16 rfl rfl
theorem dX7_rule_89 : decode cX7_rule 89 = .ok (.getfield 10, 3) := dc180 bqX7_rule_72 17 rfl rfl rfl
theorem dX7_rule_92 : decode cX7_rule 92 = .ok (.getfield 108, 3) := dc180 bqX7_rule_72 20 rfl rfl rfl
theorem dX7_rule_95 : decode cX7_rule 95 = .ok (.ireturn, 1) := dc172 bqX7_rule_72 23 rfl rfl
theorem bqX7_rule_96 : hs_bs cX7_rule 96 [42, 180, 0, 10, 180, 0, 111, 172, 42, 180, 0, 10, 182, 0, 114, 172, 2, 172] := hs_bs_of _ _ _ (by decide +kernel)
theorem dX7_rule_96 : decode cX7_rule 96 = .ok (.aload_n 0, 1) := dc42 bqX7_rule_96 0 rfl rfl
theorem dX7_rule_97 : decode cX7_rule 97 = .ok (.getfield 10, 3) := dc180 bqX7_rule_96 1 rfl rfl rfl
theorem dX7_rule_100 : decode cX7_rule 100 = .ok (.getfield 111, 3) := dc180 bqX7_rule_96 4 rfl rfl rfl
theorem dX7_rule_103 : decode cX7_rule 103 = .ok (.ireturn, 1) := dc172 bqX7_rule_96 7 rfl rfl
theorem dX7_rule_104 : decode cX7_rule 104 = .ok (.aload_n 0, 1) := dc42 bqX7_rule_96 8 rfl rfl
theorem dX7_rule_105 : decode cX7_rule 105 = .ok (.getfield 10, 3) := dc180 bqX7_rule_96 9 rfl rfl rfl
theorem dX7_rule_108 : decode cX7_rule 108 = .ok (.invokevirtual 114, 3) := dc182 bqX7_rule_96 12 rfl rfl rfl
theorem dX7_rule_111 : decode cX7_rule 111 = .ok (.ireturn, 1) := dc172 bqX7_rule_96 15 rfl rfl
theorem dX7_rule_112 : decode cX7_rule 112 = .ok (.iconst (-1), 1) := dc2 bqX7_rule_96 16 rfl rfl
theorem dX7_rule_113 : decode cX7_rule 113 = .ok (.ireturn, 1) := dc172 bqX7_rule_96 17 rfl rfl
set_option maxRecDepth 20000 in
theorem gX7_cell_X6_isCell : GoodIn wsX7_cell (wsV RX7 118 RX6 yX6_isCell wsX6_isCell) := hs_gC (hs_gV (hs_inG 2 200 rfl rfl) (hs_inG 2 201 rfl rfl) (hs_inG 2 202 rfl rfl) (hs_inG 1 2 rfl rfl) inC_X6_isCell)
theorem bqX7_cell_0 : hs_bs cX7_cell 0 [42, 180, 0, 10, 27, 182, 0, 118, 153, 0, 15, 42, 180, 0, 10, 180, 0, 122, 27, 46, 167, 0, 4, 2] := hs_bs_of _ _ _ (by decide +kernel)
theorem dX7_cell_0 : decode cX7_cell 0 = .ok (.aload_n 0, 1) := dc42 bqX7_cell_0 0 rfl rfl
theorem dX7_cell_1 : decode cX7_cell 1 = .ok (.getfield 10, 3) := dc180 bqX7_cell_0 1 rfl rfl rfl
theorem dX7_cell_4 : decode cX7_cell 4 = .ok (.iload_n 1, 1) := dc27 bqX7_cell_0 4 rfl rfl
theorem dX7_cell_5 : decode cX7_cell 5 = .ok (.invokevirtual 118, 3) := dc182 bqX7_cell_0 5 rfl rfl rfl
theorem dX7_cell_8 : decode cX7_cell 8 = .ok (.ifCond .eq 15, 3) := dc153 bqX7_cell_0 8 rfl rfl rfl
theorem dX7_cell_11 : decode cX7_cell 11 = .ok (.aload_n 0, 1) := dc42 bqX7_cell_0 11 rfl rfl
theorem dX7_cell_12 : decode cX7_cell 12 = .ok (.getfield 10, 3) := dc180 bqX7_cell_0 12 rfl rfl rfl
theorem dX7_cell_15 : decode cX7_cell 15 = .ok (.getfield 122, 3) := dc180 bqX7_cell_0 15 rfl rfl rfl
theorem dX7_cell_18 : decode cX7_cell 18 = .ok (.iload_n 1, 1) := dc27 bqX7_cell_0 18 rfl rfl
theorem dX7_cell_19 : decode cX7_cell 19 = .ok (.iaload, 1) := dc46 bqX7_cell_0 19 rfl rfl
theorem dX7_cell_20 : decode cX7_cell 20 = .ok (.goto 4, 3) := dc167 bqX7_cell_0 20 rfl rfl rfl
theorem dX7_cell_23 : decode cX7_cell 23 = .ok (.iconst (-1), 1) := dc2 bqX7_cell_0 23 rfl rfl
theorem bqX7_cell_24 : hs_bs cX7_cell 24 [172] := hs_bs_of _ _ _ (by decide +kernel)
theorem dX7_cell_24 : decode cX7_cell 24 = .ok (.ireturn, 1) := dc172 bqX7_cell_24 0 rfl rfl
set_option maxRecDepth 20000 in
theorem gX7_person_X6_isPerson : GoodIn wsX7_person (wsV RX7 125 RX6 yX6_isPerson wsX6_isPerson) := hs_gC (hs_gV (hs_inG 2 208 rfl rfl) (hs_inG 2 209 rfl rfl) (hs_inG 2 210 rfl rfl) (hs_inG 1 2 rfl rfl) inC_X6_isPerson)
theorem bqX7_person_0 : hs_bs cX7_person 0 [42, 180, 0, 10, 27, 182, 0, 125, 153, 0, 15, 42, 180, 0, 10, 180, 0, 128, 27, 46, 167, 0, 4, 2] := hs_bs_of _ _ _ (by decide +kernel)
theorem dX7_person_0 : decode cX7_person 0 = .ok (.aload_n 0, 1) := dc42 bqX7_person_0 0 rfl rfl
theorem dX7_person_1 : decode cX7_person 1 = .ok (.getfield 10, 3) := dc180 bqX7_person_0 1 rfl rfl rfl
theorem dX7_person_4 : decode cX7_person 4 = .ok (.iload_n 1, 1) := dc27 bqX7_person_0 4 rfl rfl
theorem dX7_person_5 : decode cX7_person 5 = .ok (.invokevirtual 125, 3) := dc182 bqX7_person_0 5 rfl rfl rfl
theorem dX7_person_8 : decode cX7_person 8 = .ok (.ifCond .eq 15, 3) := dc153 bqX7_person_0 8 rfl rfl rfl
theorem dX7_person_11 : decode cX7_person 11 = .ok (.aload_n 0, 1) := dc42 bqX7_person_0 11 rfl rfl
theorem dX7_person_12 : decode cX7_person 12 = .ok (.getfield 10, 3) := dc180 bqX7_person_0 12 rfl rfl rfl
theorem dX7_person_15 : decode cX7_person 15 = .ok (.getfield 128, 3) := dc180 bqX7_person_0 15 rfl rfl rfl
theorem dX7_person_18 : decode cX7_person 18 = .ok (.iload_n 1, 1) := dc27 bqX7_person_0 18 rfl rfl
theorem dX7_person_19 : decode cX7_person 19 = .ok (.iaload, 1) := dc46 bqX7_person_0 19 rfl rfl
theorem dX7_person_20 : decode cX7_person 20 = .ok (.goto 4, 3) := dc167 bqX7_person_0 20 rfl rfl rfl
theorem dX7_person_23 : decode cX7_person 23 = .ok (.iconst (-1), 1) := dc2 bqX7_person_0 23 rfl rfl
theorem bqX7_person_24 : hs_bs cX7_person 24 [172] := hs_bs_of _ _ _ (by decide +kernel)
theorem dX7_person_24 : decode cX7_person 24 = .ok (.ireturn, 1) := dc172 bqX7_person_24 0 rfl rfl
set_option maxRecDepth 20000 in
theorem gX7_pair_X7_within : GoodIn wsX7_pair (va_wsS RX7 59 yX7_within wsX7_within) := hs_gC (hs_gS (hs_inG 2 10 rfl rfl) (hs_inG 2 11 rfl rfl) (hs_inG 1 1 rfl rfl) inC_X7_within)
theorem bqX7_pair_0 : hs_bs cX7_pair 0 [27, 3, 42, 180, 0, 10, 180, 0, 111, 4, 100, 184, 0, 59, 154, 0, 5, 2, 172, 16, 10, 42] := hs_bs_of _ _ _ (by decide +kernel)
theorem dX7_pair_0 : decode cX7_pair 0 = .ok (.iload_n 1, 1) := dc27 bqX7_pair_0 0 rfl rfl
theorem dX7_pair_1 : decode cX7_pair 1 = .ok (.iconst 0, 1) := dc3 bqX7_pair_0 1 rfl rfl
theorem dX7_pair_2 : decode cX7_pair 2 = .ok (.aload_n 0, 1) := dc42 bqX7_pair_0 2 rfl rfl
theorem dX7_pair_3 : decode cX7_pair 3 = .ok (.getfield 10, 3) := dc180 bqX7_pair_0 3 rfl rfl rfl
theorem dX7_pair_6 : decode cX7_pair 6 = .ok (.getfield 111, 3) := dc180 bqX7_pair_0 6 rfl rfl rfl
theorem dX7_pair_9 : decode cX7_pair 9 = .ok (.iconst 1, 1) := dc4 bqX7_pair_0 9 rfl rfl
theorem dX7_pair_10 : decode cX7_pair 10 = .ok (.isub, 1) := dc100 bqX7_pair_0 10 rfl rfl
theorem dX7_pair_11 : decode cX7_pair 11 = .ok (.invokestatic 59, 3) := dc184 bqX7_pair_0 11 rfl rfl rfl
theorem dX7_pair_14 : decode cX7_pair 14 = .ok (.ifCond .ne 5, 3) := dc154 bqX7_pair_0 14 rfl rfl rfl
theorem dX7_pair_17 : decode cX7_pair 17 = .ok (.iconst (-1), 1) := dc2 bqX7_pair_0 17 rfl rfl
theorem dX7_pair_18 : decode cX7_pair 18 = .ok (.ireturn, 1) := dc172 bqX7_pair_0 18 rfl rfl
theorem dX7_pair_19 : decode cX7_pair 19 = .ok (.bipush 10, 2) := dc16 bqX7_pair_0 19 rfl rfl rfl
theorem dX7_pair_21 : decode cX7_pair 21 = .ok (.aload_n 0, 1) := dc42 bqX7_pair_0 21 rfl rfl
theorem bqX7_pair_22 : hs_bs cX7_pair 22 [180, 0, 10, 180, 0, 131, 27, 46, 104, 42, 180, 0, 10, 180, 0, 134, 27, 46, 96, 172] := hs_bs_of _ _ _ (by decide +kernel)
theorem dX7_pair_22 : decode cX7_pair 22 = .ok (.getfield 10, 3) := dc180 bqX7_pair_22 0 rfl rfl rfl
theorem dX7_pair_25 : decode cX7_pair 25 = .ok (.getfield 131, 3) := dc180 bqX7_pair_22 3 rfl rfl rfl
theorem dX7_pair_28 : decode cX7_pair 28 = .ok (.iload_n 1, 1) := dc27 bqX7_pair_22 6 rfl rfl
theorem dX7_pair_29 : decode cX7_pair 29 = .ok (.iaload, 1) := dc46 bqX7_pair_22 7 rfl rfl
theorem dX7_pair_30 : decode cX7_pair 30 = .ok (.imul, 1) := dc104 bqX7_pair_22 8 rfl rfl
theorem dX7_pair_31 : decode cX7_pair 31 = .ok (.aload_n 0, 1) := dc42 bqX7_pair_22 9 rfl rfl
theorem dX7_pair_32 : decode cX7_pair 32 = .ok (.getfield 10, 3) := dc180 bqX7_pair_22 10 rfl rfl rfl
theorem dX7_pair_35 : decode cX7_pair 35 = .ok (.getfield 134, 3) := dc180 bqX7_pair_22 13 rfl rfl rfl
theorem dX7_pair_38 : decode cX7_pair 38 = .ok (.iload_n 1, 1) := dc27 bqX7_pair_22 16 rfl rfl
theorem dX7_pair_39 : decode cX7_pair 39 = .ok (.iaload, 1) := dc46 bqX7_pair_22 17 rfl rfl
theorem dX7_pair_40 : decode cX7_pair 40 = .ok (.iadd, 1) := dc96 bqX7_pair_22 18 rfl rfl
theorem dX7_pair_41 : decode cX7_pair 41 = .ok (.ireturn, 1) := dc172 bqX7_pair_22 19 rfl rfl
set_option maxRecDepth 20000 in
theorem gX7_weigh_X6_canWeigh : GoodIn wsX7_weigh (wsV RX7 137 RX6 yX6_canWeigh wsX6_canWeigh) := hs_gC (hs_gV (hs_inG 2 220 rfl rfl) (hs_inG 2 221 rfl rfl) (hs_inG 2 222 rfl rfl) (hs_inG 1 2 rfl rfl) inC_X6_canWeigh)
theorem bqX7_weigh_0 : hs_bs cX7_weigh 0 [42, 180, 0, 10, 27, 28, 182, 0, 137, 154, 0, 5, 2, 172, 42, 180, 0, 10, 180, 0, 122, 27, 46, 62] := hs_bs_of _ _ _ (by decide +kernel)
theorem dX7_weigh_0 : decode cX7_weigh 0 = .ok (.aload_n 0, 1) := dc42 bqX7_weigh_0 0 rfl rfl
theorem dX7_weigh_1 : decode cX7_weigh 1 = .ok (.getfield 10, 3) := dc180 bqX7_weigh_0 1 rfl rfl rfl
theorem dX7_weigh_4 : decode cX7_weigh 4 = .ok (.iload_n 1, 1) := dc27 bqX7_weigh_0 4 rfl rfl
theorem dX7_weigh_5 : decode cX7_weigh 5 = .ok (.iload_n 2, 1) := dc28 bqX7_weigh_0 5 rfl rfl
theorem dX7_weigh_6 : decode cX7_weigh 6 = .ok (.invokevirtual 137, 3) := dc182 bqX7_weigh_0 6 rfl rfl rfl
theorem dX7_weigh_9 : decode cX7_weigh 9 = .ok (.ifCond .ne 5, 3) := dc154 bqX7_weigh_0 9 rfl rfl rfl
theorem dX7_weigh_12 : decode cX7_weigh 12 = .ok (.iconst (-1), 1) := dc2 bqX7_weigh_0 12 rfl rfl
theorem dX7_weigh_13 : decode cX7_weigh 13 = .ok (.ireturn, 1) := dc172 bqX7_weigh_0 13 rfl rfl
theorem dX7_weigh_14 : decode cX7_weigh 14 = .ok (.aload_n 0, 1) := dc42 bqX7_weigh_0 14 rfl rfl
theorem dX7_weigh_15 : decode cX7_weigh 15 = .ok (.getfield 10, 3) := dc180 bqX7_weigh_0 15 rfl rfl rfl
theorem dX7_weigh_18 : decode cX7_weigh 18 = .ok (.getfield 122, 3) := dc180 bqX7_weigh_0 18 rfl rfl rfl
theorem dX7_weigh_21 : decode cX7_weigh 21 = .ok (.iload_n 1, 1) := dc27 bqX7_weigh_0 21 rfl rfl
theorem dX7_weigh_22 : decode cX7_weigh 22 = .ok (.iaload, 1) := dc46 bqX7_weigh_0 22 rfl rfl
theorem dX7_weigh_23 : decode cX7_weigh 23 = .ok (.istore_n 3, 1) := dc62 bqX7_weigh_0 23 rfl rfl
theorem bqX7_weigh_24 : hs_bs cX7_weigh 24 [42, 180, 0, 10, 180, 0, 122, 27, 28, 79, 29, 172] := hs_bs_of _ _ _ (by decide +kernel)
theorem dX7_weigh_24 : decode cX7_weigh 24 = .ok (.aload_n 0, 1) := dc42 bqX7_weigh_24 0 rfl rfl
theorem dX7_weigh_25 : decode cX7_weigh 25 = .ok (.getfield 10, 3) := dc180 bqX7_weigh_24 1 rfl rfl rfl
theorem dX7_weigh_28 : decode cX7_weigh 28 = .ok (.getfield 122, 3) := dc180 bqX7_weigh_24 4 rfl rfl rfl
theorem dX7_weigh_31 : decode cX7_weigh 31 = .ok (.iload_n 1, 1) := dc27 bqX7_weigh_24 7 rfl rfl
theorem dX7_weigh_32 : decode cX7_weigh 32 = .ok (.iload_n 2, 1) := dc28 bqX7_weigh_24 8 rfl rfl
theorem dX7_weigh_33 : decode cX7_weigh 33 = .ok (.iastore, 1) := dc79 bqX7_weigh_24 9 rfl rfl
theorem dX7_weigh_34 : decode cX7_weigh 34 = .ok (.iload_n 3, 1) := dc29 bqX7_weigh_24 10 rfl rfl
theorem dX7_weigh_35 : decode cX7_weigh 35 = .ok (.ireturn, 1) := dc172 bqX7_weigh_24 11 rfl rfl
set_option maxRecDepth 20000 in
theorem gX7_split_X6_isCell : GoodIn wsX7_split (wsV RX7 118 RX6 yX6_isCell wsX6_isCell) := hs_gC (hs_gV (hs_inG 2 200 rfl rfl) (hs_inG 2 201 rfl rfl) (hs_inG 2 202 rfl rfl) (hs_inG 1 2 rfl rfl) inC_X6_isCell)
set_option maxRecDepth 20000 in
theorem gX7_split_X6_splitCell : GoodIn wsX7_split (wsV RX7 141 RX6 yX6_splitCell wsX6_splitCell) := hs_gC (hs_gV (hs_inG 2 229 rfl rfl) (hs_inG 2 230 rfl rfl) (hs_inG 2 231 rfl rfl) (hs_inG 1 2 rfl rfl) inC_X6_splitCell)
theorem bqX7_split_0 : hs_bs cX7_split 0 [42, 180, 0, 10, 27, 182, 0, 118, 154, 0, 5, 2, 172, 42, 180, 0, 10, 180, 0, 93, 16, 8] := hs_bs_of _ _ _ (by decide +kernel)
theorem dX7_split_0 : decode cX7_split 0 = .ok (.aload_n 0, 1) := dc42 bqX7_split_0 0 rfl rfl
theorem dX7_split_1 : decode cX7_split 1 = .ok (.getfield 10, 3) := dc180 bqX7_split_0 1 rfl rfl rfl
theorem dX7_split_4 : decode cX7_split 4 = .ok (.iload_n 1, 1) := dc27 bqX7_split_0 4 rfl rfl
theorem dX7_split_5 : decode cX7_split 5 = .ok (.invokevirtual 118, 3) := dc182 bqX7_split_0 5 rfl rfl rfl
theorem dX7_split_8 : decode cX7_split 8 = .ok (.ifCond .ne 5, 3) := dc154 bqX7_split_0 8 rfl rfl rfl
theorem dX7_split_11 : decode cX7_split 11 = .ok (.iconst (-1), 1) := dc2 bqX7_split_0 11 rfl rfl
theorem dX7_split_12 : decode cX7_split 12 = .ok (.ireturn, 1) := dc172 bqX7_split_0 12 rfl rfl
theorem dX7_split_13 : decode cX7_split 13 = .ok (.aload_n 0, 1) := dc42 bqX7_split_0 13 rfl rfl
theorem dX7_split_14 : decode cX7_split 14 = .ok (.getfield 10, 3) := dc180 bqX7_split_0 14 rfl rfl rfl
theorem dX7_split_17 : decode cX7_split 17 = .ok (.getfield 93, 3) := dc180 bqX7_split_0 17 rfl rfl rfl
theorem dX7_split_20 : decode cX7_split 20 = .ok (.bipush 8, 2) := dc16 bqX7_split_0 20 rfl rfl rfl
theorem bqX7_split_22 : hs_bs cX7_split 22 [161, 0, 6, 16, 253, 172, 42, 180, 0, 10, 27, 182, 0, 141, 42, 180, 0, 10, 180, 0, 93, 172] := hs_bs_of _ _ _ (by decide +kernel)
theorem dX7_split_22 : decode cX7_split 22 = .ok (.if_icmp .lt 6, 3) := dc161 bqX7_split_22 0 rfl rfl rfl
theorem dX7_split_25 : decode cX7_split 25 = .ok (.bipush (-3), 2) := dc16 bqX7_split_22 3 rfl rfl rfl
theorem dX7_split_27 : decode cX7_split 27 = .ok (.ireturn, 1) := dc172 bqX7_split_22 5 rfl rfl
theorem dX7_split_28 : decode cX7_split 28 = .ok (.aload_n 0, 1) := dc42 bqX7_split_22 6 rfl rfl
theorem dX7_split_29 : decode cX7_split 29 = .ok (.getfield 10, 3) := dc180 bqX7_split_22 7 rfl rfl rfl
theorem dX7_split_32 : decode cX7_split 32 = .ok (.iload_n 1, 1) := dc27 bqX7_split_22 10 rfl rfl
theorem dX7_split_33 : decode cX7_split 33 = .ok (.invokevirtual 141, 3) := dc182 bqX7_split_22 11 rfl rfl rfl
theorem dX7_split_36 : decode cX7_split 36 = .ok (.aload_n 0, 1) := dc42 bqX7_split_22 14 rfl rfl
theorem dX7_split_37 : decode cX7_split 37 = .ok (.getfield 10, 3) := dc180 bqX7_split_22 15 rfl rfl rfl
theorem dX7_split_40 : decode cX7_split 40 = .ok (.getfield 93, 3) := dc180 bqX7_split_22 18 rfl rfl rfl
theorem dX7_split_43 : decode cX7_split 43 = .ok (.ireturn, 1) := dc172 bqX7_split_22 21 rfl rfl
set_option maxRecDepth 20000 in
theorem gX7_join_X6_isCell : GoodIn wsX7_join (wsV RX7 118 RX6 yX6_isCell wsX6_isCell) := hs_gC (hs_gV (hs_inG 2 200 rfl rfl) (hs_inG 2 201 rfl rfl) (hs_inG 2 202 rfl rfl) (hs_inG 1 2 rfl rfl) inC_X6_isCell)
set_option maxRecDepth 20000 in
theorem gX7_join_X6_joinWithNext : GoodIn wsX7_join (wsV RX7 145 RX6 yX6_joinWithNext wsX6_joinWithNext) := hs_gC (hs_gV (hs_inG 3 0 rfl rfl) (hs_inG 3 1 rfl rfl) (hs_inG 3 2 rfl rfl) (hs_inG 1 2 rfl rfl) inC_X6_joinWithNext)
theorem bqX7_join_0 : hs_bs cX7_join 0 [42, 180, 0, 10, 27, 182, 0, 118, 153, 0, 16, 42, 180, 0, 10, 27, 4, 96, 182, 0, 118, 154, 0, 5] := hs_bs_of _ _ _ (by decide +kernel)
theorem dX7_join_0 : decode cX7_join 0 = .ok (.aload_n 0, 1) := dc42 bqX7_join_0 0 rfl rfl
theorem dX7_join_1 : decode cX7_join 1 = .ok (.getfield 10, 3) := dc180 bqX7_join_0 1 rfl rfl rfl
theorem dX7_join_4 : decode cX7_join 4 = .ok (.iload_n 1, 1) := dc27 bqX7_join_0 4 rfl rfl
theorem dX7_join_5 : decode cX7_join 5 = .ok (.invokevirtual 118, 3) := dc182 bqX7_join_0 5 rfl rfl rfl
theorem dX7_join_8 : decode cX7_join 8 = .ok (.ifCond .eq 16, 3) := dc153 bqX7_join_0 8 rfl rfl rfl
theorem dX7_join_11 : decode cX7_join 11 = .ok (.aload_n 0, 1) := dc42 bqX7_join_0 11 rfl rfl
theorem dX7_join_12 : decode cX7_join 12 = .ok (.getfield 10, 3) := dc180 bqX7_join_0 12 rfl rfl rfl
theorem dX7_join_15 : decode cX7_join 15 = .ok (.iload_n 1, 1) := dc27 bqX7_join_0 15 rfl rfl
theorem dX7_join_16 : decode cX7_join 16 = .ok (.iconst 1, 1) := dc4 bqX7_join_0 16 rfl rfl
theorem dX7_join_17 : decode cX7_join 17 = .ok (.iadd, 1) := dc96 bqX7_join_0 17 rfl rfl
theorem dX7_join_18 : decode cX7_join 18 = .ok (.invokevirtual 118, 3) := dc182 bqX7_join_0 18 rfl rfl rfl
theorem dX7_join_21 : decode cX7_join 21 = .ok (.ifCond .ne 5, 3) := dc154 bqX7_join_0 21 rfl rfl rfl
theorem bqX7_join_24 : hs_bs cX7_join 24 [2, 172, 42, 180, 0, 10, 180, 0, 93, 5, 163, 0, 6, 16, 254, 172, 42, 180, 0, 10, 27, 182, 0, 145] := hs_bs_of _ _ _ (by decide +kernel)
theorem dX7_join_24 : decode cX7_join 24 = .ok (.iconst (-1), 1) := dc2 bqX7_join_24 0 rfl rfl
theorem dX7_join_25 : decode cX7_join 25 = .ok (.ireturn, 1) := dc172 bqX7_join_24 1 rfl rfl
theorem dX7_join_26 : decode cX7_join 26 = .ok (.aload_n 0, 1) := dc42 bqX7_join_24 2 rfl rfl
theorem dX7_join_27 : decode cX7_join 27 = .ok (.getfield 10, 3) := dc180 bqX7_join_24 3 rfl rfl rfl
theorem dX7_join_30 : decode cX7_join 30 = .ok (.getfield 93, 3) := dc180 bqX7_join_24 6 rfl rfl rfl
theorem dX7_join_33 : decode cX7_join 33 = .ok (.iconst 2, 1) := dc5 bqX7_join_24 9 rfl rfl
theorem dX7_join_34 : decode cX7_join 34 = .ok (.if_icmp .gt 6, 3) := dc163 bqX7_join_24 10 rfl rfl rfl
theorem dX7_join_37 : decode cX7_join 37 = .ok (.bipush (-2), 2) := dc16 bqX7_join_24 13 rfl rfl rfl
theorem dX7_join_39 : decode cX7_join 39 = .ok (.ireturn, 1) := dc172 bqX7_join_24 15 rfl rfl
theorem dX7_join_40 : decode cX7_join 40 = .ok (.aload_n 0, 1) := dc42 bqX7_join_24 16 rfl rfl
theorem dX7_join_41 : decode cX7_join 41 = .ok (.getfield 10, 3) := dc180 bqX7_join_24 17 rfl rfl rfl
theorem dX7_join_44 : decode cX7_join 44 = .ok (.iload_n 1, 1) := dc27 bqX7_join_24 20 rfl rfl
theorem dX7_join_45 : decode cX7_join 45 = .ok (.invokevirtual 145, 3) := dc182 bqX7_join_24 21 rfl rfl rfl
theorem bqX7_join_48 : hs_bs cX7_join 48 [42, 180, 0, 10, 180, 0, 93, 172] := hs_bs_of _ _ _ (by decide +kernel)
theorem dX7_join_48 : decode cX7_join 48 = .ok (.aload_n 0, 1) := dc42 bqX7_join_48 0 rfl rfl
theorem dX7_join_49 : decode cX7_join 49 = .ok (.getfield 10, 3) := dc180 bqX7_join_48 1 rfl rfl rfl
theorem dX7_join_52 : decode cX7_join 52 = .ok (.getfield 93, 3) := dc180 bqX7_join_48 4 rfl rfl rfl
theorem dX7_join_55 : decode cX7_join 55 = .ok (.ireturn, 1) := dc172 bqX7_join_48 7 rfl rfl
set_option maxRecDepth 20000 in
theorem gX7_teach_X6_isPerson : GoodIn wsX7_teach (wsV RX7 125 RX6 yX6_isPerson wsX6_isPerson) := hs_gC (hs_gV (hs_inG 2 208 rfl rfl) (hs_inG 2 209 rfl rfl) (hs_inG 2 210 rfl rfl) (hs_inG 1 2 rfl rfl) inC_X6_isPerson)
set_option maxRecDepth 20000 in
theorem gX7_teach_X7_within : GoodIn wsX7_teach (va_wsS RX7 59 yX7_within wsX7_within) := hs_gC (hs_gS (hs_inG 2 10 rfl rfl) (hs_inG 2 11 rfl rfl) (hs_inG 1 1 rfl rfl) inC_X7_within)
theorem bqX7_teach_0 : hs_bs cX7_teach 0 [42, 180, 0, 10, 27, 182, 0, 125, 153, 0, 12, 28, 3, 6, 184, 0, 59, 154, 0, 5, 2, 172, 42] := hs_bs_of _ _ _ (by decide +kernel)
theorem dX7_teach_0 : decode cX7_teach 0 = .ok (.aload_n 0, 1) := dc42 bqX7_teach_0 0 rfl rfl
theorem dX7_teach_1 : decode cX7_teach 1 = .ok (.getfield 10, 3) := dc180 bqX7_teach_0 1 rfl rfl rfl
theorem dX7_teach_4 : decode cX7_teach 4 = .ok (.iload_n 1, 1) := dc27 bqX7_teach_0 4 rfl rfl
theorem dX7_teach_5 : decode cX7_teach 5 = .ok (.invokevirtual 125, 3) := dc182 bqX7_teach_0 5 rfl rfl rfl
theorem dX7_teach_8 : decode cX7_teach 8 = .ok (.ifCond .eq 12, 3) := dc153 bqX7_teach_0 8 rfl rfl rfl
theorem dX7_teach_11 : decode cX7_teach 11 = .ok (.iload_n 2, 1) := dc28 bqX7_teach_0 11 rfl rfl
theorem dX7_teach_12 : decode cX7_teach 12 = .ok (.iconst 0, 1) := dc3 bqX7_teach_0 12 rfl rfl
theorem dX7_teach_13 : decode cX7_teach 13 = .ok (.iconst 3, 1) := dc6 bqX7_teach_0 13 rfl rfl
theorem dX7_teach_14 : decode cX7_teach 14 = .ok (.invokestatic 59, 3) := dc184 bqX7_teach_0 14 rfl rfl rfl
theorem dX7_teach_17 : decode cX7_teach 17 = .ok (.ifCond .ne 5, 3) := dc154 bqX7_teach_0 17 rfl rfl rfl
theorem dX7_teach_20 : decode cX7_teach 20 = .ok (.iconst (-1), 1) := dc2 bqX7_teach_0 20 rfl rfl
theorem dX7_teach_21 : decode cX7_teach 21 = .ok (.ireturn, 1) := dc172 bqX7_teach_0 21 rfl rfl
theorem dX7_teach_22 : decode cX7_teach 22 = .ok (.aload_n 0, 1) := dc42 bqX7_teach_0 22 rfl rfl
theorem bqX7_teach_23 : hs_bs cX7_teach 23 [180, 0, 10, 180, 0, 128, 27, 46, 62, 42, 180, 0, 10, 180, 0, 128, 27, 28, 79, 29, 172] := hs_bs_of _ _ _ (by decide +kernel)
theorem dX7_teach_23 : decode cX7_teach 23 = .ok (.getfield 10, 3) := dc180 bqX7_teach_23 0 rfl rfl rfl
theorem dX7_teach_26 : decode cX7_teach 26 = .ok (.getfield 128, 3) := dc180 bqX7_teach_23 3 rfl rfl rfl
theorem dX7_teach_29 : decode cX7_teach 29 = .ok (.iload_n 1, 1) := dc27 bqX7_teach_23 6 rfl rfl
theorem dX7_teach_30 : decode cX7_teach 30 = .ok (.iaload, 1) := dc46 bqX7_teach_23 7 rfl rfl
theorem dX7_teach_31 : decode cX7_teach 31 = .ok (.istore_n 3, 1) := dc62 bqX7_teach_23 8 rfl rfl
theorem dX7_teach_32 : decode cX7_teach 32 = .ok (.aload_n 0, 1) := dc42 bqX7_teach_23 9 rfl rfl
theorem dX7_teach_33 : decode cX7_teach 33 = .ok (.getfield 10, 3) := dc180 bqX7_teach_23 10 rfl rfl rfl
theorem dX7_teach_36 : decode cX7_teach 36 = .ok (.getfield 128, 3) := dc180 bqX7_teach_23 13 rfl rfl rfl
theorem dX7_teach_39 : decode cX7_teach 39 = .ok (.iload_n 1, 1) := dc27 bqX7_teach_23 16 rfl rfl
theorem dX7_teach_40 : decode cX7_teach 40 = .ok (.iload_n 2, 1) := dc28 bqX7_teach_23 17 rfl rfl
theorem dX7_teach_41 : decode cX7_teach 41 = .ok (.iastore, 1) := dc79 bqX7_teach_23 18 rfl rfl
theorem dX7_teach_42 : decode cX7_teach 42 = .ok (.iload_n 3, 1) := dc29 bqX7_teach_23 19 rfl rfl
theorem dX7_teach_43 : decode cX7_teach 43 = .ok (.ireturn, 1) := dc172 bqX7_teach_23 20 rfl rfl
