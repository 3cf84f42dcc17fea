-- ===== PART A: goes FIRST, ahead of the names: the tables' words, and 'selects' of the private methods out of them =====
/-- a private method of a class that the tables say can be made, by its rows of tables_1 -/
def lw_okq (q : MethodName × Nat) : Prop := (q.1.cls ≠ "java/lang/invoke/MethodHandle" ∧ q.1.cls ≠ "java/lang/invoke/VarHandle") ∧ Cond.instantiable q.1.cls q.2 ∈ tables_1 ∧ Cond.privateMethod q.1 ∈ tables_1 ∧ Cond.instanceMethod q.1 ∈ tables_1
set_option maxRecDepth 20000 in
theorem lw_p0 : lw_okq (⟨"HalfScales$Tape", "isLong", "()Z"⟩, 6) := ⟨⟨by decide +kernel, by decide +kernel⟩, List.mem_of_getElem? (i := 118) rfl, List.mem_of_getElem? (i := 278) rfl, List.mem_of_getElem? (i := 279) rfl⟩
set_option maxRecDepth 20000 in
theorem lw_p1 : lw_okq (⟨"HalfScales$Tape", "measure", "()V"⟩, 6) := ⟨⟨by decide +kernel, by decide +kernel⟩, List.mem_of_getElem? (i := 118) rfl, List.mem_of_getElem? (i := 282) rfl, List.mem_of_getElem? (i := 283) rfl⟩
set_option maxRecDepth 20000 in
theorem lw_p2 : lw_okq (⟨"HalfScales$Teller", "takeLine", "()V"⟩, 5) := ⟨⟨by decide +kernel, by decide +kernel⟩, List.mem_of_getElem? (i := 112) rfl, List.mem_of_getElem? (i := 286) rfl, List.mem_of_getElem? (i := 287) rfl⟩
set_option maxRecDepth 20000 in
theorem lw_p3 : lw_okq (⟨"HalfScales$Teller", "lineHere", "()I"⟩, 5) := ⟨⟨by decide +kernel, by decide +kernel⟩, List.mem_of_getElem? (i := 112) rfl, List.mem_of_getElem? (i := 290) rfl, List.mem_of_getElem? (i := 291) rfl⟩
set_option maxRecDepth 20000 in
theorem lw_p4 : lw_okq (⟨"HalfScales$Teller", "checkName", "(I)V"⟩, 5) := ⟨⟨by decide +kernel, by decide +kernel⟩, List.mem_of_getElem? (i := 112) rfl, List.mem_of_getElem? (i := 358) rfl, List.mem_of_getElem? (i := 359) rfl⟩
set_option maxRecDepth 20000 in
theorem lw_p5 : lw_okq (⟨"HalfScales$Teller", "blameFor", "(I)V"⟩, 5) := ⟨⟨by decide +kernel, by decide +kernel⟩, List.mem_of_getElem? (i := 112) rfl, List.mem_of_getElem? (i := 362) rfl, List.mem_of_getElem? (i := 363) rfl⟩
set_option maxRecDepth 20000 in
theorem lw_p6 : lw_okq (⟨"HalfScales$Teller", "blame", "(I)V"⟩, 5) := ⟨⟨by decide +kernel, by decide +kernel⟩, List.mem_of_getElem? (i := 112) rfl, List.mem_of_getElem? (i := 366) rfl, List.mem_of_getElem? (i := 367) rfl⟩
set_option maxRecDepth 20000 in
theorem lw_p7 : lw_okq (⟨"HalfScales$Teller", "takeCells", "()V"⟩, 5) := ⟨⟨by decide +kernel, by decide +kernel⟩, List.mem_of_getElem? (i := 112) rfl, List.mem_of_getElem? (i := 371) rfl, List.mem_of_getElem? (i := 372) rfl⟩
set_option maxRecDepth 20000 in
theorem lw_p8 : lw_okq (⟨"HalfScales$Teller", "takeNumber", "(III)I"⟩, 5) := ⟨⟨by decide +kernel, by decide +kernel⟩, List.mem_of_getElem? (i := 112) rfl, List.mem_of_getElem? (i := 375) rfl, List.mem_of_getElem? (i := 376) rfl⟩
set_option maxRecDepth 20000 in
theorem lw_p9 : lw_okq (⟨"HalfScales$Teller", "takePair", "()V"⟩, 5) := ⟨⟨by decide +kernel, by decide +kernel⟩, List.mem_of_getElem? (i := 112) rfl, List.mem_of_getElem? (i := 380) rfl, List.mem_of_getElem? (i := 381) rfl⟩
set_option maxRecDepth 20000 in
theorem lw_p10 : lw_okq (⟨"HalfScales$Teller", "takeMark", "()V"⟩, 5) := ⟨⟨by decide +kernel, by decide +kernel⟩, List.mem_of_getElem? (i := 112) rfl, List.mem_of_getElem? (i := 392) rfl, List.mem_of_getElem? (i := 393) rfl⟩
set_option maxRecDepth 20000 in
theorem lw_p11 : lw_okq (⟨"HalfScales$Teller", "checkCase", "(LHalfScales$Ranks;)V"⟩, 5) := ⟨⟨by decide +kernel, by decide +kernel⟩, List.mem_of_getElem? (i := 112) rfl, List.mem_of_getElem? (i := 396) rfl, List.mem_of_getElem? (i := 397) rfl⟩
set_option maxRecDepth 20000 in
theorem lw_p12 : lw_okq (⟨"HalfScales$Ranks", "mayCome", "(II)Z"⟩, 3) := ⟨⟨by decide +kernel, by decide +kernel⟩, List.mem_of_getElem? (i := 171) rfl, List.mem_of_getElem? (i := 413) rfl, List.mem_of_getElem? (i := 414) rfl⟩
set_option maxRecDepth 20000 in
theorem lw_p13 : lw_okq (⟨"HalfScales", "areTwo", "(II)Z"⟩, 10) := ⟨⟨by decide +kernel, by decide +kernel⟩, List.mem_of_getElem? (i := 18) rfl, List.mem_of_getElem? (i := 585) rfl, List.mem_of_getElem? (i := 586) rfl⟩
set_option maxRecDepth 20000 in
theorem lw_p14 : lw_okq (⟨"HalfScales$Ranks", "leastBehind", "(I)I"⟩, 3) := ⟨⟨by decide +kernel, by decide +kernel⟩, List.mem_of_getElem? (i := 171) rfl, List.mem_of_getElem? (i := 646) rfl, List.mem_of_getElem? (i := 647) rfl⟩
set_option maxRecDepth 20000 in
theorem lw_p15 : lw_okq (⟨"HalfScales", "isTrial", "(III)Z"⟩, 10) := ⟨⟨by decide +kernel, by decide +kernel⟩, List.mem_of_getElem? (i := 18) rfl, List.mem_of_getElem? (i := 661) rfl, List.mem_of_getElem? (i := 662) rfl⟩
def lw_privs_1 : List (MethodName × Nat) := [(⟨"HalfScales$Tape", "isLong", "()Z"⟩, 6), (⟨"HalfScales$Tape", "measure", "()V"⟩, 6), (⟨"HalfScales$Teller", "takeLine", "()V"⟩, 5), (⟨"HalfScales$Teller", "lineHere", "()I"⟩, 5), (⟨"HalfScales$Teller", "checkName", "(I)V"⟩, 5), (⟨"HalfScales$Teller", "blameFor", "(I)V"⟩, 5), (⟨"HalfScales$Teller", "blame", "(I)V"⟩, 5), (⟨"HalfScales$Teller", "takeCells", "()V"⟩, 5), (⟨"HalfScales$Teller", "takeNumber", "(III)I"⟩, 5), (⟨"HalfScales$Teller", "takePair", "()V"⟩, 5), (⟨"HalfScales$Teller", "takeMark", "()V"⟩, 5), (⟨"HalfScales$Teller", "checkCase", "(LHalfScales$Ranks;)V"⟩, 5), (⟨"HalfScales$Ranks", "mayCome", "(II)Z"⟩, 3), (⟨"HalfScales", "areTwo", "(II)Z"⟩, 10), (⟨"HalfScales$Ranks", "leastBehind", "(I)I"⟩, 3), (⟨"HalfScales", "isTrial", "(III)Z"⟩, 10)]
theorem lw_r1 : ∀ q ∈ lw_privs_1, lw_okq q := List.forall_mem_cons.mpr ⟨lw_p0, List.forall_mem_cons.mpr ⟨lw_p1, List.forall_mem_cons.mpr ⟨lw_p2, List.forall_mem_cons.mpr ⟨lw_p3, List.forall_mem_cons.mpr ⟨lw_p4, List.forall_mem_cons.mpr ⟨lw_p5, List.forall_mem_cons.mpr ⟨lw_p6, List.forall_mem_cons.mpr ⟨lw_p7, List.forall_mem_cons.mpr ⟨lw_p8, List.forall_mem_cons.mpr ⟨lw_p9, List.forall_mem_cons.mpr ⟨lw_p10, List.forall_mem_cons.mpr ⟨lw_p11, List.forall_mem_cons.mpr ⟨lw_p12, List.forall_mem_cons.mpr ⟨lw_p13, List.forall_mem_cons.mpr ⟨lw_p14, List.forall_mem_cons.mpr ⟨lw_p15, fun _ h => absurd h List.not_mem_nil⟩⟩⟩⟩⟩⟩⟩⟩⟩⟩⟩⟩⟩⟩⟩⟩
set_option maxRecDepth 20000 in
theorem lw_p16 : lw_okq (⟨"HalfScales", "imagesThere", "()I"⟩, 10) := ⟨⟨by decide +kernel, by decide +kernel⟩, List.mem_of_getElem? (i := 18) rfl, List.mem_of_getElem? (i := 782) rfl, List.mem_of_getElem? (i := 783) rfl⟩
set_option maxRecDepth 20000 in
theorem lw_p17 : lw_okq (⟨"HalfScalesModel", "firstDraft", "()V"⟩, 32) := ⟨⟨by decide +kernel, by decide +kernel⟩, List.mem_of_getElem? (i := 787) rfl, List.mem_of_getElem? (i := 793) rfl, List.mem_of_getElem? (i := 794) rfl⟩
set_option maxRecDepth 20000 in
theorem lw_p18 : lw_okq (⟨"HalfScalesModel", "keepDraft", "()V"⟩, 32) := ⟨⟨by decide +kernel, by decide +kernel⟩, List.mem_of_getElem? (i := 787) rfl, List.mem_of_getElem? (i := 797) rfl, List.mem_of_getElem? (i := 798) rfl⟩
set_option maxRecDepth 20000 in
theorem lw_p19 : lw_okq (⟨"HalfScalesModel", "takes", "()V"⟩, 32) := ⟨⟨by decide +kernel, by decide +kernel⟩, List.mem_of_getElem? (i := 787) rfl, List.mem_of_getElem? (i := 914) rfl, List.mem_of_getElem? (i := 915) rfl⟩
set_option maxRecDepth 20000 in
theorem lw_p20 : lw_okq (⟨"HalfScalesModel", "byteAt", "(I)I"⟩, 32) := ⟨⟨by decide +kernel, by decide +kernel⟩, List.mem_of_getElem? (i := 787) rfl, List.mem_of_getElem? (i := 918) rfl, List.mem_of_getElem? (i := 919) rfl⟩
set_option maxRecDepth 20000 in
theorem lw_p21 : lw_okq (⟨"HalfScalesModel", "needs", "(ZI)V"⟩, 32) := ⟨⟨by decide +kernel, by decide +kernel⟩, List.mem_of_getElem? (i := 787) rfl, List.mem_of_getElem? (i := 926) rfl, List.mem_of_getElem? (i := 927) rfl⟩
set_option maxRecDepth 20000 in
theorem lw_p22 : lw_okq (⟨"HalfScalesModel", "readLine", "()V"⟩, 32) := ⟨⟨by decide +kernel, by decide +kernel⟩, List.mem_of_getElem? (i := 787) rfl, List.mem_of_getElem? (i := 930) rfl, List.mem_of_getElem? (i := 931) rfl⟩
set_option maxRecDepth 20000 in
theorem lw_p23 : lw_okq (⟨"HalfScalesModel", "lineNow", "()I"⟩, 32) := ⟨⟨by decide +kernel, by decide +kernel⟩, List.mem_of_getElem? (i := 787) rfl, List.mem_of_getElem? (i := 934) rfl, List.mem_of_getElem? (i := 935) rfl⟩
set_option maxRecDepth 20000 in
theorem lw_p24 : lw_okq (⟨"HalfScalesModel", "is", "(IIII)Z"⟩, 32) := ⟨⟨by decide +kernel, by decide +kernel⟩, List.mem_of_getElem? (i := 787) rfl, List.mem_of_getElem? (i := 938) rfl, List.mem_of_getElem? (i := 939) rfl⟩
set_option maxRecDepth 20000 in
theorem lw_p25 : lw_okq (⟨"HalfScalesModel", "ends", "(IIII)Z"⟩, 32) := ⟨⟨by decide +kernel, by decide +kernel⟩, List.mem_of_getElem? (i := 787) rfl, List.mem_of_getElem? (i := 942) rfl, List.mem_of_getElem? (i := 943) rfl⟩
set_option maxRecDepth 20000 in
theorem lw_p26 : lw_okq (⟨"HalfScalesModel", "readLineOf", "(I)V"⟩, 32) := ⟨⟨by decide +kernel, by decide +kernel⟩, List.mem_of_getElem? (i := 787) rfl, List.mem_of_getElem? (i := 946) rfl, List.mem_of_getElem? (i := 947) rfl⟩
set_option maxRecDepth 20000 in
theorem lw_p27 : lw_okq (⟨"HalfScalesModel", "readLighter", "()V"⟩, 32) := ⟨⟨by decide +kernel, by decide +kernel⟩, List.mem_of_getElem? (i := 787) rfl, List.mem_of_getElem? (i := 950) rfl, List.mem_of_getElem? (i := 951) rfl⟩
set_option maxRecDepth 20000 in
theorem lw_p28 : lw_okq (⟨"HalfScalesModel", "readNumber", "(II)I"⟩, 32) := ⟨⟨by decide +kernel, by decide +kernel⟩, List.mem_of_getElem? (i := 787) rfl, List.mem_of_getElem? (i := 954) rfl, List.mem_of_getElem? (i := 955) rfl⟩
set_option maxRecDepth 20000 in
theorem lw_p29 : lw_okq (⟨"HalfScalesModel", "looked", "(II)I"⟩, 32) := ⟨⟨by decide +kernel, by decide +kernel⟩, List.mem_of_getElem? (i := 787) rfl, List.mem_of_getElem? (i := 958) rfl, List.mem_of_getElem? (i := 959) rfl⟩
set_option maxRecDepth 20000 in
theorem lw_p30 : lw_okq (⟨"HalfScalesModel", "readThing", "()V"⟩, 32) := ⟨⟨by decide +kernel, by decide +kernel⟩, List.mem_of_getElem? (i := 787) rfl, List.mem_of_getElem? (i := 962) rfl, List.mem_of_getElem? (i := 963) rfl⟩
set_option maxRecDepth 20000 in
theorem lw_p31 : lw_okq (⟨"HalfScalesModel", "findOrders", "(I)V"⟩, 32) := ⟨⟨by decide +kernel, by decide +kernel⟩, List.mem_of_getElem? (i := 787) rfl, List.mem_of_getElem? (i := 966) rfl, List.mem_of_getElem? (i := 967) rfl⟩
def lw_privs_2 : List (MethodName × Nat) := [(⟨"HalfScales", "imagesThere", "()I"⟩, 10), (⟨"HalfScalesModel", "firstDraft", "()V"⟩, 32), (⟨"HalfScalesModel", "keepDraft", "()V"⟩, 32), (⟨"HalfScalesModel", "takes", "()V"⟩, 32), (⟨"HalfScalesModel", "byteAt", "(I)I"⟩, 32), (⟨"HalfScalesModel", "needs", "(ZI)V"⟩, 32), (⟨"HalfScalesModel", "readLine", "()V"⟩, 32), (⟨"HalfScalesModel", "lineNow", "()I"⟩, 32), (⟨"HalfScalesModel", "is", "(IIII)Z"⟩, 32), (⟨"HalfScalesModel", "ends", "(IIII)Z"⟩, 32), (⟨"HalfScalesModel", "readLineOf", "(I)V"⟩, 32), (⟨"HalfScalesModel", "readLighter", "()V"⟩, 32), (⟨"HalfScalesModel", "readNumber", "(II)I"⟩, 32), (⟨"HalfScalesModel", "looked", "(II)I"⟩, 32), (⟨"HalfScalesModel", "readThing", "()V"⟩, 32), (⟨"HalfScalesModel", "findOrders", "(I)V"⟩, 32)]
theorem lw_r2 : ∀ q ∈ lw_privs_2, lw_okq q := List.forall_mem_cons.mpr ⟨lw_p16, List.forall_mem_cons.mpr ⟨lw_p17, List.forall_mem_cons.mpr ⟨lw_p18, List.forall_mem_cons.mpr ⟨lw_p19, List.forall_mem_cons.mpr ⟨lw_p20, List.forall_mem_cons.mpr ⟨lw_p21, List.forall_mem_cons.mpr ⟨lw_p22, List.forall_mem_cons.mpr ⟨lw_p23, List.forall_mem_cons.mpr ⟨lw_p24, List.forall_mem_cons.mpr ⟨lw_p25, List.forall_mem_cons.mpr ⟨lw_p26, List.forall_mem_cons.mpr ⟨lw_p27, List.forall_mem_cons.mpr ⟨lw_p28, List.forall_mem_cons.mpr ⟨lw_p29, List.forall_mem_cons.mpr ⟨lw_p30, List.forall_mem_cons.mpr ⟨lw_p31, fun _ h => absurd h List.not_mem_nil⟩⟩⟩⟩⟩⟩⟩⟩⟩⟩⟩⟩⟩⟩⟩⟩
set_option maxRecDepth 20000 in
theorem lw_p32 : lw_okq (⟨"HalfScalesModel", "isOrder", "(II)Z"⟩, 32) := ⟨⟨by decide +kernel, by decide +kernel⟩, List.mem_of_getElem? (i := 787) rfl, List.mem_of_getElem? (i := 973) rfl, List.mem_of_getElem? (i := 974) rfl⟩
set_option maxRecDepth 20000 in
theorem lw_p33 : lw_okq (⟨"HalfScalesModel", "isTold", "(I)Z"⟩, 32) := ⟨⟨by decide +kernel, by decide +kernel⟩, List.mem_of_getElem? (i := 787) rfl, List.mem_of_getElem? (i := 977) rfl, List.mem_of_getElem? (i := 978) rfl⟩
set_option maxRecDepth 20000 in
theorem lw_p34 : lw_okq (⟨"HalfScalesModel", "placeOf", "(II)I"⟩, 32) := ⟨⟨by decide +kernel, by decide +kernel⟩, List.mem_of_getElem? (i := 787) rfl, List.mem_of_getElem? (i := 981) rfl, List.mem_of_getElem? (i := 982) rfl⟩
set_option maxRecDepth 20000 in
theorem lw_p35 : lw_okq (⟨"HalfScalesModel", "starts", "()V"⟩, 32) := ⟨⟨by decide +kernel, by decide +kernel⟩, List.mem_of_getElem? (i := 787) rfl, List.mem_of_getElem? (i := 993) rfl, List.mem_of_getElem? (i := 994) rfl⟩
set_option maxRecDepth 20000 in
theorem lw_p36 : lw_okq (⟨"HalfScalesModel", "allWeights", "()I"⟩, 32) := ⟨⟨by decide +kernel, by decide +kernel⟩, List.mem_of_getElem? (i := 787) rfl, List.mem_of_getElem? (i := 997) rfl, List.mem_of_getElem? (i := 998) rfl⟩
set_option maxRecDepth 20000 in
theorem lw_p37 : lw_okq (⟨"HalfScalesModel", "isCell", "(I)Z"⟩, 32) := ⟨⟨by decide +kernel, by decide +kernel⟩, List.mem_of_getElem? (i := 787) rfl, List.mem_of_getElem? (i := 1005) rfl, List.mem_of_getElem? (i := 1006) rfl⟩
set_option maxRecDepth 20000 in
theorem lw_p38 : lw_okq (⟨"HalfScalesModel", "isPerson", "(I)Z"⟩, 32) := ⟨⟨by decide +kernel, by decide +kernel⟩, List.mem_of_getElem? (i := 787) rfl, List.mem_of_getElem? (i := 1013) rfl, List.mem_of_getElem? (i := 1014) rfl⟩
set_option maxRecDepth 20000 in
theorem lw_p39 : lw_okq (⟨"HalfScalesModel", "becomes", "(II)I"⟩, 32) := ⟨⟨by decide +kernel, by decide +kernel⟩, List.mem_of_getElem? (i := 787) rfl, List.mem_of_getElem? (i := 1026) rfl, List.mem_of_getElem? (i := 1027) rfl⟩
set_option maxRecDepth 20000 in
theorem lw_p40 : lw_okq (⟨"HalfScalesModel", "worthOfAll", "(II)I"⟩, 32) := ⟨⟨by decide +kernel, by decide +kernel⟩, List.mem_of_getElem? (i := 787) rfl, List.mem_of_getElem? (i := 1061) rfl, List.mem_of_getElem? (i := 1062) rfl⟩
set_option maxRecDepth 20000 in
theorem lw_p41 : lw_okq (⟨"HalfScalesModel", "worthOf", "(II)I"⟩, 32) := ⟨⟨by decide +kernel, by decide +kernel⟩, List.mem_of_getElem? (i := 787) rfl, List.mem_of_getElem? (i := 1065) rfl, List.mem_of_getElem? (i := 1066) rfl⟩
set_option maxRecDepth 20000 in
theorem lw_p42 : lw_okq (⟨"HalfScalesModel", "isCut", "(I)Z"⟩, 32) := ⟨⟨by decide +kernel, by decide +kernel⟩, List.mem_of_getElem? (i := 787) rfl, List.mem_of_getElem? (i := 1073) rfl, List.mem_of_getElem? (i := 1074) rfl⟩
set_option maxRecDepth 20000 in
theorem lw_p43 : lw_okq (⟨"HalfScalesModel", "findOf", "(II)I"⟩, 32) := ⟨⟨by decide +kernel, by decide +kernel⟩, List.mem_of_getElem? (i := 787) rfl, List.mem_of_getElem? (i := 1077) rfl, List.mem_of_getElem? (i := 1078) rfl⟩
set_option maxRecDepth 20000 in
theorem lw_p44 : lw_okq (⟨"HalfScalesModel", "moreLeft", "(II)I"⟩, 32) := ⟨⟨by decide +kernel, by decide +kernel⟩, List.mem_of_getElem? (i := 787) rfl, List.mem_of_getElem? (i := 1084) rfl, List.mem_of_getElem? (i := 1085) rfl⟩
set_option maxRecDepth 20000 in
theorem lw_p45 : lw_okq (⟨"HalfScalesModel", "every", "()I"⟩, 32) := ⟨⟨by decide +kernel, by decide +kernel⟩, List.mem_of_getElem? (i := 787) rfl, List.mem_of_getElem? (i := 1088) rfl, List.mem_of_getElem? (i := 1089) rfl⟩
set_option maxRecDepth 20000 in
theorem lw_p46 : lw_okq (⟨"HalfScalesModel", "justTo", "(I)I"⟩, 32) := ⟨⟨by decide +kernel, by decide +kernel⟩, List.mem_of_getElem? (i := 787) rfl, List.mem_of_getElem? (i := 1099) rfl, List.mem_of_getElem? (i := 1100) rfl⟩
set_option maxRecDepth 20000 in
theorem lw_p47 : lw_okq (⟨"HalfScalesModel", "honestCut", "(I)I"⟩, 32) := ⟨⟨by decide +kernel, by decide +kernel⟩, List.mem_of_getElem? (i := 787) rfl, List.mem_of_getElem? (i := 1120) rfl, List.mem_of_getElem? (i := 1121) rfl⟩
def lw_privs_3 : List (MethodName × Nat) := [(⟨"HalfScalesModel", "isOrder", "(II)Z"⟩, 32), (⟨"HalfScalesModel", "isTold", "(I)Z"⟩, 32), (⟨"HalfScalesModel", "placeOf", "(II)I"⟩, 32), (⟨"HalfScalesModel", "starts", "()V"⟩, 32), (⟨"HalfScalesModel", "allWeights", "()I"⟩, 32), (⟨"HalfScalesModel", "isCell", "(I)Z"⟩, 32), (⟨"HalfScalesModel", "isPerson", "(I)Z"⟩, 32), (⟨"HalfScalesModel", "becomes", "(II)I"⟩, 32), (⟨"HalfScalesModel", "worthOfAll", "(II)I"⟩, 32), (⟨"HalfScalesModel", "worthOf", "(II)I"⟩, 32), (⟨"HalfScalesModel", "isCut", "(I)Z"⟩, 32), (⟨"HalfScalesModel", "findOf", "(II)I"⟩, 32), (⟨"HalfScalesModel", "moreLeft", "(II)I"⟩, 32), (⟨"HalfScalesModel", "every", "()I"⟩, 32), (⟨"HalfScalesModel", "justTo", "(I)I"⟩, 32), (⟨"HalfScalesModel", "honestCut", "(I)I"⟩, 32)]
theorem lw_r3 : ∀ q ∈ lw_privs_3, lw_okq q := List.forall_mem_cons.mpr ⟨lw_p32, List.forall_mem_cons.mpr ⟨lw_p33, List.forall_mem_cons.mpr ⟨lw_p34, List.forall_mem_cons.mpr ⟨lw_p35, List.forall_mem_cons.mpr ⟨lw_p36, List.forall_mem_cons.mpr ⟨lw_p37, List.forall_mem_cons.mpr ⟨lw_p38, List.forall_mem_cons.mpr ⟨lw_p39, List.forall_mem_cons.mpr ⟨lw_p40, List.forall_mem_cons.mpr ⟨lw_p41, List.forall_mem_cons.mpr ⟨lw_p42, List.forall_mem_cons.mpr ⟨lw_p43, List.forall_mem_cons.mpr ⟨lw_p44, List.forall_mem_cons.mpr ⟨lw_p45, List.forall_mem_cons.mpr ⟨lw_p46, List.forall_mem_cons.mpr ⟨lw_p47, fun _ h => absurd h List.not_mem_nil⟩⟩⟩⟩⟩⟩⟩⟩⟩⟩⟩⟩⟩⟩⟩⟩
set_option maxRecDepth 20000 in
theorem lw_p48 : lw_okq (⟨"HalfScalesModel", "takenBy", "(II)I"⟩, 32) := ⟨⟨by decide +kernel, by decide +kernel⟩, List.mem_of_getElem? (i := 787) rfl, List.mem_of_getElem? (i := 1129) rfl, List.mem_of_getElem? (i := 1130) rfl⟩
set_option maxRecDepth 20000 in
theorem lw_p49 : lw_okq (⟨"HalfScalesModel", "cutsOf", "(I)I"⟩, 32) := ⟨⟨by decide +kernel, by decide +kernel⟩, List.mem_of_getElem? (i := 787) rfl, List.mem_of_getElem? (i := 1141) rfl, List.mem_of_getElem? (i := 1142) rfl⟩
set_option maxRecDepth 20000 in
theorem lw_p50 : lw_okq (⟨"HalfScalesModel", "findCourt", "(II)V"⟩, 32) := ⟨⟨by decide +kernel, by decide +kernel⟩, List.mem_of_getElem? (i := 787) rfl, List.mem_of_getElem? (i := 1163) rfl, List.mem_of_getElem? (i := 1164) rfl⟩
set_option maxRecDepth 20000 in
theorem lw_p51 : lw_okq (⟨"HalfScalesModel", "isSo", "()Z"⟩, 32) := ⟨⟨by decide +kernel, by decide +kernel⟩, List.mem_of_getElem? (i := 787) rfl, List.mem_of_getElem? (i := 1189) rfl, List.mem_of_getElem? (i := 1190) rfl⟩
set_option maxRecDepth 20000 in
theorem lw_p52 : lw_okq (⟨"HalfScalesModel", "copies", "(II)V"⟩, 32) := ⟨⟨by decide +kernel, by decide +kernel⟩, List.mem_of_getElem? (i := 787) rfl, List.mem_of_getElem? (i := 1207) rfl, List.mem_of_getElem? (i := 1208) rfl⟩
def lw_privs_4 : List (MethodName × Nat) := [(⟨"HalfScalesModel", "takenBy", "(II)I"⟩, 32), (⟨"HalfScalesModel", "cutsOf", "(I)I"⟩, 32), (⟨"HalfScalesModel", "findCourt", "(II)V"⟩, 32), (⟨"HalfScalesModel", "isSo", "()Z"⟩, 32), (⟨"HalfScalesModel", "copies", "(II)V"⟩, 32)]
theorem lw_r4 : ∀ q ∈ lw_privs_4, lw_okq q := List.forall_mem_cons.mpr ⟨lw_p48, List.forall_mem_cons.mpr ⟨lw_p49, List.forall_mem_cons.mpr ⟨lw_p50, List.forall_mem_cons.mpr ⟨lw_p51, List.forall_mem_cons.mpr ⟨lw_p52, fun _ h => absurd h List.not_mem_nil⟩⟩⟩⟩⟩
def lw_privs : List (MethodName × Nat) := lw_privs_1 ++ (lw_privs_2 ++ (lw_privs_3 ++ (lw_privs_4)))
def lw_tbl : List Cond := k2_sels lw_privs ++ tables_1
theorem lw_privs_ok : ∀ q ∈ lw_privs, lw_okq q := by
  show ∀ q ∈ lw_privs_1 ++ (lw_privs_2 ++ (lw_privs_3 ++ (lw_privs_4))), lw_okq q
  exact List.forall_mem_append.mpr ⟨lw_r1, List.forall_mem_append.mpr ⟨lw_r2, List.forall_mem_append.mpr ⟨lw_r3, lw_r4⟩⟩⟩
/-- the good words of the table -/
def hs_gd : List Cond := lw_tbl.filter goodWord
