-- ===== PART A: goes FIRST, ahead of the names: the tables' words, and 'selects' of the private methods out of them =====
/-- a private method of a class that the tables say can be made, by its rows of tables_1 -/
def lw_okq (q : MethodName × Nat) : Prop := (q.1.cls ≠ "java/lang/invoke/MethodHandle" ∧ q.1.cls ≠ "java/lang/invoke/VarHandle") ∧ Cond.instantiable q.1.cls q.2 ∈ tables_1 ∧ Cond.privateMethod q.1 ∈ tables_1 ∧ Cond.instanceMethod q.1 ∈ tables_1
set_option maxRecDepth 20000 in
theorem lw_p0 : lw_okq (⟨"HalfScales$Tape", "isLong", "()Z"⟩, 6) := ⟨⟨by decide +kernel, by decide +kernel⟩, (hs_tq1 (List.mem_of_getElem? (i := 118) rfl)), (hs_tq2 (List.mem_of_getElem? (i := 38) rfl)), (hs_tq2 (List.mem_of_getElem? (i := 39) rfl))⟩
set_option maxRecDepth 20000 in
theorem lw_p1 : lw_okq (⟨"HalfScales$Tape", "measure", "()V"⟩, 6) := ⟨⟨by decide +kernel, by decide +kernel⟩, (hs_tq1 (List.mem_of_getElem? (i := 118) rfl)), (hs_tq2 (List.mem_of_getElem? (i := 42) rfl)), (hs_tq2 (List.mem_of_getElem? (i := 43) rfl))⟩
set_option maxRecDepth 20000 in
theorem lw_p2 : lw_okq (⟨"HalfScales$Teller", "takeLine", "()V"⟩, 5) := ⟨⟨by decide +kernel, by decide +kernel⟩, (hs_tq1 (List.mem_of_getElem? (i := 112) rfl)), (hs_tq2 (List.mem_of_getElem? (i := 46) rfl)), (hs_tq2 (List.mem_of_getElem? (i := 47) rfl))⟩
set_option maxRecDepth 20000 in
theorem lw_p3 : lw_okq (⟨"HalfScales$Teller", "lineHere", "()I"⟩, 5) := ⟨⟨by decide +kernel, by decide +kernel⟩, (hs_tq1 (List.mem_of_getElem? (i := 112) rfl)), (hs_tq2 (List.mem_of_getElem? (i := 50) rfl)), (hs_tq2 (List.mem_of_getElem? (i := 51) rfl))⟩
set_option maxRecDepth 20000 in
theorem lw_p4 : lw_okq (⟨"HalfScales$Teller", "checkName", "(I)V"⟩, 5) := ⟨⟨by decide +kernel, by decide +kernel⟩, (hs_tq1 (List.mem_of_getElem? (i := 112) rfl)), (hs_tq2 (List.mem_of_getElem? (i := 118) rfl)), (hs_tq2 (List.mem_of_getElem? (i := 119) rfl))⟩
set_option maxRecDepth 20000 in
theorem lw_p5 : lw_okq (⟨"HalfScales$Teller", "blameFor", "(I)V"⟩, 5) := ⟨⟨by decide +kernel, by decide +kernel⟩, (hs_tq1 (List.mem_of_getElem? (i := 112) rfl)), (hs_tq2 (List.mem_of_getElem? (i := 122) rfl)), (hs_tq2 (List.mem_of_getElem? (i := 123) rfl))⟩
set_option maxRecDepth 20000 in
theorem lw_p6 : lw_okq (⟨"HalfScales$Teller", "blame", "(I)V"⟩, 5) := ⟨⟨by decide +kernel, by decide +kernel⟩, (hs_tq1 (List.mem_of_getElem? (i := 112) rfl)), (hs_tq2 (List.mem_of_getElem? (i := 126) rfl)), (hs_tq2 (List.mem_of_getElem? (i := 127) rfl))⟩
set_option maxRecDepth 20000 in
theorem lw_p7 : lw_okq (⟨"HalfScales$Teller", "takeCells", "()V"⟩, 5) := ⟨⟨by decide +kernel, by decide +kernel⟩, (hs_tq1 (List.mem_of_getElem? (i := 112) rfl)), (hs_tq2 (List.mem_of_getElem? (i := 131) rfl)), (hs_tq2 (List.mem_of_getElem? (i := 132) rfl))⟩
set_option maxRecDepth 20000 in
theorem lw_p8 : lw_okq (⟨"HalfScales$Teller", "takeNumber", "(III)I"⟩, 5) := ⟨⟨by decide +kernel, by decide +kernel⟩, (hs_tq1 (List.mem_of_getElem? (i := 112) rfl)), (hs_tq2 (List.mem_of_getElem? (i := 135) rfl)), (hs_tq2 (List.mem_of_getElem? (i := 136) rfl))⟩
set_option maxRecDepth 20000 in
theorem lw_p9 : lw_okq (⟨"HalfScales$Teller", "takePair", "()V"⟩, 5) := ⟨⟨by decide +kernel, by decide +kernel⟩, (hs_tq1 (List.mem_of_getElem? (i := 112) rfl)), (hs_tq2 (List.mem_of_getElem? (i := 140) rfl)), (hs_tq2 (List.mem_of_getElem? (i := 141) rfl))⟩
set_option maxRecDepth 20000 in
theorem lw_p10 : lw_okq (⟨"HalfScales$Teller", "takeMark", "()V"⟩, 5) := ⟨⟨by decide +kernel, by decide +kernel⟩, (hs_tq1 (List.mem_of_getElem? (i := 112) rfl)), (hs_tq2 (List.mem_of_getElem? (i := 152) rfl)), (hs_tq2 (List.mem_of_getElem? (i := 153) rfl))⟩
set_option maxRecDepth 20000 in
theorem lw_p11 : lw_okq (⟨"HalfScales$Teller", "checkCase", "(LHalfScales$Ranks;)V"⟩, 5) := ⟨⟨by decide +kernel, by decide +kernel⟩, (hs_tq1 (List.mem_of_getElem? (i := 112) rfl)), (hs_tq2 (List.mem_of_getElem? (i := 156) rfl)), (hs_tq2 (List.mem_of_getElem? (i := 157) rfl))⟩
set_option maxRecDepth 20000 in
theorem lw_p12 : lw_okq (⟨"HalfScales$Ranks", "mayCome", "(II)Z"⟩, 3) := ⟨⟨by decide +kernel, by decide +kernel⟩, (hs_tq1 (List.mem_of_getElem? (i := 171) rfl)), (hs_tq2 (List.mem_of_getElem? (i := 173) rfl)), (hs_tq2 (List.mem_of_getElem? (i := 174) rfl))⟩
set_option maxRecDepth 20000 in
theorem lw_p13 : lw_okq (⟨"HalfScales", "areTwo", "(II)Z"⟩, 10) := ⟨⟨by decide +kernel, by decide +kernel⟩, (hs_tq1 (List.mem_of_getElem? (i := 18) rfl)), (hs_tq3 (List.mem_of_getElem? (i := 105) rfl)), (hs_tq3 (List.mem_of_getElem? (i := 106) rfl))⟩
set_option maxRecDepth 20000 in
theorem lw_p14 : lw_okq (⟨"HalfScales$Ranks", "leastBehind", "(I)I"⟩, 3) := ⟨⟨by decide +kernel, by decide +kernel⟩, (hs_tq1 (List.mem_of_getElem? (i := 171) rfl)), (hs_tq3 (List.mem_of_getElem? (i := 166) rfl)), (hs_tq3 (List.mem_of_getElem? (i := 167) rfl))⟩
set_option maxRecDepth 20000 in
theorem lw_p15 : lw_okq (⟨"HalfScales", "isTrial", "(III)Z"⟩, 10) := ⟨⟨by decide +kernel, by decide +kernel⟩, (hs_tq1 (List.mem_of_getElem? (i := 18) rfl)), (hs_tq3 (List.mem_of_getElem? (i := 181) rfl)), (hs_tq3 (List.mem_of_getElem? (i := 182) rfl))⟩
def lw_privs_1 : List (MethodName × Nat) := [(⟨"HalfScales$Tape", "isLong", "()Z"⟩, 6), (⟨"HalfScales$Tape", "measure", "()V"⟩, 6), (⟨"HalfScales$Teller", "takeLine", "()V"⟩, 5), (⟨"HalfScales$Teller", "lineHere", "()I"⟩, 5), (⟨"HalfScales$Teller", "checkName", "(I)V"⟩, 5), (⟨"HalfScales$Teller", "blameFor", "(I)V"⟩, 5), (⟨"HalfScales$Teller", "blame", "(I)V"⟩, 5), (⟨"HalfScales$Teller", "takeCells", "()V"⟩, 5), (⟨"HalfScales$Teller", "takeNumber", "(III)I"⟩, 5), (⟨"HalfScales$Teller", "takePair", "()V"⟩, 5), (⟨"HalfScales$Teller", "takeMark", "()V"⟩, 5), (⟨"HalfScales$Teller", "checkCase", "(LHalfScales$Ranks;)V"⟩, 5), (⟨"HalfScales$Ranks", "mayCome", "(II)Z"⟩, 3), (⟨"HalfScales", "areTwo", "(II)Z"⟩, 10), (⟨"HalfScales$Ranks", "leastBehind", "(I)I"⟩, 3), (⟨"HalfScales", "isTrial", "(III)Z"⟩, 10)]
theorem lw_r1 : ∀ q ∈ lw_privs_1, lw_okq q := List.forall_mem_cons.mpr ⟨lw_p0, List.forall_mem_cons.mpr ⟨lw_p1, List.forall_mem_cons.mpr ⟨lw_p2, List.forall_mem_cons.mpr ⟨lw_p3, List.forall_mem_cons.mpr ⟨lw_p4, List.forall_mem_cons.mpr ⟨lw_p5, List.forall_mem_cons.mpr ⟨lw_p6, List.forall_mem_cons.mpr ⟨lw_p7, List.forall_mem_cons.mpr ⟨lw_p8, List.forall_mem_cons.mpr ⟨lw_p9, List.forall_mem_cons.mpr ⟨lw_p10, List.forall_mem_cons.mpr ⟨lw_p11, List.forall_mem_cons.mpr ⟨lw_p12, List.forall_mem_cons.mpr ⟨lw_p13, List.forall_mem_cons.mpr ⟨lw_p14, List.forall_mem_cons.mpr ⟨lw_p15, fun _ h => absurd h List.not_mem_nil⟩⟩⟩⟩⟩⟩⟩⟩⟩⟩⟩⟩⟩⟩⟩⟩
set_option maxRecDepth 20000 in
theorem lw_p16 : lw_okq (⟨"HalfScales", "imagesThere", "()I"⟩, 10) := ⟨⟨by decide +kernel, by decide +kernel⟩, (hs_tq1 (List.mem_of_getElem? (i := 18) rfl)), (hs_tq4 (List.mem_of_getElem? (i := 62) rfl)), (hs_tq4 (List.mem_of_getElem? (i := 63) rfl))⟩
set_option maxRecDepth 20000 in
theorem lw_p17 : lw_okq (⟨"HalfScalesModel", "firstDraft", "()V"⟩, 32) := ⟨⟨by decide +kernel, by decide +kernel⟩, (hs_tq4 (List.mem_of_getElem? (i := 67) rfl)), (hs_tq4 (List.mem_of_getElem? (i := 73) rfl)), (hs_tq4 (List.mem_of_getElem? (i := 74) rfl))⟩
set_option maxRecDepth 20000 in
theorem lw_p18 : lw_okq (⟨"HalfScalesModel", "keepDraft", "()V"⟩, 32) := ⟨⟨by decide +kernel, by decide +kernel⟩, (hs_tq4 (List.mem_of_getElem? (i := 67) rfl)), (hs_tq4 (List.mem_of_getElem? (i := 77) rfl)), (hs_tq4 (List.mem_of_getElem? (i := 78) rfl))⟩
set_option maxRecDepth 20000 in
theorem lw_p19 : lw_okq (⟨"HalfScalesModel", "takes", "()V"⟩, 32) := ⟨⟨by decide +kernel, by decide +kernel⟩, (hs_tq4 (List.mem_of_getElem? (i := 67) rfl)), (hs_tq4 (List.mem_of_getElem? (i := 194) rfl)), (hs_tq4 (List.mem_of_getElem? (i := 195) rfl))⟩
set_option maxRecDepth 20000 in
theorem lw_p20 : lw_okq (⟨"HalfScalesModel", "byteAt", "(I)I"⟩, 32) := ⟨⟨by decide +kernel, by decide +kernel⟩, (hs_tq4 (List.mem_of_getElem? (i := 67) rfl)), (hs_tq4 (List.mem_of_getElem? (i := 198) rfl)), (hs_tq4 (List.mem_of_getElem? (i := 199) rfl))⟩
set_option maxRecDepth 20000 in
theorem lw_p21 : lw_okq (⟨"HalfScalesModel", "needs", "(ZI)V"⟩, 32) := ⟨⟨by decide +kernel, by decide +kernel⟩, (hs_tq4 (List.mem_of_getElem? (i := 67) rfl)), (hs_tq4 (List.mem_of_getElem? (i := 206) rfl)), (hs_tq4 (List.mem_of_getElem? (i := 207) rfl))⟩
set_option maxRecDepth 20000 in
theorem lw_p22 : lw_okq (⟨"HalfScalesModel", "readLine", "()V"⟩, 32) := ⟨⟨by decide +kernel, by decide +kernel⟩, (hs_tq4 (List.mem_of_getElem? (i := 67) rfl)), (hs_tq4 (List.mem_of_getElem? (i := 210) rfl)), (hs_tq4 (List.mem_of_getElem? (i := 211) rfl))⟩
set_option maxRecDepth 20000 in
theorem lw_p23 : lw_okq (⟨"HalfScalesModel", "lineNow", "()I"⟩, 32) := ⟨⟨by decide +kernel, by decide +kernel⟩, (hs_tq4 (List.mem_of_getElem? (i := 67) rfl)), (hs_tq4 (List.mem_of_getElem? (i := 214) rfl)), (hs_tq4 (List.mem_of_getElem? (i := 215) rfl))⟩
set_option maxRecDepth 20000 in
theorem lw_p24 : lw_okq (⟨"HalfScalesModel", "is", "(IIII)Z"⟩, 32) := ⟨⟨by decide +kernel, by decide +kernel⟩, (hs_tq4 (List.mem_of_getElem? (i := 67) rfl)), (hs_tq4 (List.mem_of_getElem? (i := 218) rfl)), (hs_tq4 (List.mem_of_getElem? (i := 219) rfl))⟩
set_option maxRecDepth 20000 in
theorem lw_p25 : lw_okq (⟨"HalfScalesModel", "ends", "(IIII)Z"⟩, 32) := ⟨⟨by decide +kernel, by decide +kernel⟩, (hs_tq4 (List.mem_of_getElem? (i := 67) rfl)), (hs_tq4 (List.mem_of_getElem? (i := 222) rfl)), (hs_tq4 (List.mem_of_getElem? (i := 223) rfl))⟩
set_option maxRecDepth 20000 in
theorem lw_p26 : lw_okq (⟨"HalfScalesModel", "readLineOf", "(I)V"⟩, 32) := ⟨⟨by decide +kernel, by decide +kernel⟩, (hs_tq4 (List.mem_of_getElem? (i := 67) rfl)), (hs_tq4 (List.mem_of_getElem? (i := 226) rfl)), (hs_tq4 (List.mem_of_getElem? (i := 227) rfl))⟩
set_option maxRecDepth 20000 in
theorem lw_p27 : lw_okq (⟨"HalfScalesModel", "readLighter", "()V"⟩, 32) := ⟨⟨by decide +kernel, by decide +kernel⟩, (hs_tq4 (List.mem_of_getElem? (i := 67) rfl)), (hs_tq4 (List.mem_of_getElem? (i := 230) rfl)), (hs_tq4 (List.mem_of_getElem? (i := 231) rfl))⟩
set_option maxRecDepth 20000 in
theorem lw_p28 : lw_okq (⟨"HalfScalesModel", "readNumber", "(II)I"⟩, 32) := ⟨⟨by decide +kernel, by decide +kernel⟩, (hs_tq4 (List.mem_of_getElem? (i := 67) rfl)), (hs_tq4 (List.mem_of_getElem? (i := 234) rfl)), (hs_tq4 (List.mem_of_getElem? (i := 235) rfl))⟩
set_option maxRecDepth 20000 in
theorem lw_p29 : lw_okq (⟨"HalfScalesModel", "looked", "(II)I"⟩, 32) := ⟨⟨by decide +kernel, by decide +kernel⟩, (hs_tq4 (List.mem_of_getElem? (i := 67) rfl)), (hs_tq4 (List.mem_of_getElem? (i := 238) rfl)), (hs_tq4 (List.mem_of_getElem? (i := 239) rfl))⟩
set_option maxRecDepth 20000 in
theorem lw_p30 : lw_okq (⟨"HalfScalesModel", "readThing", "()V"⟩, 32) := ⟨⟨by decide +kernel, by decide +kernel⟩, (hs_tq4 (List.mem_of_getElem? (i := 67) rfl)), (hs_tq5 (List.mem_of_getElem? (i := 2) rfl)), (hs_tq5 (List.mem_of_getElem? (i := 3) rfl))⟩
set_option maxRecDepth 20000 in
theorem lw_p31 : lw_okq (⟨"HalfScalesModel", "findOrders", "(I)V"⟩, 32) := ⟨⟨by decide +kernel, by decide +kernel⟩, (hs_tq4 (List.mem_of_getElem? (i := 67) rfl)), (hs_tq5 (List.mem_of_getElem? (i := 6) rfl)), (hs_tq5 (List.mem_of_getElem? (i := 7) rfl))⟩
def lw_privs_2 : List (MethodName × Nat) := [(⟨"HalfScales", "imagesThere", "()I"⟩, 10), (⟨"HalfScalesModel", "firstDraft", "()V"⟩, 32), (⟨"HalfScalesModel", "keepDraft", "()V"⟩, 32), (⟨"HalfScalesModel", "takes", "()V"⟩, 32), (⟨"HalfScalesModel", "byteAt", "(I)I"⟩, 32), (⟨"HalfScalesModel", "needs", "(ZI)V"⟩, 32), (⟨"HalfScalesModel", "readLine", "()V"⟩, 32), (⟨"HalfScalesModel", "lineNow", "()I"⟩, 32), (⟨"HalfScalesModel", "is", "(IIII)Z"⟩, 32), (⟨"HalfScalesModel", "ends", "(IIII)Z"⟩, 32), (⟨"HalfScalesModel", "readLineOf", "(I)V"⟩, 32), (⟨"HalfScalesModel", "readLighter", "()V"⟩, 32), (⟨"HalfScalesModel", "readNumber", "(II)I"⟩, 32), (⟨"HalfScalesModel", "looked", "(II)I"⟩, 32), (⟨"HalfScalesModel", "readThing", "()V"⟩, 32), (⟨"HalfScalesModel", "findOrders", "(I)V"⟩, 32)]
theorem lw_r2 : ∀ q ∈ lw_privs_2, lw_okq q := List.forall_mem_cons.mpr ⟨lw_p16, List.forall_mem_cons.mpr ⟨lw_p17, List.forall_mem_cons.mpr ⟨lw_p18, List.forall_mem_cons.mpr ⟨lw_p19, List.forall_mem_cons.mpr ⟨lw_p20, List.forall_mem_cons.mpr ⟨lw_p21, List.forall_mem_cons.mpr ⟨lw_p22, List.forall_mem_cons.mpr ⟨lw_p23, List.forall_mem_cons.mpr ⟨lw_p24, List.forall_mem_cons.mpr ⟨lw_p25, List.forall_mem_cons.mpr ⟨lw_p26, List.forall_mem_cons.mpr ⟨lw_p27, List.forall_mem_cons.mpr ⟨lw_p28, List.forall_mem_cons.mpr ⟨lw_p29, List.forall_mem_cons.mpr ⟨lw_p30, List.forall_mem_cons.mpr ⟨lw_p31, fun _ h => absurd h List.not_mem_nil⟩⟩⟩⟩⟩⟩⟩⟩⟩⟩⟩⟩⟩⟩⟩⟩
set_option maxRecDepth 20000 in
theorem lw_p32 : lw_okq (⟨"HalfScalesModel", "isOrder", "(II)Z"⟩, 32) := ⟨⟨by decide +kernel, by decide +kernel⟩, (hs_tq4 (List.mem_of_getElem? (i := 67) rfl)), (hs_tq5 (List.mem_of_getElem? (i := 13) rfl)), (hs_tq5 (List.mem_of_getElem? (i := 14) rfl))⟩
set_option maxRecDepth 20000 in
theorem lw_p33 : lw_okq (⟨"HalfScalesModel", "isTold", "(I)Z"⟩, 32) := ⟨⟨by decide +kernel, by decide +kernel⟩, (hs_tq4 (List.mem_of_getElem? (i := 67) rfl)), (hs_tq5 (List.mem_of_getElem? (i := 17) rfl)), (hs_tq5 (List.mem_of_getElem? (i := 18) rfl))⟩
set_option maxRecDepth 20000 in
theorem lw_p34 : lw_okq (⟨"HalfScalesModel", "placeOf", "(II)I"⟩, 32) := ⟨⟨by decide +kernel, by decide +kernel⟩, (hs_tq4 (List.mem_of_getElem? (i := 67) rfl)), (hs_tq5 (List.mem_of_getElem? (i := 21) rfl)), (hs_tq5 (List.mem_of_getElem? (i := 22) rfl))⟩
set_option maxRecDepth 20000 in
theorem lw_p35 : lw_okq (⟨"HalfScalesModel", "starts", "()V"⟩, 32) := ⟨⟨by decide +kernel, by decide +kernel⟩, (hs_tq4 (List.mem_of_getElem? (i := 67) rfl)), (hs_tq5 (List.mem_of_getElem? (i := 33) rfl)), (hs_tq5 (List.mem_of_getElem? (i := 34) rfl))⟩
set_option maxRecDepth 20000 in
theorem lw_p36 : lw_okq (⟨"HalfScalesModel", "allWeights", "()I"⟩, 32) := ⟨⟨by decide +kernel, by decide +kernel⟩, (hs_tq4 (List.mem_of_getElem? (i := 67) rfl)), (hs_tq5 (List.mem_of_getElem? (i := 37) rfl)), (hs_tq5 (List.mem_of_getElem? (i := 38) rfl))⟩
set_option maxRecDepth 20000 in
theorem lw_p37 : lw_okq (⟨"HalfScalesModel", "isCell", "(I)Z"⟩, 32) := ⟨⟨by decide +kernel, by decide +kernel⟩, (hs_tq4 (List.mem_of_getElem? (i := 67) rfl)), (hs_tq5 (List.mem_of_getElem? (i := 45) rfl)), (hs_tq5 (List.mem_of_getElem? (i := 46) rfl))⟩
set_option maxRecDepth 20000 in
theorem lw_p38 : lw_okq (⟨"HalfScalesModel", "isPerson", "(I)Z"⟩, 32) := ⟨⟨by decide +kernel, by decide +kernel⟩, (hs_tq4 (List.mem_of_getElem? (i := 67) rfl)), (hs_tq5 (List.mem_of_getElem? (i := 53) rfl)), (hs_tq5 (List.mem_of_getElem? (i := 54) rfl))⟩
set_option maxRecDepth 20000 in
theorem lw_p39 : lw_okq (⟨"HalfScalesModel", "becomes", "(II)I"⟩, 32) := ⟨⟨by decide +kernel, by decide +kernel⟩, (hs_tq4 (List.mem_of_getElem? (i := 67) rfl)), (hs_tq5 (List.mem_of_getElem? (i := 66) rfl)), (hs_tq5 (List.mem_of_getElem? (i := 67) rfl))⟩
set_option maxRecDepth 20000 in
theorem lw_p40 : lw_okq (⟨"HalfScalesModel", "worthOfAll", "(II)I"⟩, 32) := ⟨⟨by decide +kernel, by decide +kernel⟩, (hs_tq4 (List.mem_of_getElem? (i := 67) rfl)), (hs_tq5 (List.mem_of_getElem? (i := 101) rfl)), (hs_tq5 (List.mem_of_getElem? (i := 102) rfl))⟩
set_option maxRecDepth 20000 in
theorem lw_p41 : lw_okq (⟨"HalfScalesModel", "worthOf", "(II)I"⟩, 32) := ⟨⟨by decide +kernel, by decide +kernel⟩, (hs_tq4 (List.mem_of_getElem? (i := 67) rfl)), (hs_tq5 (List.mem_of_getElem? (i := 105) rfl)), (hs_tq5 (List.mem_of_getElem? (i := 106) rfl))⟩
set_option maxRecDepth 20000 in
theorem lw_p42 : lw_okq (⟨"HalfScalesModel", "isCut", "(I)Z"⟩, 32) := ⟨⟨by decide +kernel, by decide +kernel⟩, (hs_tq4 (List.mem_of_getElem? (i := 67) rfl)), (hs_tq5 (List.mem_of_getElem? (i := 113) rfl)), (hs_tq5 (List.mem_of_getElem? (i := 114) rfl))⟩
set_option maxRecDepth 20000 in
theorem lw_p43 : lw_okq (⟨"HalfScalesModel", "findOf", "(II)I"⟩, 32) := ⟨⟨by decide +kernel, by decide +kernel⟩, (hs_tq4 (List.mem_of_getElem? (i := 67) rfl)), (hs_tq5 (List.mem_of_getElem? (i := 117) rfl)), (hs_tq5 (List.mem_of_getElem? (i := 118) rfl))⟩
set_option maxRecDepth 20000 in
theorem lw_p44 : lw_okq (⟨"HalfScalesModel", "moreLeft", "(II)I"⟩, 32) := ⟨⟨by decide +kernel, by decide +kernel⟩, (hs_tq4 (List.mem_of_getElem? (i := 67) rfl)), (hs_tq5 (List.mem_of_getElem? (i := 124) rfl)), (hs_tq5 (List.mem_of_getElem? (i := 125) rfl))⟩
set_option maxRecDepth 20000 in
theorem lw_p45 : lw_okq (⟨"HalfScalesModel", "every", "()I"⟩, 32) := ⟨⟨by decide +kernel, by decide +kernel⟩, (hs_tq4 (List.mem_of_getElem? (i := 67) rfl)), (hs_tq5 (List.mem_of_getElem? (i := 128) rfl)), (hs_tq5 (List.mem_of_getElem? (i := 129) rfl))⟩
set_option maxRecDepth 20000 in
theorem lw_p46 : lw_okq (⟨"HalfScalesModel", "justTo", "(I)I"⟩, 32) := ⟨⟨by decide +kernel, by decide +kernel⟩, (hs_tq4 (List.mem_of_getElem? (i := 67) rfl)), (hs_tq5 (List.mem_of_getElem? (i := 139) rfl)), (hs_tq5 (List.mem_of_getElem? (i := 140) rfl))⟩
set_option maxRecDepth 20000 in
theorem lw_p47 : lw_okq (⟨"HalfScalesModel", "honestCut", "(I)I"⟩, 32) := ⟨⟨by decide +kernel, by decide +kernel⟩, (hs_tq4 (List.mem_of_getElem? (i := 67) rfl)), (hs_tq5 (List.mem_of_getElem? (i := 160) rfl)), (hs_tq5 (List.mem_of_getElem? (i := 161) rfl))⟩
def lw_privs_3 : List (MethodName × Nat) := [(⟨"HalfScalesModel", "isOrder", "(II)Z"⟩, 32), (⟨"HalfScalesModel", "isTold", "(I)Z"⟩, 32), (⟨"HalfScalesModel", "placeOf", "(II)I"⟩, 32), (⟨"HalfScalesModel", "starts", "()V"⟩, 32), (⟨"HalfScalesModel", "allWeights", "()I"⟩, 32), (⟨"HalfScalesModel", "isCell", "(I)Z"⟩, 32), (⟨"HalfScalesModel", "isPerson", "(I)Z"⟩, 32), (⟨"HalfScalesModel", "becomes", "(II)I"⟩, 32), (⟨"HalfScalesModel", "worthOfAll", "(II)I"⟩, 32), (⟨"HalfScalesModel", "worthOf", "(II)I"⟩, 32), (⟨"HalfScalesModel", "isCut", "(I)Z"⟩, 32), (⟨"HalfScalesModel", "findOf", "(II)I"⟩, 32), (⟨"HalfScalesModel", "moreLeft", "(II)I"⟩, 32), (⟨"HalfScalesModel", "every", "()I"⟩, 32), (⟨"HalfScalesModel", "justTo", "(I)I"⟩, 32), (⟨"HalfScalesModel", "honestCut", "(I)I"⟩, 32)]
theorem lw_r3 : ∀ q ∈ lw_privs_3, lw_okq q := List.forall_mem_cons.mpr ⟨lw_p32, List.forall_mem_cons.mpr ⟨lw_p33, List.forall_mem_cons.mpr ⟨lw_p34, List.forall_mem_cons.mpr ⟨lw_p35, List.forall_mem_cons.mpr ⟨lw_p36, List.forall_mem_cons.mpr ⟨lw_p37, List.forall_mem_cons.mpr ⟨lw_p38, List.forall_mem_cons.mpr ⟨lw_p39, List.forall_mem_cons.mpr ⟨lw_p40, List.forall_mem_cons.mpr ⟨lw_p41, List.forall_mem_cons.mpr ⟨lw_p42, List.forall_mem_cons.mpr ⟨lw_p43, List.forall_mem_cons.mpr ⟨lw_p44, List.forall_mem_cons.mpr ⟨lw_p45, List.forall_mem_cons.mpr ⟨lw_p46, List.forall_mem_cons.mpr ⟨lw_p47, fun _ h => absurd h List.not_mem_nil⟩⟩⟩⟩⟩⟩⟩⟩⟩⟩⟩⟩⟩⟩⟩⟩
set_option maxRecDepth 20000 in
theorem lw_p48 : lw_okq (⟨"HalfScalesModel", "takenBy", "(II)I"⟩, 32) := ⟨⟨by decide +kernel, by decide +kernel⟩, (hs_tq4 (List.mem_of_getElem? (i := 67) rfl)), (hs_tq5 (List.mem_of_getElem? (i := 169) rfl)), (hs_tq5 (List.mem_of_getElem? (i := 170) rfl))⟩
set_option maxRecDepth 20000 in
theorem lw_p49 : lw_okq (⟨"HalfScalesModel", "cutsOf", "(I)I"⟩, 32) := ⟨⟨by decide +kernel, by decide +kernel⟩, (hs_tq4 (List.mem_of_getElem? (i := 67) rfl)), (hs_tq5 (List.mem_of_getElem? (i := 181) rfl)), (hs_tq5 (List.mem_of_getElem? (i := 182) rfl))⟩
set_option maxRecDepth 20000 in
theorem lw_p50 : lw_okq (⟨"HalfScalesModel", "findCourt", "(II)V"⟩, 32) := ⟨⟨by decide +kernel, by decide +kernel⟩, (hs_tq4 (List.mem_of_getElem? (i := 67) rfl)), (hs_tq5 (List.mem_of_getElem? (i := 203) rfl)), (hs_tq5 (List.mem_of_getElem? (i := 204) rfl))⟩
set_option maxRecDepth 20000 in
theorem lw_p51 : lw_okq (⟨"HalfScalesModel", "isSo", "()Z"⟩, 32) := ⟨⟨by decide +kernel, by decide +kernel⟩, (hs_tq4 (List.mem_of_getElem? (i := 67) rfl)), (hs_tq5 (List.mem_of_getElem? (i := 229) rfl)), (hs_tq5 (List.mem_of_getElem? (i := 230) rfl))⟩
set_option maxRecDepth 20000 in
theorem lw_p52 : lw_okq (⟨"HalfScalesModel", "copies", "(II)V"⟩, 32) := ⟨⟨by decide +kernel, by decide +kernel⟩, (hs_tq4 (List.mem_of_getElem? (i := 67) rfl)), (hs_tq6 (List.mem_of_getElem? (i := 7) rfl)), (hs_tq6 (List.mem_of_getElem? (i := 8) rfl))⟩
def lw_privs_4 : List (MethodName × Nat) := [(⟨"HalfScalesModel", "takenBy", "(II)I"⟩, 32), (⟨"HalfScalesModel", "cutsOf", "(I)I"⟩, 32), (⟨"HalfScalesModel", "findCourt", "(II)V"⟩, 32), (⟨"HalfScalesModel", "isSo", "()Z"⟩, 32), (⟨"HalfScalesModel", "copies", "(II)V"⟩, 32)]
theorem lw_r4 : ∀ q ∈ lw_privs_4, lw_okq q := List.forall_mem_cons.mpr ⟨lw_p48, List.forall_mem_cons.mpr ⟨lw_p49, List.forall_mem_cons.mpr ⟨lw_p50, List.forall_mem_cons.mpr ⟨lw_p51, List.forall_mem_cons.mpr ⟨lw_p52, fun _ h => absurd h List.not_mem_nil⟩⟩⟩⟩⟩
def lw_privs : List (MethodName × Nat) := lw_privs_1 ++ (lw_privs_2 ++ (lw_privs_3 ++ (lw_privs_4)))
def lw_tbl : List Cond := k2_sels lw_privs ++ tables_1
theorem lw_privs_ok : ∀ q ∈ lw_privs, lw_okq q := by
  show ∀ q ∈ lw_privs_1 ++ (lw_privs_2 ++ (lw_privs_3 ++ (lw_privs_4))), lw_okq q
  exact List.forall_mem_append.mpr ⟨lw_r1, List.forall_mem_append.mpr ⟨lw_r2, List.forall_mem_append.mpr ⟨lw_r3, lw_r4⟩⟩⟩
/-- the good words of the table -/
def hs_gd : List Cond := lw_tbl.filter goodWord
